set_option maxHeartbeats 16000000 in
set_option maxRecDepth 100000 in
theorem c_X10_wont (l : Launch) (D : va_G) (cy : Nat → ClassId) (hm : Nat → Nat) (v_taped v_walkers v_loads v_pieces v_changeCosts v_planned v_isMarch v_clauseMany v_place v_end v_bad v_clauses v_codes v_open v_stacked v_isOver v_isBehind v_atW v_atL v_atT v_atH v_atM v_atI v_atQ v_packing v_packed v_goPace v_goMinutes v_spentAt v_ranChanges : Int32) (f_m_tape f_m_knee f_m_weight f_m_isLame f_m_loadWeight f_m_owner f_m_food f_m_miles f_m_slope f_m_clauseLetter f_m_sumFrom f_m_codeFrom f_m_codeTo f_m_code f_m_codeArg f_m_newLetter f_m_newSum f_m_newFrom f_m_newTo f_m_newCode f_m_newArg f_m_stack f_m_worth f_m_isRefused f_m_least f_m_packPounds f_m_packOwner f_m_room f_m_givenTo f_m_canBe f_m_setPounds f_m_plainTime f_m_muleTime f_m_planTo f_m_march f_m_tired f_m_ranMinutes f_m_tiredAhead f_m_isReached f_m_toEnd f_m_upTo f_m_upNext f_m_byChanges f_m_bandPaces : Nat → Int32) (sz : Nat) (i : Int32) (all : Int32) (hb_v_walkers : 0 ≤ v_walkers.toInt ∧ v_walkers.toInt ≤ 6) (hb_v_loads : 0 ≤ v_loads.toInt ∧ v_loads.toInt ≤ 9) (hb_v_pieces : 0 ≤ v_pieces.toInt ∧ v_pieces.toInt ≤ 10) (hb_v_clauseMany : 0 ≤ v_clauseMany.toInt ∧ v_clauseMany.toInt ≤ 14) (hb_v_atW : 0 ≤ v_atW.toInt ∧ v_atW.toInt ≤ 5) (hb_v_packed : 0 ≤ v_packed.toInt ∧ v_packed.toInt ≤ 10) (hr_m_weight : rg (0) 250 f_m_weight) (hr_m_isLame : rg (0) 1 f_m_isLame) (hr_m_loadWeight : rg (0) 120 f_m_loadWeight) (hr_m_owner : rg (-1) 5 f_m_owner) (hr_m_food : rg (0) 20 f_m_food) (hr_m_miles : rg (0) 20 f_m_miles) (hr_m_isRefused : rg (0) 1 f_m_isRefused) (hr_m_packPounds : rg (0) 250 f_m_packPounds) (hr_m_packOwner : rg (-1) 5 f_m_packOwner) (hr_m_canBe : rg (0) 1 f_m_canBe) (hwf : wfC v_clauseMany f_m_sumFrom f_m_codeFrom f_m_codeTo f_m_code) : gMi l yX10_wont cX10_wont 5 .int 8 [.ref (hm 0), .int i, .int all] D cy (wMD cy hm v_taped v_walkers v_loads v_pieces v_changeCosts v_planned v_isMarch v_clauseMany v_place v_end v_bad v_clauses v_codes v_open v_stacked v_isOver v_isBehind v_atW v_atL v_atT v_atH v_atM v_atI v_atQ v_packing v_packed v_goPace v_goMinutes v_spentAt v_ranChanges f_m_tape f_m_knee f_m_weight f_m_isLame f_m_loadWeight f_m_owner f_m_food f_m_miles f_m_slope f_m_clauseLetter f_m_sumFrom f_m_codeFrom f_m_codeTo f_m_code f_m_codeArg f_m_newLetter f_m_newSum f_m_newFrom f_m_newTo f_m_newCode f_m_newArg f_m_stack f_m_worth f_m_isRefused f_m_least f_m_packPounds f_m_packOwner f_m_room f_m_givenTo f_m_canBe f_m_setPounds f_m_plainTime f_m_muleTime f_m_planTo f_m_march f_m_tired f_m_ranMinutes f_m_tiredAhead f_m_isReached f_m_toEnd f_m_upTo f_m_upNext f_m_byChanges f_m_bandPaces) NT sz (fun (r : Int32) (u : Int32 × Int32 × Int32 × Int32 × Int32 × Int32 × Int32 × Int32 × Int32 × (Nat → Int32) × (Nat → Int32) × (Nat → Int32) × (Nat → Int32) × (Nat → Int32) × (Nat → Int32) × (Nat → Int32) × (Nat → Int32) × (Nat → Int32)) => (0 ≤ (u.1).toInt ∧ (u.1).toInt ≤ 5) ∧ (0 ≤ (u.2.2.2.2.2.2.2.2.1).toInt ∧ (u.2.2.2.2.2.2.2.2.1).toInt ≤ 10) ∧ (rg (0) 1 (u.2.2.2.2.2.2.2.2.2.2.1)) ∧ (rg (0) 250 (u.2.2.2.2.2.2.2.2.2.2.2.2.1)) ∧ (rg (-1) 5 (u.2.2.2.2.2.2.2.2.2.2.2.2.2.1)) ∧ (rg (0) 1 (u.2.2.2.2.2.2.2.2.2.2.2.2.2.2.2.2.1))) (fun u => wMD cy hm v_taped v_walkers v_loads v_pieces v_changeCosts v_planned v_isMarch v_clauseMany v_place v_end v_bad v_clauses v_codes v_open v_stacked v_isOver v_isBehind (u.1) (u.2.1) (u.2.2.1) (u.2.2.2.1) (u.2.2.2.2.1) (u.2.2.2.2.2.1) (u.2.2.2.2.2.2.1) (u.2.2.2.2.2.2.2.1) (u.2.2.2.2.2.2.2.2.1) v_goPace v_goMinutes v_spentAt v_ranChanges f_m_tape f_m_knee f_m_weight f_m_isLame f_m_loadWeight f_m_owner f_m_food f_m_miles f_m_slope f_m_clauseLetter f_m_sumFrom f_m_codeFrom f_m_codeTo f_m_code f_m_codeArg f_m_newLetter f_m_newSum f_m_newFrom f_m_newTo f_m_newCode f_m_newArg f_m_stack (u.2.2.2.2.2.2.2.2.2.1) (u.2.2.2.2.2.2.2.2.2.2.1) (u.2.2.2.2.2.2.2.2.2.2.2.1) (u.2.2.2.2.2.2.2.2.2.2.2.2.1) (u.2.2.2.2.2.2.2.2.2.2.2.2.2.1) (u.2.2.2.2.2.2.2.2.2.2.2.2.2.2.1) (u.2.2.2.2.2.2.2.2.2.2.2.2.2.2.2.1) (u.2.2.2.2.2.2.2.2.2.2.2.2.2.2.2.2.1) (u.2.2.2.2.2.2.2.2.2.2.2.2.2.2.2.2.2) f_m_plainTime f_m_muleTime f_m_planTo f_m_march f_m_tired f_m_ranMinutes f_m_tiredAhead f_m_isReached f_m_toEnd f_m_upTo f_m_upNext f_m_byChanges f_m_bandPaces) := by
  refine gMi_in (by decide) (Nat.le_of_ble_eq_true rfl) ?_
  intro p e s m args below meth c A ls Q hx hb hml hts hown hsz hP hK hD hN hAe hA hS hl hret
  subst hsz
  have hl : lv_has ls 5 [(0, .ref (hm 0)), (1, .int i), (2, .int all)] := hl
  have hrt := fun (r : Int32) (v_atW' : Int32) (v_atL' : Int32) (v_atT' : Int32) (v_atH' : Int32) (v_atM' : Int32) (v_atI' : Int32) (v_atQ' : Int32) (v_packing' : Int32) (v_packed' : Int32) (f_m_worth' : Nat → Int32) (f_m_isRefused' : Nat → Int32) (f_m_least' : Nat → Int32) (f_m_packPounds' : Nat → Int32) (f_m_packOwner' : Nat → Int32) (f_m_room' : Nat → Int32) (f_m_givenTo' : Nat → Int32) (f_m_canBe' : Nat → Int32) (f_m_setPounds' : Nat → Int32) (hp : (0 ≤ v_atW'.toInt ∧ v_atW'.toInt ≤ 5) ∧ (0 ≤ v_packed'.toInt ∧ v_packed'.toInt ≤ 10) ∧ (rg (0) 1 f_m_isRefused') ∧ (rg (0) 250 f_m_packPounds') ∧ (rg (-1) 5 f_m_packOwner') ∧ (rg (0) 1 f_m_canBe')) {H : Heap} {locs : List Loc} {pc : Nat} {ls : Array Slot} => hret r (v_atW', v_atL', v_atT', v_atH', v_atM', v_atI', v_atQ', v_packing', v_packed', f_m_worth', f_m_isRefused', f_m_least', f_m_packPounds', f_m_packOwner', f_m_room', f_m_givenTo', f_m_canBe', f_m_setPounds') (H := H) (locs := locs) (pc := pc) (ls := ls) hp
  clear hret
  refine lv_aload_n hx hb dX10_wont_0 rfl (lv_at hl 0 rfl) ?_
  refine lv_iload_n hx hb dX10_wont_1 rfl (lv_at hl 1 rfl) ?_
  refine lv_iload_n hx hb dX10_wont_2 rfl (lv_at hl 2 rfl) ?_
  refine xi hD hS hA (xV (As := [.int i, .int all]) (rest := []) hx hb hml hown hts hK hP hD hS hA NT_ok hN hAe hl.1 ⟨Nat.le_refl _, Nat.le_refl _⟩ 0 rfl rfl rfl (c_X10_canAsk l D cy hm v_taped v_walkers v_loads v_pieces v_changeCosts v_planned v_isMarch v_clauseMany v_place v_end v_bad v_clauses v_codes v_open v_stacked v_isOver v_isBehind v_atW v_atL v_atT v_atH v_atM v_atI v_atQ v_packing v_packed v_goPace v_goMinutes v_spentAt v_ranChanges f_m_tape f_m_knee f_m_weight f_m_isLame f_m_loadWeight f_m_owner f_m_food f_m_miles f_m_slope f_m_clauseLetter f_m_sumFrom f_m_codeFrom f_m_codeTo f_m_code f_m_codeArg f_m_newLetter f_m_newSum f_m_newFrom f_m_newTo f_m_newCode f_m_newArg f_m_stack f_m_worth f_m_isRefused f_m_least f_m_packPounds f_m_packOwner f_m_room f_m_givenTo f_m_canBe f_m_setPounds f_m_plainTime f_m_muleTime f_m_planTo f_m_march f_m_tired f_m_ranMinutes f_m_tiredAhead f_m_isReached f_m_toEnd f_m_upTo f_m_upNext f_m_byChanges f_m_bandPaces s.heap.size i all (by omega) (by omega)) (gi_V lwd_645 lwd_646 lwd_647 lwd_5 lwd_648) ⟨rfl, hd_X10_canAsk⟩ ⟨Nat.le_of_ble_eq_true rfl, Nat.le_of_ble_eq_true rfl⟩ rfl (Nat.le_of_ble_eq_true rfl) dX10_wont_3) (fun r_2 u_1 H locs hw hP hD hS => ?_)
  try dsimp only at hw hP hD
  obtain ⟨p_3, p_4⟩ := hw
  refine lv_if_ne (tgt := 13) hx hb dX10_wont_6 (by decide) (fun c_5 => ?_) (fun c_5 => ?_)
  · have gc_5 : r_2.toInt ≠ 0 := i_ne (rfl : r_2.toInt = r_2.toInt) (by decide : (0 : Int32).toInt = 0) c_5
    refine lv_aload_n hx hb dX10_wont_13 rfl (lv_at hl 0 rfl) ?_
    refine lv_iload_n hx hb dX10_wont_14 rfl (lv_at hl 1 rfl) ?_
    refine lv_iload_n hx hb dX10_wont_15 rfl (lv_at hl 2 rfl) ?_
    refine xv hD hS hA (xV (As := [.int i, .int all]) (rest := []) hx hb hml hown hts hK hP hD hS hA NT_ok hN hAe hl.1 ⟨Nat.le_refl _, Nat.le_refl _⟩ 0 rfl rfl rfl (c_X10_lays l D cy hm v_taped v_walkers v_loads v_pieces v_changeCosts v_planned v_isMarch v_clauseMany v_place v_end v_bad v_clauses v_codes v_open v_stacked v_isOver v_isBehind v_atW v_atL v_atT v_atH v_atM v_atI v_atQ v_packing v_packed v_goPace v_goMinutes v_spentAt v_ranChanges f_m_tape f_m_knee f_m_weight f_m_isLame f_m_loadWeight f_m_owner f_m_food f_m_miles f_m_slope f_m_clauseLetter f_m_sumFrom f_m_codeFrom f_m_codeTo f_m_code f_m_codeArg f_m_newLetter f_m_newSum f_m_newFrom f_m_newTo f_m_newCode f_m_newArg f_m_stack f_m_worth f_m_isRefused f_m_least f_m_packPounds f_m_packOwner f_m_room f_m_givenTo f_m_canBe f_m_setPounds f_m_plainTime f_m_muleTime f_m_planTo f_m_march f_m_tired f_m_ranMinutes f_m_tiredAhead f_m_isReached f_m_toEnd f_m_upTo f_m_upNext f_m_byChanges f_m_bandPaces H.size i all (by omega) (by omega) (by omega) hr_m_weight hr_m_isLame hr_m_miles hr_m_isRefused (by omega) (by omega) hwf) (gi_V lwd_653 lwd_654 lwd_655 lwd_5 lwd_656) ⟨rfl, hd_X10_lays⟩ ⟨Nat.le_of_ble_eq_true rfl, Nat.le_of_ble_eq_true rfl⟩ rfl (Nat.le_of_ble_eq_true rfl) dX10_wont_16) (fun u_6 H locs hw hP hD hS => ?_)
    obtain ⟨zatW_8, zatL_9, zatT_10, zatH_11, zatM_12, zatI_13, zatQ_14, zworth_15, zisRefused_16, zleast_17⟩ := u_6
    try dsimp only at hw hP hD
    obtain ⟨p_18, p_19⟩ := hw
    refine lv_aload_n hx hb dX10_wont_19 rfl (lv_at hl 0 rfl) ?_
    refine lv_iload_n hx hb dX10_wont_20 rfl (lv_at hl 1 rfl) ?_
    refine lv_aload_n hx hb dX10_wont_21 rfl (lv_at hl 0 rfl) ?_
    refine xi hD hS hA (xV (As := []) (rest := [.int i, .ref (hm 0)]) hx hb hml hown hts hK hP hD hS hA NT_ok hN hAe hl.1 ⟨Nat.le_refl _, Nat.le_refl _⟩ 0 rfl rfl rfl (c_X10_everybody l D cy hm v_taped v_walkers v_loads v_pieces v_changeCosts v_planned v_isMarch v_clauseMany v_place v_end v_bad v_clauses v_codes v_open v_stacked v_isOver v_isBehind zatW_8 zatL_9 zatT_10 zatH_11 zatM_12 zatI_13 zatQ_14 v_packing v_packed v_goPace v_goMinutes v_spentAt v_ranChanges f_m_tape f_m_knee f_m_weight f_m_isLame f_m_loadWeight f_m_owner f_m_food f_m_miles f_m_slope f_m_clauseLetter f_m_sumFrom f_m_codeFrom f_m_codeTo f_m_code f_m_codeArg f_m_newLetter f_m_newSum f_m_newFrom f_m_newTo f_m_newCode f_m_newArg f_m_stack zworth_15 zisRefused_16 zleast_17 f_m_packPounds f_m_packOwner f_m_room f_m_givenTo f_m_canBe f_m_setPounds f_m_plainTime f_m_muleTime f_m_planTo f_m_march f_m_tired f_m_ranMinutes f_m_tiredAhead f_m_isReached f_m_toEnd f_m_upTo f_m_upNext f_m_byChanges f_m_bandPaces H.size (by omega)) (gi_V lwd_736 lwd_737 lwd_738 lwd_5 lwd_739) ⟨rfl, hd_X10_everybody⟩ ⟨Nat.le_of_ble_eq_true rfl, Nat.le_of_ble_eq_true rfl⟩ rfl (Nat.le_of_ble_eq_true rfl) dX10_wont_22) (fun r_21 u_20 H locs hw hP hD hS => ?_)
    try dsimp only at hw hP hD
    clear hw
    refine lv_iconst (v := 1) hx hb dX10_wont_25 (by decide) ?_
    have k_22 : (1 : Int32).toInt = 1 := by decide
    refine xv hD hS hA (xV (As := [.int i, .int r_21, .int 1]) (rest := []) hx hb hml hown hts hK hP hD hS hA NT_ok hN hAe hl.1 ⟨Nat.le_refl _, Nat.le_refl _⟩ 0 rfl rfl rfl (c_X10_packs l D cy hm v_taped v_walkers v_loads v_pieces v_changeCosts v_planned v_isMarch v_clauseMany v_place v_end v_bad v_clauses v_codes v_open v_stacked v_isOver v_isBehind zatW_8 zatL_9 zatT_10 zatH_11 zatM_12 zatI_13 zatQ_14 v_packing v_packed v_goPace v_goMinutes v_spentAt v_ranChanges f_m_tape f_m_knee f_m_weight f_m_isLame f_m_loadWeight f_m_owner f_m_food f_m_miles f_m_slope f_m_clauseLetter f_m_sumFrom f_m_codeFrom f_m_codeTo f_m_code f_m_codeArg f_m_newLetter f_m_newSum f_m_newFrom f_m_newTo f_m_newCode f_m_newArg f_m_stack zworth_15 zisRefused_16 zleast_17 f_m_packPounds f_m_packOwner f_m_room f_m_givenTo f_m_canBe f_m_setPounds f_m_plainTime f_m_muleTime f_m_planTo f_m_march f_m_tired f_m_ranMinutes f_m_tiredAhead f_m_isReached f_m_toEnd f_m_upTo f_m_upNext f_m_byChanges f_m_bandPaces H.size i r_21 1 (by omega) (by omega) hr_m_loadWeight hr_m_owner hr_m_food hr_m_packPounds hr_m_packOwner (by omega) (by omega)) (gi_V lwd_740 lwd_741 lwd_742 lwd_5 lwd_743) ⟨rfl, hd_X10_packs⟩ ⟨Nat.le_of_ble_eq_true rfl, Nat.le_of_ble_eq_true rfl⟩ rfl (Nat.le_of_ble_eq_true rfl) dX10_wont_26) (fun u_23 H locs hw hP hD hS => ?_)
    obtain ⟨zpacking_25, zpacked_26, zpackPounds_27, zpackOwner_28⟩ := u_23
    try dsimp only at hw hP hD
    obtain ⟨p_29, p_30, p_31, p_32⟩ := hw
    refine lv_aload_n hx hb dX10_wont_29 rfl (lv_at hl 0 rfl) ?_
    refine lv_iconst (v := (-1)) hx hb dX10_wont_30 (by decide) ?_
    have k_33 : ((-1) : Int32).toInt = (-1) := by decide
    refine xi hD hS hA (xV (As := [.int (-1)]) (rest := []) hx hb hml hown hts hK hP hD hS hA NT_ok hN hAe hl.1 ⟨Nat.le_refl _, Nat.le_refl _⟩ 0 rfl rfl rfl (c_X10_wholePace l D cy hm v_taped v_walkers v_loads v_pieces v_changeCosts v_planned v_isMarch v_clauseMany v_place v_end v_bad v_clauses v_codes v_open v_stacked v_isOver v_isBehind zatW_8 zatL_9 zatT_10 zatH_11 zatM_12 zatI_13 zatQ_14 zpacking_25 zpacked_26 v_goPace v_goMinutes v_spentAt v_ranChanges f_m_tape f_m_knee f_m_weight f_m_isLame f_m_loadWeight f_m_owner f_m_food f_m_miles f_m_slope f_m_clauseLetter f_m_sumFrom f_m_codeFrom f_m_codeTo f_m_code f_m_codeArg f_m_newLetter f_m_newSum f_m_newFrom f_m_newTo f_m_newCode f_m_newArg f_m_stack zworth_15 zisRefused_16 zleast_17 zpackPounds_27 zpackOwner_28 f_m_room f_m_givenTo f_m_canBe f_m_setPounds f_m_plainTime f_m_muleTime f_m_planTo f_m_march f_m_tired f_m_ranMinutes f_m_tiredAhead f_m_isReached f_m_toEnd f_m_upTo f_m_upNext f_m_byChanges f_m_bandPaces H.size (-1) (by omega) (by omega) p_31 p_32 hr_m_canBe) (gi_V lwd_753 lwd_754 lwd_755 lwd_5 lwd_756) ⟨rfl, hd_X10_wholePace⟩ ⟨Nat.le_of_ble_eq_true rfl, Nat.le_of_ble_eq_true rfl⟩ rfl (Nat.le_of_ble_eq_true rfl) dX10_wont_31) (fun r_35 u_34 H locs hw hP hD hS => ?_)
    obtain ⟨zroom_36, zgivenTo_37, zcanBe_38, zsetPounds_39⟩ := u_34
    try dsimp only at hw hP hD
    obtain ⟨p_40, p_41, p_42⟩ := hw
    refine lv_istore_n (lv' := [(3, .int r_35), (0, .ref (hm 0)), (1, .int i), (2, .int all)]) hx hb dX10_wont_34 rfl hl (by decide) rfl (fun ls hl => ?_)
    refine lv_aload_n hx hb dX10_wont_35 rfl (lv_at hl 1 rfl) ?_
    refine lv_iload_n hx hb dX10_wont_36 rfl (lv_at hl 2 rfl) ?_
    refine lv_aload_n hx hb dX10_wont_37 rfl (lv_at hl 1 rfl) ?_
    refine xi hD hS hA (xV (As := []) (rest := [.int i, .ref (hm 0)]) hx hb hml hown hts hK hP hD hS hA NT_ok hN hAe hl.1 ⟨Nat.le_refl _, Nat.le_refl _⟩ 0 rfl rfl rfl (c_X10_everybody l D cy hm v_taped v_walkers v_loads v_pieces v_changeCosts v_planned v_isMarch v_clauseMany v_place v_end v_bad v_clauses v_codes v_open v_stacked v_isOver v_isBehind zatW_8 zatL_9 zatT_10 zatH_11 zatM_12 zatI_13 zatQ_14 zpacking_25 zpacked_26 v_goPace v_goMinutes v_spentAt v_ranChanges f_m_tape f_m_knee f_m_weight f_m_isLame f_m_loadWeight f_m_owner f_m_food f_m_miles f_m_slope f_m_clauseLetter f_m_sumFrom f_m_codeFrom f_m_codeTo f_m_code f_m_codeArg f_m_newLetter f_m_newSum f_m_newFrom f_m_newTo f_m_newCode f_m_newArg f_m_stack zworth_15 zisRefused_16 zleast_17 zpackPounds_27 zpackOwner_28 zroom_36 zgivenTo_37 zcanBe_38 zsetPounds_39 f_m_plainTime f_m_muleTime f_m_planTo f_m_march f_m_tired f_m_ranMinutes f_m_tiredAhead f_m_isReached f_m_toEnd f_m_upTo f_m_upNext f_m_byChanges f_m_bandPaces H.size (by omega)) (gi_V lwd_736 lwd_737 lwd_738 lwd_5 lwd_739) ⟨rfl, hd_X10_everybody⟩ ⟨Nat.le_of_ble_eq_true rfl, Nat.le_of_ble_eq_true rfl⟩ rfl (Nat.le_of_ble_eq_true rfl) dX10_wont_38) (fun r_44 u_43 H locs hw hP hD hS => ?_)
    try dsimp only at hw hP hD
    clear hw
    refine lv_iconst (v := 0) hx hb dX10_wont_41 (by decide) ?_
    have k_45 : (0 : Int32).toInt = 0 := by decide
    refine xv hD hS hA (xV (As := [.int i, .int r_44, .int 0]) (rest := []) hx hb hml hown hts hK hP hD hS hA NT_ok hN hAe hl.1 ⟨Nat.le_refl _, Nat.le_refl _⟩ 0 rfl rfl rfl (c_X10_packs l D cy hm v_taped v_walkers v_loads v_pieces v_changeCosts v_planned v_isMarch v_clauseMany v_place v_end v_bad v_clauses v_codes v_open v_stacked v_isOver v_isBehind zatW_8 zatL_9 zatT_10 zatH_11 zatM_12 zatI_13 zatQ_14 zpacking_25 zpacked_26 v_goPace v_goMinutes v_spentAt v_ranChanges f_m_tape f_m_knee f_m_weight f_m_isLame f_m_loadWeight f_m_owner f_m_food f_m_miles f_m_slope f_m_clauseLetter f_m_sumFrom f_m_codeFrom f_m_codeTo f_m_code f_m_codeArg f_m_newLetter f_m_newSum f_m_newFrom f_m_newTo f_m_newCode f_m_newArg f_m_stack zworth_15 zisRefused_16 zleast_17 zpackPounds_27 zpackOwner_28 zroom_36 zgivenTo_37 zcanBe_38 zsetPounds_39 f_m_plainTime f_m_muleTime f_m_planTo f_m_march f_m_tired f_m_ranMinutes f_m_tiredAhead f_m_isReached f_m_toEnd f_m_upTo f_m_upNext f_m_byChanges f_m_bandPaces H.size i r_44 0 (by omega) (by omega) hr_m_loadWeight hr_m_owner hr_m_food p_31 p_32 (by omega) (by omega)) (gi_V lwd_740 lwd_741 lwd_742 lwd_5 lwd_743) ⟨rfl, hd_X10_packs⟩ ⟨Nat.le_of_ble_eq_true rfl, Nat.le_of_ble_eq_true rfl⟩ rfl (Nat.le_of_ble_eq_true rfl) dX10_wont_42) (fun u_46 H locs hw hP hD hS => ?_)
    obtain ⟨zpacking_48, zpacked_49, zpackPounds_50, zpackOwner_51⟩ := u_46
    try dsimp only at hw hP hD
    obtain ⟨p_52, p_53, p_54, p_55⟩ := hw
    refine lv_aload_n hx hb dX10_wont_45 rfl (lv_at hl 1 rfl) ?_
    refine lv_iconst (v := (-1)) hx hb dX10_wont_46 (by decide) ?_
    refine xi hD hS hA (xV (As := [.int (-1)]) (rest := []) hx hb hml hown hts hK hP hD hS hA NT_ok hN hAe hl.1 ⟨Nat.le_refl _, Nat.le_refl _⟩ 0 rfl rfl rfl (c_X10_wholePace l D cy hm v_taped v_walkers v_loads v_pieces v_changeCosts v_planned v_isMarch v_clauseMany v_place v_end v_bad v_clauses v_codes v_open v_stacked v_isOver v_isBehind zatW_8 zatL_9 zatT_10 zatH_11 zatM_12 zatI_13 zatQ_14 zpacking_48 zpacked_49 v_goPace v_goMinutes v_spentAt v_ranChanges f_m_tape f_m_knee f_m_weight f_m_isLame f_m_loadWeight f_m_owner f_m_food f_m_miles f_m_slope f_m_clauseLetter f_m_sumFrom f_m_codeFrom f_m_codeTo f_m_code f_m_codeArg f_m_newLetter f_m_newSum f_m_newFrom f_m_newTo f_m_newCode f_m_newArg f_m_stack zworth_15 zisRefused_16 zleast_17 zpackPounds_50 zpackOwner_51 zroom_36 zgivenTo_37 zcanBe_38 zsetPounds_39 f_m_plainTime f_m_muleTime f_m_planTo f_m_march f_m_tired f_m_ranMinutes f_m_tiredAhead f_m_isReached f_m_toEnd f_m_upTo f_m_upNext f_m_byChanges f_m_bandPaces H.size (-1) (by omega) (by omega) p_54 p_55 p_42) (gi_V lwd_753 lwd_754 lwd_755 lwd_5 lwd_756) ⟨rfl, hd_X10_wholePace⟩ ⟨Nat.le_of_ble_eq_true rfl, Nat.le_of_ble_eq_true rfl⟩ rfl (Nat.le_of_ble_eq_true rfl) dX10_wont_47) (fun r_57 u_56 H locs hw hP hD hS => ?_)
    obtain ⟨zroom_58, zgivenTo_59, zcanBe_60, zsetPounds_61⟩ := u_56
    try dsimp only at hw hP hD
    obtain ⟨p_62, p_63, p_64⟩ := hw
    refine lv_istore (lv' := [(4, .int r_57), (3, .int r_35), (0, .ref (hm 0)), (1, .int i), (2, .int all)]) hx hb dX10_wont_50 hl (by decide) rfl (fun ls hl => ?_)
    refine lv_iload_n hx hb dX10_wont_52 rfl (lv_at hl 1 rfl) ?_
    refine lv_if_eq (tgt := 61) hx hb dX10_wont_53 (by decide) (fun c_65 => ?_) (fun c_65 => ?_)
    · have gc_65 : r_35.toInt = 0 := i_eq (rfl : r_35.toInt = r_35.toInt) (by decide : (0 : Int32).toInt = 0) c_65
      refine lv_ldcw hx hb hown (hts _ lwd_787) dX10_wont_61 ?_
      refine lv_goto (tgt := 81) hx hb dX10_wont_64 (by decide) ?_
      have k_66 : ((-1000000) : Int32).toInt = (-1000000) := by decide
      exact hrt (-1000000) zatW_8 zatL_9 zatT_10 zatH_11 zatM_12 zatI_13 zatQ_14 zpacking_48 zpacked_49 zworth_15 zisRefused_16 zleast_17 zpackPounds_50 zpackOwner_51 zroom_58 zgivenTo_59 zcanBe_60 zsetPounds_61 ⟨(by omega), (by omega), p_19, p_54, p_55, p_64⟩ hP hD hS rfl dX10_wont_81
    · have gc_65 : r_35.toInt ≠ 0 := i_ne (rfl : r_35.toInt = r_35.toInt) (by decide : (0 : Int32).toInt = 0) c_65
      refine lv_iload hx hb dX10_wont_56 (lv_at hl 0 rfl) ?_
      refine lv_if_ne (tgt := 67) hx hb dX10_wont_58 (by decide) (fun c_67 => ?_) (fun c_67 => ?_)
      · have gc_67 : r_57.toInt ≠ 0 := i_ne (rfl : r_57.toInt = r_57.toInt) (by decide : (0 : Int32).toInt = 0) c_67
        refine lv_aload_n hx hb dX10_wont_67 rfl (lv_at hl 2 rfl) ?_
        refine lv_iload_n hx hb dX10_wont_68 rfl (lv_at hl 3 rfl) ?_
        refine lv_iload_n hx hb dX10_wont_69 rfl (lv_at hl 1 rfl) ?_
        refine xi hD hS hA (xV (As := [.int i, .int r_35]) (rest := []) hx hb hml hown hts hK hP hD hS hA NT_ok hN hAe hl.1 ⟨Nat.le_refl _, Nat.le_refl _⟩ 0 rfl rfl rfl (c_X10_minutesOf l D cy hm v_taped v_walkers v_loads v_pieces v_changeCosts v_planned v_isMarch v_clauseMany v_place v_end v_bad v_clauses v_codes v_open v_stacked v_isOver v_isBehind zatW_8 zatL_9 zatT_10 zatH_11 zatM_12 zatI_13 zatQ_14 zpacking_48 zpacked_49 v_goPace v_goMinutes v_spentAt v_ranChanges f_m_tape f_m_knee f_m_weight f_m_isLame f_m_loadWeight f_m_owner f_m_food f_m_miles f_m_slope f_m_clauseLetter f_m_sumFrom f_m_codeFrom f_m_codeTo f_m_code f_m_codeArg f_m_newLetter f_m_newSum f_m_newFrom f_m_newTo f_m_newCode f_m_newArg f_m_stack zworth_15 zisRefused_16 zleast_17 zpackPounds_50 zpackOwner_51 zroom_58 zgivenTo_59 zcanBe_60 zsetPounds_61 f_m_plainTime f_m_muleTime f_m_planTo f_m_march f_m_tired f_m_ranMinutes f_m_tiredAhead f_m_isReached f_m_toEnd f_m_upTo f_m_upNext f_m_byChanges f_m_bandPaces H.size i r_35 hr_m_miles (by omega) (by omega)) (gi_V lwd_668 lwd_669 lwd_670 lwd_5 lwd_671) ⟨rfl, hd_X10_minutesOf⟩ ⟨Nat.le_of_ble_eq_true rfl, Nat.le_of_ble_eq_true rfl⟩ rfl (Nat.le_of_ble_eq_true rfl) dX10_wont_70) (fun r_69 u_68 H locs hw hP hD hS => ?_)
        try dsimp only at hw hP hD
        have p_70 := hw
        clear hw
        refine lv_aload_n hx hb dX10_wont_73 rfl (lv_at hl 2 rfl) ?_
        refine lv_iload_n hx hb dX10_wont_74 rfl (lv_at hl 3 rfl) ?_
        refine lv_iload hx hb dX10_wont_75 (lv_at hl 0 rfl) ?_
        refine xi hD hS hA (xV (As := [.int i, .int r_57]) (rest := [.int r_69]) hx hb hml hown hts hK hP hD hS hA NT_ok hN hAe hl.1 ⟨Nat.le_refl _, Nat.le_refl _⟩ 0 rfl rfl rfl (c_X10_minutesOf l D cy hm v_taped v_walkers v_loads v_pieces v_changeCosts v_planned v_isMarch v_clauseMany v_place v_end v_bad v_clauses v_codes v_open v_stacked v_isOver v_isBehind zatW_8 zatL_9 zatT_10 zatH_11 zatM_12 zatI_13 zatQ_14 zpacking_48 zpacked_49 v_goPace v_goMinutes v_spentAt v_ranChanges f_m_tape f_m_knee f_m_weight f_m_isLame f_m_loadWeight f_m_owner f_m_food f_m_miles f_m_slope f_m_clauseLetter f_m_sumFrom f_m_codeFrom f_m_codeTo f_m_code f_m_codeArg f_m_newLetter f_m_newSum f_m_newFrom f_m_newTo f_m_newCode f_m_newArg f_m_stack zworth_15 zisRefused_16 zleast_17 zpackPounds_50 zpackOwner_51 zroom_58 zgivenTo_59 zcanBe_60 zsetPounds_61 f_m_plainTime f_m_muleTime f_m_planTo f_m_march f_m_tired f_m_ranMinutes f_m_tiredAhead f_m_isReached f_m_toEnd f_m_upTo f_m_upNext f_m_byChanges f_m_bandPaces H.size i r_57 hr_m_miles (by omega) (by omega)) (gi_V lwd_668 lwd_669 lwd_670 lwd_5 lwd_671) ⟨rfl, hd_X10_minutesOf⟩ ⟨Nat.le_of_ble_eq_true rfl, Nat.le_of_ble_eq_true rfl⟩ rfl (Nat.le_of_ble_eq_true rfl) dX10_wont_77) (fun r_72 u_71 H locs hw hP hD hS => ?_)
        try dsimp only at hw hP hD
        have p_73 := hw
        clear hw
        refine lv_isub hx hb dX10_wont_80 ?_
        refine lv_topi (fun n_74 en_74 => ?_)
        exact hrt n_74 zatW_8 zatL_9 zatT_10 zatH_11 zatM_12 zatI_13 zatQ_14 zpacking_48 zpacked_49 zworth_15 zisRefused_16 zleast_17 zpackPounds_50 zpackOwner_51 zroom_58 zgivenTo_59 zcanBe_60 zsetPounds_61 ⟨(by omega), (by omega), p_19, p_54, p_55, p_64⟩ hP hD hS rfl dX10_wont_81
      · have gc_67 : r_57.toInt = 0 := i_eq (rfl : r_57.toInt = r_57.toInt) (by decide : (0 : Int32).toInt = 0) c_67
        refine lv_ldcw hx hb hown (hts _ lwd_787) dX10_wont_61 ?_
        refine lv_goto (tgt := 81) hx hb dX10_wont_64 (by decide) ?_
        have k_75 : ((-1000000) : Int32).toInt = (-1000000) := by decide
        exact hrt (-1000000) zatW_8 zatL_9 zatT_10 zatH_11 zatM_12 zatI_13 zatQ_14 zpacking_48 zpacked_49 zworth_15 zisRefused_16 zleast_17 zpackPounds_50 zpackOwner_51 zroom_58 zgivenTo_59 zcanBe_60 zsetPounds_61 ⟨(by omega), (by omega), p_19, p_54, p_55, p_64⟩ hP hD hS rfl dX10_wont_81
  · have gc_5 : r_2.toInt = 0 := i_eq (rfl : r_2.toInt = r_2.toInt) (by decide : (0 : Int32).toInt = 0) c_5
    refine lv_ldcw hx hb hown (hts _ lwd_787) dX10_wont_9 ?_
    have k_76 : ((-1000000) : Int32).toInt = (-1000000) := by decide
    exact hrt (-1000000) v_atW v_atL v_atT v_atH v_atM v_atI v_atQ v_packing v_packed f_m_worth f_m_isRefused f_m_least f_m_packPounds f_m_packOwner f_m_room f_m_givenTo f_m_canBe f_m_setPounds ⟨(by omega), (by omega), hr_m_isRefused, hr_m_packPounds, hr_m_packOwner, hr_m_canBe⟩ hP hD hS rfl dX10_wont_12
set_option maxHeartbeats 16000000 in
set_option maxRecDepth 100000 in
theorem c_X10_who (l : Launch) (D : va_G) (cy : Nat → ClassId) (hm : Nat → Nat) (v_taped v_walkers v_loads v_pieces v_changeCosts v_planned v_isMarch v_clauseMany v_place v_end v_bad v_clauses v_codes v_open v_stacked v_isOver v_isBehind v_atW v_atL v_atT v_atH v_atM v_atI v_atQ v_packing v_packed v_goPace v_goMinutes v_spentAt v_ranChanges : Int32) (f_m_tape f_m_knee f_m_weight f_m_isLame f_m_loadWeight f_m_owner f_m_food f_m_miles f_m_slope f_m_clauseLetter f_m_sumFrom f_m_codeFrom f_m_codeTo f_m_code f_m_codeArg f_m_newLetter f_m_newSum f_m_newFrom f_m_newTo f_m_newCode f_m_newArg f_m_stack f_m_worth f_m_isRefused f_m_least f_m_packPounds f_m_packOwner f_m_room f_m_givenTo f_m_canBe f_m_setPounds f_m_plainTime f_m_muleTime f_m_planTo f_m_march f_m_tired f_m_ranMinutes f_m_tiredAhead f_m_isReached f_m_toEnd f_m_upTo f_m_upNext f_m_byChanges f_m_bandPaces : Nat → Int32) (sz : Nat) (i : Int32) (all : Int32) (what : Int32) (hb_v_walkers : 0 ≤ v_walkers.toInt ∧ v_walkers.toInt ≤ 6) (hb_v_loads : 0 ≤ v_loads.toInt ∧ v_loads.toInt ≤ 9) (hb_v_pieces : 0 ≤ v_pieces.toInt ∧ v_pieces.toInt ≤ 10) (hb_v_clauseMany : 0 ≤ v_clauseMany.toInt ∧ v_clauseMany.toInt ≤ 14) (hb_v_atW : 0 ≤ v_atW.toInt ∧ v_atW.toInt ≤ 5) (hb_v_packed : 0 ≤ v_packed.toInt ∧ v_packed.toInt ≤ 10) (hr_m_weight : rg (0) 250 f_m_weight) (hr_m_isLame : rg (0) 1 f_m_isLame) (hr_m_loadWeight : rg (0) 120 f_m_loadWeight) (hr_m_owner : rg (-1) 5 f_m_owner) (hr_m_food : rg (0) 20 f_m_food) (hr_m_miles : rg (0) 20 f_m_miles) (hr_m_isRefused : rg (0) 1 f_m_isRefused) (hr_m_packPounds : rg (0) 250 f_m_packPounds) (hr_m_packOwner : rg (-1) 5 f_m_packOwner) (hr_m_canBe : rg (0) 1 f_m_canBe) (hwf : wfC v_clauseMany f_m_sumFrom f_m_codeFrom f_m_codeTo f_m_code) : gMi l yX10_who cX10_who 9 .int 8 [.ref (hm 0), .int i, .int all, .int what] D cy (wMD cy hm v_taped v_walkers v_loads v_pieces v_changeCosts v_planned v_isMarch v_clauseMany v_place v_end v_bad v_clauses v_codes v_open v_stacked v_isOver v_isBehind v_atW v_atL v_atT v_atH v_atM v_atI v_atQ v_packing v_packed v_goPace v_goMinutes v_spentAt v_ranChanges f_m_tape f_m_knee f_m_weight f_m_isLame f_m_loadWeight f_m_owner f_m_food f_m_miles f_m_slope f_m_clauseLetter f_m_sumFrom f_m_codeFrom f_m_codeTo f_m_code f_m_codeArg f_m_newLetter f_m_newSum f_m_newFrom f_m_newTo f_m_newCode f_m_newArg f_m_stack f_m_worth f_m_isRefused f_m_least f_m_packPounds f_m_packOwner f_m_room f_m_givenTo f_m_canBe f_m_setPounds f_m_plainTime f_m_muleTime f_m_planTo f_m_march f_m_tired f_m_ranMinutes f_m_tiredAhead f_m_isReached f_m_toEnd f_m_upTo f_m_upNext f_m_byChanges f_m_bandPaces) NT sz (fun (r : Int32) (u : Int32 × Int32 × Int32 × Int32 × Int32 × Int32 × Int32 × Int32 × Int32 × (Nat → Int32) × (Nat → Int32) × (Nat → Int32) × (Nat → Int32) × (Nat → Int32) × (Nat → Int32) × (Nat → Int32) × (Nat → Int32) × (Nat → Int32)) => (0 ≤ (u.1).toInt ∧ (u.1).toInt ≤ 5) ∧ (0 ≤ (u.2.2.2.2.2.2.2.2.1).toInt ∧ (u.2.2.2.2.2.2.2.2.1).toInt ≤ 10) ∧ (rg (0) 1 (u.2.2.2.2.2.2.2.2.2.2.1)) ∧ (rg (0) 250 (u.2.2.2.2.2.2.2.2.2.2.2.2.1)) ∧ (rg (-1) 5 (u.2.2.2.2.2.2.2.2.2.2.2.2.2.1)) ∧ (rg (0) 1 (u.2.2.2.2.2.2.2.2.2.2.2.2.2.2.2.2.1))) (fun u => wMD cy hm v_taped v_walkers v_loads v_pieces v_changeCosts v_planned v_isMarch v_clauseMany v_place v_end v_bad v_clauses v_codes v_open v_stacked v_isOver v_isBehind (u.1) (u.2.1) (u.2.2.1) (u.2.2.2.1) (u.2.2.2.2.1) (u.2.2.2.2.2.1) (u.2.2.2.2.2.2.1) (u.2.2.2.2.2.2.2.1) (u.2.2.2.2.2.2.2.2.1) v_goPace v_goMinutes v_spentAt v_ranChanges f_m_tape f_m_knee f_m_weight f_m_isLame f_m_loadWeight f_m_owner f_m_food f_m_miles f_m_slope f_m_clauseLetter f_m_sumFrom f_m_codeFrom f_m_codeTo f_m_code f_m_codeArg f_m_newLetter f_m_newSum f_m_newFrom f_m_newTo f_m_newCode f_m_newArg f_m_stack (u.2.2.2.2.2.2.2.2.2.1) (u.2.2.2.2.2.2.2.2.2.2.1) (u.2.2.2.2.2.2.2.2.2.2.2.1) (u.2.2.2.2.2.2.2.2.2.2.2.2.1) (u.2.2.2.2.2.2.2.2.2.2.2.2.2.1) (u.2.2.2.2.2.2.2.2.2.2.2.2.2.2.1) (u.2.2.2.2.2.2.2.2.2.2.2.2.2.2.2.1) (u.2.2.2.2.2.2.2.2.2.2.2.2.2.2.2.2.1) (u.2.2.2.2.2.2.2.2.2.2.2.2.2.2.2.2.2) f_m_plainTime f_m_muleTime f_m_planTo f_m_march f_m_tired f_m_ranMinutes f_m_tiredAhead f_m_isReached f_m_toEnd f_m_upTo f_m_upNext f_m_byChanges f_m_bandPaces) := by
  refine gMi_in (by decide) (Nat.le_of_ble_eq_true rfl) ?_
  intro p e s m args below meth c A ls Q hx hb hml hts hown hsz hP hK hD hN hAe hA hS hl hret
  subst hsz
  have hl : lv_has ls 9 [(0, .ref (hm 0)), (1, .int i), (2, .int all), (3, .int what)] := hl
  have hrt := fun (r : Int32) (v_atW' : Int32) (v_atL' : Int32) (v_atT' : Int32) (v_atH' : Int32) (v_atM' : Int32) (v_atI' : Int32) (v_atQ' : Int32) (v_packing' : Int32) (v_packed' : Int32) (f_m_worth' : Nat → Int32) (f_m_isRefused' : Nat → Int32) (f_m_least' : Nat → Int32) (f_m_packPounds' : Nat → Int32) (f_m_packOwner' : Nat → Int32) (f_m_room' : Nat → Int32) (f_m_givenTo' : Nat → Int32) (f_m_canBe' : Nat → Int32) (f_m_setPounds' : Nat → Int32) (hp : (0 ≤ v_atW'.toInt ∧ v_atW'.toInt ≤ 5) ∧ (0 ≤ v_packed'.toInt ∧ v_packed'.toInt ≤ 10) ∧ (rg (0) 1 f_m_isRefused') ∧ (rg (0) 250 f_m_packPounds') ∧ (rg (-1) 5 f_m_packOwner') ∧ (rg (0) 1 f_m_canBe')) {H : Heap} {locs : List Loc} {pc : Nat} {ls : Array Slot} => hret r (v_atW', v_atL', v_atT', v_atH', v_atM', v_atI', v_atQ', v_packing', v_packed', f_m_worth', f_m_isRefused', f_m_least', f_m_packPounds', f_m_packOwner', f_m_room', f_m_givenTo', f_m_canBe', f_m_setPounds') (H := H) (locs := locs) (pc := pc) (ls := ls) hp
  clear hret
  refine lv_aload_n hx hb dX10_who_0 rfl (lv_at hl 0 rfl) ?_
  refine lv_iload_n hx hb dX10_who_1 rfl (lv_at hl 1 rfl) ?_
  refine lv_iload_n hx hb dX10_who_2 rfl (lv_at hl 2 rfl) ?_
  refine xi hD hS hA (xV (As := [.int i, .int all]) (rest := []) hx hb hml hown hts hK hP hD hS hA NT_ok hN hAe hl.1 ⟨Nat.le_refl _, Nat.le_refl _⟩ 0 rfl rfl rfl (c_X10_canAsk l D cy hm v_taped v_walkers v_loads v_pieces v_changeCosts v_planned v_isMarch v_clauseMany v_place v_end v_bad v_clauses v_codes v_open v_stacked v_isOver v_isBehind v_atW v_atL v_atT v_atH v_atM v_atI v_atQ v_packing v_packed v_goPace v_goMinutes v_spentAt v_ranChanges f_m_tape f_m_knee f_m_weight f_m_isLame f_m_loadWeight f_m_owner f_m_food f_m_miles f_m_slope f_m_clauseLetter f_m_sumFrom f_m_codeFrom f_m_codeTo f_m_code f_m_codeArg f_m_newLetter f_m_newSum f_m_newFrom f_m_newTo f_m_newCode f_m_newArg f_m_stack f_m_worth f_m_isRefused f_m_least f_m_packPounds f_m_packOwner f_m_room f_m_givenTo f_m_canBe f_m_setPounds f_m_plainTime f_m_muleTime f_m_planTo f_m_march f_m_tired f_m_ranMinutes f_m_tiredAhead f_m_isReached f_m_toEnd f_m_upTo f_m_upNext f_m_byChanges f_m_bandPaces s.heap.size i all (by omega) (by omega)) (gi_V lwd_645 lwd_646 lwd_647 lwd_5 lwd_648) ⟨rfl, hd_X10_canAsk⟩ ⟨Nat.le_of_ble_eq_true rfl, Nat.le_of_ble_eq_true rfl⟩ rfl (Nat.le_of_ble_eq_true rfl) dX10_who_3) (fun r_2 u_1 H locs hw hP hD hS => ?_)
  try dsimp only at hw hP hD
  obtain ⟨p_3, p_4⟩ := hw
  refine lv_if_eq (tgt := 19) hx hb dX10_who_6 (by decide) (fun c_5 => ?_) (fun c_5 => ?_)
  · have gc_5 : r_2.toInt = 0 := i_eq (rfl : r_2.toInt = r_2.toInt) (by decide : (0 : Int32).toInt = 0) c_5
    refine lv_bipush (v := (-2)) hx hb dX10_who_19 (by decide) ?_
    have k_6 : ((-2) : Int32).toInt = (-2) := by decide
    exact hrt (-2) v_atW v_atL v_atT v_atH v_atM v_atI v_atQ v_packing v_packed f_m_worth f_m_isRefused f_m_least f_m_packPounds f_m_packOwner f_m_room f_m_givenTo f_m_canBe f_m_setPounds ⟨(by omega), (by omega), hr_m_isRefused, hr_m_packPounds, hr_m_packOwner, hr_m_canBe⟩ hP hD hS rfl dX10_who_21
  · have gc_5 : r_2.toInt ≠ 0 := i_ne (rfl : r_2.toInt = r_2.toInt) (by decide : (0 : Int32).toInt = 0) c_5
    refine lv_iload_n hx hb dX10_who_9 rfl (lv_at hl 3 rfl) ?_
    refine lv_i2l (v := what.toInt64) hx hb dX10_who_10 rfl ?_
    have hl_7 : what.toInt64.toInt = what.toInt := i_l (rfl : what.toInt = what.toInt)
    refine lv_lconst (v := 0) hx hb dX10_who_11 (by decide) ?_
    refine lv_lconst (v := 1) hx hb dX10_who_12 (by decide) ?_
    have k_8 : (0 : Int64).toInt = 0 := by decide
    have k_9 : (1 : Int64).toInt = 1 := by decide
    refine xi hD hS hA (xS (As := [.long what.toInt64, .long 0, .long 1]) (rest := []) hx hb hml hown hts hK hP hD hS hA NT_ok hN hAe hl.1 ⟨Nat.le_refl _, Nat.le_refl _⟩ (c_X10_lies l D cy hm v_taped v_walkers v_loads v_pieces v_changeCosts v_planned v_isMarch v_clauseMany v_place v_end v_bad v_clauses v_codes v_open v_stacked v_isOver v_isBehind v_atW v_atL v_atT v_atH v_atM v_atI v_atQ v_packing v_packed v_goPace v_goMinutes v_spentAt v_ranChanges f_m_tape f_m_knee f_m_weight f_m_isLame f_m_loadWeight f_m_owner f_m_food f_m_miles f_m_slope f_m_clauseLetter f_m_sumFrom f_m_codeFrom f_m_codeTo f_m_code f_m_codeArg f_m_newLetter f_m_newSum f_m_newFrom f_m_newTo f_m_newCode f_m_newArg f_m_stack f_m_worth f_m_isRefused f_m_least f_m_packPounds f_m_packOwner f_m_room f_m_givenTo f_m_canBe f_m_setPounds f_m_plainTime f_m_muleTime f_m_planTo f_m_march f_m_tired f_m_ranMinutes f_m_tiredAhead f_m_isReached f_m_toEnd f_m_upTo f_m_upNext f_m_byChanges f_m_bandPaces H.size what.toInt64 0 1) (gi_S lwd_226 lwd_227 lwd_5 lwd_228) hd_X10_lies ⟨Nat.le_of_ble_eq_true rfl, Nat.le_of_ble_eq_true rfl⟩ rfl (Nat.le_of_ble_eq_true rfl) dX10_who_13) (fun r_11 u_10 H locs hw hP hD hS => ?_)
    try dsimp only at hw hP hD
    obtain ⟨p_12, p_13⟩ := hw
    refine lv_if_ne (tgt := 22) hx hb dX10_who_16 (by decide) (fun c_14 => ?_) (fun c_14 => ?_)
    · have gc_14 : r_11.toInt ≠ 0 := i_ne (rfl : r_11.toInt = r_11.toInt) (by decide : (0 : Int32).toInt = 0) c_14
      refine lv_aload_n hx hb dX10_who_22 rfl (lv_at hl 0 rfl) ?_
      refine lv_iload_n hx hb dX10_who_23 rfl (lv_at hl 1 rfl) ?_
      refine lv_iload_n hx hb dX10_who_24 rfl (lv_at hl 2 rfl) ?_
      refine xv hD hS hA (xV (As := [.int i, .int all]) (rest := []) hx hb hml hown hts hK hP hD hS hA NT_ok hN hAe hl.1 ⟨Nat.le_refl _, Nat.le_refl _⟩ 0 rfl rfl rfl (c_X10_lays l D cy hm v_taped v_walkers v_loads v_pieces v_changeCosts v_planned v_isMarch v_clauseMany v_place v_end v_bad v_clauses v_codes v_open v_stacked v_isOver v_isBehind v_atW v_atL v_atT v_atH v_atM v_atI v_atQ v_packing v_packed v_goPace v_goMinutes v_spentAt v_ranChanges f_m_tape f_m_knee f_m_weight f_m_isLame f_m_loadWeight f_m_owner f_m_food f_m_miles f_m_slope f_m_clauseLetter f_m_sumFrom f_m_codeFrom f_m_codeTo f_m_code f_m_codeArg f_m_newLetter f_m_newSum f_m_newFrom f_m_newTo f_m_newCode f_m_newArg f_m_stack f_m_worth f_m_isRefused f_m_least f_m_packPounds f_m_packOwner f_m_room f_m_givenTo f_m_canBe f_m_setPounds f_m_plainTime f_m_muleTime f_m_planTo f_m_march f_m_tired f_m_ranMinutes f_m_tiredAhead f_m_isReached f_m_toEnd f_m_upTo f_m_upNext f_m_byChanges f_m_bandPaces H.size i all (by omega) (by omega) (by omega) hr_m_weight hr_m_isLame hr_m_miles hr_m_isRefused (by omega) (by omega) hwf) (gi_V lwd_653 lwd_654 lwd_655 lwd_5 lwd_656) ⟨rfl, hd_X10_lays⟩ ⟨Nat.le_of_ble_eq_true rfl, Nat.le_of_ble_eq_true rfl⟩ rfl (Nat.le_of_ble_eq_true rfl) dX10_who_25) (fun u_15 H locs hw hP hD hS => ?_)
      obtain ⟨zatW_17, zatL_18, zatT_19, zatH_20, zatM_21, zatI_22, zatQ_23, zworth_24, zisRefused_25, zleast_26⟩ := u_15
      try dsimp only at hw hP hD
      obtain ⟨p_27, p_28⟩ := hw
      refine lv_aload_n hx hb dX10_who_28 rfl (lv_at hl 0 rfl) ?_
      refine lv_iload_n hx hb dX10_who_29 rfl (lv_at hl 1 rfl) ?_
      refine lv_aload_n hx hb dX10_who_30 rfl (lv_at hl 0 rfl) ?_
      refine xi hD hS hA (xV (As := []) (rest := [.int i, .ref (hm 0)]) hx hb hml hown hts hK hP hD hS hA NT_ok hN hAe hl.1 ⟨Nat.le_refl _, Nat.le_refl _⟩ 0 rfl rfl rfl (c_X10_everybody l D cy hm v_taped v_walkers v_loads v_pieces v_changeCosts v_planned v_isMarch v_clauseMany v_place v_end v_bad v_clauses v_codes v_open v_stacked v_isOver v_isBehind zatW_17 zatL_18 zatT_19 zatH_20 zatM_21 zatI_22 zatQ_23 v_packing v_packed v_goPace v_goMinutes v_spentAt v_ranChanges f_m_tape f_m_knee f_m_weight f_m_isLame f_m_loadWeight f_m_owner f_m_food f_m_miles f_m_slope f_m_clauseLetter f_m_sumFrom f_m_codeFrom f_m_codeTo f_m_code f_m_codeArg f_m_newLetter f_m_newSum f_m_newFrom f_m_newTo f_m_newCode f_m_newArg f_m_stack zworth_24 zisRefused_25 zleast_26 f_m_packPounds f_m_packOwner f_m_room f_m_givenTo f_m_canBe f_m_setPounds f_m_plainTime f_m_muleTime f_m_planTo f_m_march f_m_tired f_m_ranMinutes f_m_tiredAhead f_m_isReached f_m_toEnd f_m_upTo f_m_upNext f_m_byChanges f_m_bandPaces H.size (by omega)) (gi_V lwd_736 lwd_737 lwd_738 lwd_5 lwd_739) ⟨rfl, hd_X10_everybody⟩ ⟨Nat.le_of_ble_eq_true rfl, Nat.le_of_ble_eq_true rfl⟩ rfl (Nat.le_of_ble_eq_true rfl) dX10_who_31) (fun r_30 u_29 H locs hw hP hD hS => ?_)
      try dsimp only at hw hP hD
      clear hw
      refine lv_iconst (v := 1) hx hb dX10_who_34 (by decide) ?_
      have k_31 : (1 : Int32).toInt = 1 := by decide
      refine xv hD hS hA (xV (As := [.int i, .int r_30, .int 1]) (rest := []) hx hb hml hown hts hK hP hD hS hA NT_ok hN hAe hl.1 ⟨Nat.le_refl _, Nat.le_refl _⟩ 0 rfl rfl rfl (c_X10_packs l D cy hm v_taped v_walkers v_loads v_pieces v_changeCosts v_planned v_isMarch v_clauseMany v_place v_end v_bad v_clauses v_codes v_open v_stacked v_isOver v_isBehind zatW_17 zatL_18 zatT_19 zatH_20 zatM_21 zatI_22 zatQ_23 v_packing v_packed v_goPace v_goMinutes v_spentAt v_ranChanges f_m_tape f_m_knee f_m_weight f_m_isLame f_m_loadWeight f_m_owner f_m_food f_m_miles f_m_slope f_m_clauseLetter f_m_sumFrom f_m_codeFrom f_m_codeTo f_m_code f_m_codeArg f_m_newLetter f_m_newSum f_m_newFrom f_m_newTo f_m_newCode f_m_newArg f_m_stack zworth_24 zisRefused_25 zleast_26 f_m_packPounds f_m_packOwner f_m_room f_m_givenTo f_m_canBe f_m_setPounds f_m_plainTime f_m_muleTime f_m_planTo f_m_march f_m_tired f_m_ranMinutes f_m_tiredAhead f_m_isReached f_m_toEnd f_m_upTo f_m_upNext f_m_byChanges f_m_bandPaces H.size i r_30 1 (by omega) (by omega) hr_m_loadWeight hr_m_owner hr_m_food hr_m_packPounds hr_m_packOwner (by omega) (by omega)) (gi_V lwd_740 lwd_741 lwd_742 lwd_5 lwd_743) ⟨rfl, hd_X10_packs⟩ ⟨Nat.le_of_ble_eq_true rfl, Nat.le_of_ble_eq_true rfl⟩ rfl (Nat.le_of_ble_eq_true rfl) dX10_who_35) (fun u_32 H locs hw hP hD hS => ?_)
      obtain ⟨zpacking_34, zpacked_35, zpackPounds_36, zpackOwner_37⟩ := u_32
      try dsimp only at hw hP hD
      obtain ⟨p_38, p_39, p_40, p_41⟩ := hw
      refine lv_aload_n hx hb dX10_who_38 rfl (lv_at hl 0 rfl) ?_
      refine lv_iconst (v := (-1)) hx hb dX10_who_39 (by decide) ?_
      have k_42 : ((-1) : Int32).toInt = (-1) := by decide
      refine xi hD hS hA (xV (As := [.int (-1)]) (rest := []) hx hb hml hown hts hK hP hD hS hA NT_ok hN hAe hl.1 ⟨Nat.le_refl _, Nat.le_refl _⟩ 0 rfl rfl rfl (c_X10_wholePace l D cy hm v_taped v_walkers v_loads v_pieces v_changeCosts v_planned v_isMarch v_clauseMany v_place v_end v_bad v_clauses v_codes v_open v_stacked v_isOver v_isBehind zatW_17 zatL_18 zatT_19 zatH_20 zatM_21 zatI_22 zatQ_23 zpacking_34 zpacked_35 v_goPace v_goMinutes v_spentAt v_ranChanges f_m_tape f_m_knee f_m_weight f_m_isLame f_m_loadWeight f_m_owner f_m_food f_m_miles f_m_slope f_m_clauseLetter f_m_sumFrom f_m_codeFrom f_m_codeTo f_m_code f_m_codeArg f_m_newLetter f_m_newSum f_m_newFrom f_m_newTo f_m_newCode f_m_newArg f_m_stack zworth_24 zisRefused_25 zleast_26 zpackPounds_36 zpackOwner_37 f_m_room f_m_givenTo f_m_canBe f_m_setPounds f_m_plainTime f_m_muleTime f_m_planTo f_m_march f_m_tired f_m_ranMinutes f_m_tiredAhead f_m_isReached f_m_toEnd f_m_upTo f_m_upNext f_m_byChanges f_m_bandPaces H.size (-1) (by omega) (by omega) p_40 p_41 hr_m_canBe) (gi_V lwd_753 lwd_754 lwd_755 lwd_5 lwd_756) ⟨rfl, hd_X10_wholePace⟩ ⟨Nat.le_of_ble_eq_true rfl, Nat.le_of_ble_eq_true rfl⟩ rfl (Nat.le_of_ble_eq_true rfl) dX10_who_40) (fun r_44 u_43 H locs hw hP hD hS => ?_)
      obtain ⟨zroom_45, zgivenTo_46, zcanBe_47, zsetPounds_48⟩ := u_43
      try dsimp only at hw hP hD
      obtain ⟨p_49, p_50, p_51⟩ := hw
      refine lv_istore (lv' := [(4, .int r_44), (0, .ref (hm 0)), (1, .int i), (2, .int all), (3, .int what)]) hx hb dX10_who_43 hl (by decide) rfl (fun ls hl => ?_)
      refine lv_iconst (v := (-1)) hx hb dX10_who_45 (by decide) ?_
      refine lv_istore (lv' := [(5, .int (-1)), (4, .int r_44), (0, .ref (hm 0)), (1, .int i), (2, .int all), (3, .int what)]) hx hb dX10_who_46 hl (by decide) rfl (fun ls hl => ?_)
      refine lv_iconst (v := 0) hx hb dX10_who_48 (by decide) ?_
      refine lv_istore (lv' := [(6, .int 0), (5, .int (-1)), (4, .int r_44), (0, .ref (hm 0)), (1, .int i), (2, .int all), (3, .int what)]) hx hb dX10_who_49 hl (by decide) rfl (fun ls hl => ?_)
      refine lv_iconst (v := 0) hx hb dX10_who_51 (by decide) ?_
      refine lv_istore (lv' := [(7, .int 0), (6, .int 0), (5, .int (-1)), (4, .int r_44), (0, .ref (hm 0)), (1, .int i), (2, .int all), (3, .int what)]) hx hb dX10_who_52 hl (by decide) rfl (fun ls hl => ?_)
      have L54_66 : ∀ (n : Nat) (f_59 : Nat → Int32) (f_60 : Nat → Int32) (f_61 : Nat → Int32) (f_62 : Nat → Int32) (l_63 : Int32) (l_64 : Int32) (l_65 : Int32), (rg (0) 1 f_59) → (0 ≤ l_65.toInt ∧ l_65.toInt ≤ 6) → 7 - l_65.toInt < n → ∀ (H : Heap) (locs : List Loc) (ls : Array Slot), va_P D vwCl (wMD cy hm v_taped v_walkers v_loads v_pieces v_changeCosts v_planned v_isMarch v_clauseMany v_place v_end v_bad v_clauses v_codes v_open v_stacked v_isOver v_isBehind zatW_17 zatL_18 zatT_19 zatH_20 zatM_21 zatI_22 zatQ_23 zpacking_34 zpacked_35 v_goPace v_goMinutes v_spentAt v_ranChanges f_m_tape f_m_knee f_m_weight f_m_isLame f_m_loadWeight f_m_owner f_m_food f_m_miles f_m_slope f_m_clauseLetter f_m_sumFrom f_m_codeFrom f_m_codeTo f_m_code f_m_codeArg f_m_newLetter f_m_newSum f_m_newFrom f_m_newTo f_m_newCode f_m_newArg f_m_stack zworth_24 zisRefused_25 zleast_26 zpackPounds_36 zpackOwner_37 f_61 f_60 f_59 f_62 f_m_plainTime f_m_muleTime f_m_planTo f_m_march f_m_tired f_m_ranMinutes f_m_tiredAhead f_m_isReached f_m_toEnd f_m_upTo f_m_upNext f_m_byChanges f_m_bandPaces) H → va_D A (wMD cy hm v_taped v_walkers v_loads v_pieces v_changeCosts v_planned v_isMarch v_clauseMany v_place v_end v_bad v_clauses v_codes v_open v_stacked v_isOver v_isBehind zatW_17 zatL_18 zatT_19 zatH_20 zatM_21 zatI_22 zatQ_23 zpacking_34 zpacked_35 v_goPace v_goMinutes v_spentAt v_ranChanges f_m_tape f_m_knee f_m_weight f_m_isLame f_m_loadWeight f_m_owner f_m_food f_m_miles f_m_slope f_m_clauseLetter f_m_sumFrom f_m_codeFrom f_m_codeTo f_m_code f_m_codeArg f_m_newLetter f_m_newSum f_m_newFrom f_m_newTo f_m_newCode f_m_newArg f_m_stack zworth_24 zisRefused_25 zleast_26 zpackPounds_36 zpackOwner_37 f_61 f_60 f_59 f_62 f_m_plainTime f_m_muleTime f_m_planTo f_m_march f_m_tired f_m_ranMinutes f_m_tiredAhead f_m_isReached f_m_toEnd f_m_upTo f_m_upNext f_m_byChanges f_m_bandPaces) → va_S A s.heap H locs → lv_has ls 9 [(7, .int l_65), (6, .int l_64), (5, .int l_63), (4, .int r_44), (0, .ref (hm 0)), (1, .int i), (2, .int all), (3, .int what)] → W p l e (gRm 8) s m args below meth c H locs 0 0 Q (F0 m 54 ls []) := by
        intro n
        induction n with
        | zero => intro f_59 f_60 f_61 f_62 l_63 l_64 l_65 hL54_66_0 hL54_66_1 hm; exact absurd hm (by omega)
        | succ n ih54_66 =>
          intro f_59 f_60 f_61 f_62 l_63 l_64 l_65 hL54_66_0 hL54_66_1 hmL54_66 H locs ls hP hD hS hl
          refine lv_iload hx hb dX10_who_54 (lv_at hl 0 rfl) ?_
          refine lv_aload_n hx hb dX10_who_56 rfl (lv_at hl 4 rfl) ?_
          refine gt_MD_MD_walkers hx hb hts hown hK hP lwd_221 dX10_who_57 ?_
          refine lv_icmp_ge (tgt := 98) hx hb dX10_who_60 (by decide) (fun c_67 => ?_) (fun c_67 => ?_)
          · have gc_67 : v_walkers.toInt ≤ l_65.toInt := i_le (rfl : v_walkers.toInt = v_walkers.toInt) (rfl : l_65.toInt = l_65.toInt) c_67
            refine lv_iload_n hx hb dX10_who_98 rfl (lv_at hl 7 rfl) ?_
            refine lv_if_ne (tgt := 107) hx hb dX10_who_99 (by decide) (fun c_68 => ?_) (fun c_68 => ?_)
            · have gc_68 : what.toInt ≠ 0 := i_ne (rfl : what.toInt = what.toInt) (by decide : (0 : Int32).toInt = 0) c_68
              refine lv_iload hx hb dX10_who_107 (lv_at hl 1 rfl) ?_
              exact hrt l_64 zatW_17 zatL_18 zatT_19 zatH_20 zatM_21 zatI_22 zatQ_23 zpacking_34 zpacked_35 zworth_24 zisRefused_25 zleast_26 zpackPounds_36 zpackOwner_37 f_61 f_60 f_59 f_62 ⟨(by omega), (by omega), p_28, p_40, p_41, hL54_66_0⟩ hP hD hS rfl dX10_who_109
            · have gc_68 : what.toInt = 0 := i_eq (rfl : what.toInt = what.toInt) (by decide : (0 : Int32).toInt = 0) c_68
              refine lv_iload hx hb dX10_who_102 (lv_at hl 2 rfl) ?_
              refine lv_goto (tgt := 109) hx hb dX10_who_104 (by decide) ?_
              exact hrt l_63 zatW_17 zatL_18 zatT_19 zatH_20 zatM_21 zatI_22 zatQ_23 zpacking_34 zpacked_35 zworth_24 zisRefused_25 zleast_26 zpackPounds_36 zpackOwner_37 f_61 f_60 f_59 f_62 ⟨(by omega), (by omega), p_28, p_40, p_41, hL54_66_0⟩ hP hD hS rfl dX10_who_109
          · have gc_67 : l_65.toInt < v_walkers.toInt := i_nle (rfl : v_walkers.toInt = v_walkers.toInt) (rfl : l_65.toInt = l_65.toInt) c_67
            refine lv_aload_n hx hb dX10_who_63 rfl (lv_at hl 4 rfl) ?_
            refine lv_iload hx hb dX10_who_64 (lv_at hl 0 rfl) ?_
            refine xi hD hS hA (xV (As := [.int l_65]) (rest := []) hx hb hml hown hts hK hP hD hS hA NT_ok hN hAe hl.1 ⟨Nat.le_refl _, Nat.le_refl _⟩ 0 rfl rfl rfl (c_X10_wholePace l D cy hm v_taped v_walkers v_loads v_pieces v_changeCosts v_planned v_isMarch v_clauseMany v_place v_end v_bad v_clauses v_codes v_open v_stacked v_isOver v_isBehind zatW_17 zatL_18 zatT_19 zatH_20 zatM_21 zatI_22 zatQ_23 zpacking_34 zpacked_35 v_goPace v_goMinutes v_spentAt v_ranChanges f_m_tape f_m_knee f_m_weight f_m_isLame f_m_loadWeight f_m_owner f_m_food f_m_miles f_m_slope f_m_clauseLetter f_m_sumFrom f_m_codeFrom f_m_codeTo f_m_code f_m_codeArg f_m_newLetter f_m_newSum f_m_newFrom f_m_newTo f_m_newCode f_m_newArg f_m_stack zworth_24 zisRefused_25 zleast_26 zpackPounds_36 zpackOwner_37 f_61 f_60 f_59 f_62 f_m_plainTime f_m_muleTime f_m_planTo f_m_march f_m_tired f_m_ranMinutes f_m_tiredAhead f_m_isReached f_m_toEnd f_m_upTo f_m_upNext f_m_byChanges f_m_bandPaces H.size l_65 (by omega) (by omega) p_40 p_41 hL54_66_0) (gi_V lwd_753 lwd_754 lwd_755 lwd_5 lwd_756) ⟨rfl, hd_X10_wholePace⟩ ⟨Nat.le_of_ble_eq_true rfl, Nat.le_of_ble_eq_true rfl⟩ rfl (Nat.le_of_ble_eq_true rfl) dX10_who_66) (fun r_70 u_69 H locs hw hP hD hS => ?_)
            obtain ⟨zroom_71, zgivenTo_72, zcanBe_73, zsetPounds_74⟩ := u_69
            try dsimp only at hw hP hD
            obtain ⟨p_75, p_76, p_77⟩ := hw
            refine lv_iload hx hb dX10_who_69 (lv_at hl 3 rfl) ?_
            refine lv_isub hx hb dX10_who_71 ?_
            refine lv_topi (fun n_78 en_78 => ?_)
            have tn_78 : n_78.toInt = r_70.toInt - r_44.toInt := i_sub en_78 (rfl : r_70.toInt = r_70.toInt) (rfl : r_44.toInt = r_44.toInt) (by omega) (by omega)
            refine lv_istore (lv' := [(8, .int n_78), (7, .int l_65), (6, .int l_64), (5, .int l_63), (4, .int r_44), (0, .ref (hm 0)), (1, .int i), (2, .int all), (3, .int what)]) hx hb dX10_who_72 hl (by decide) rfl (fun ls hl => ?_)
            refine lv_iload hx hb dX10_who_74 (lv_at hl 0 rfl) ?_
            refine lv_iload hx hb dX10_who_76 (lv_at hl 2 rfl) ?_
            refine lv_icmp_gt (tgt := 84) hx hb dX10_who_78 (by decide) (fun c_79 => ?_) (fun c_79 => ?_)
            · have gc_79 : l_64.toInt < r_70.toInt - r_44.toInt := i_lt (rfl : l_64.toInt = l_64.toInt) tn_78 c_79
              refine lv_iload hx hb dX10_who_84 (lv_at hl 1 rfl) ?_
              refine lv_istore (lv' := [(5, .int l_65), (8, .int n_78), (7, .int l_65), (6, .int l_64), (4, .int r_44), (0, .ref (hm 0)), (1, .int i), (2, .int all), (3, .int what)]) hx hb dX10_who_86 hl (by decide) rfl (fun ls hl => ?_)
              refine lv_iload hx hb dX10_who_88 (lv_at hl 1 rfl) ?_
              refine lv_istore (lv' := [(6, .int n_78), (5, .int l_65), (8, .int n_78), (7, .int l_65), (4, .int r_44), (0, .ref (hm 0)), (1, .int i), (2, .int all), (3, .int what)]) hx hb dX10_who_90 hl (by decide) rfl (fun ls hl => ?_)
              obtain ⟨n_80, en_80⟩ : ∃ y : Int32, y = l_65 + 1 := ⟨_, rfl⟩
              have tn_80 : n_80.toInt = l_65.toInt + 1 := i_add en_80 (rfl : l_65.toInt = l_65.toInt) (by decide : (1 : Int32).toInt = 1) (by omega) (by omega)
              refine lv_iinc (v := n_80) (lv' := [(7, .int n_80), (6, .int n_78), (5, .int l_65), (8, .int n_78), (4, .int r_44), (0, .ref (hm 0)), (1, .int i), (2, .int all), (3, .int what)]) hx hb dX10_who_92 hl (k := 3) rfl (by rw [en_80]; rfl) (by decide) rfl (fun ls hl => ?_)
              refine lv_goto (tgt := 54) hx hb dX10_who_95 (by decide) ?_
              exact ih54_66 zcanBe_73 zgivenTo_72 zroom_71 zsetPounds_74 l_65 n_78 n_80 p_77 (by omega) (by omega) _ _ _ hP hD hS (lv_sub hl [0, 1, 2, 4, 5, 6, 7, 8] rfl)
            · have gc_79 : r_70.toInt - r_44.toInt ≤ l_64.toInt := i_nlt (rfl : l_64.toInt = l_64.toInt) tn_78 c_79
              refine lv_goto (tgt := 92) hx hb dX10_who_81 (by decide) ?_
              obtain ⟨n_81, en_81⟩ : ∃ y : Int32, y = l_65 + 1 := ⟨_, rfl⟩
              have tn_81 : n_81.toInt = l_65.toInt + 1 := i_add en_81 (rfl : l_65.toInt = l_65.toInt) (by decide : (1 : Int32).toInt = 1) (by omega) (by omega)
              refine lv_iinc (v := n_81) (lv' := [(7, .int n_81), (8, .int n_78), (6, .int l_64), (5, .int l_63), (4, .int r_44), (0, .ref (hm 0)), (1, .int i), (2, .int all), (3, .int what)]) hx hb dX10_who_92 hl (k := 1) rfl (by rw [en_81]; rfl) (by decide) rfl (fun ls hl => ?_)
              refine lv_goto (tgt := 54) hx hb dX10_who_95 (by decide) ?_
              exact ih54_66 zcanBe_73 zgivenTo_72 zroom_71 zsetPounds_74 l_63 l_64 n_81 p_77 (by omega) (by omega) _ _ _ hP hD hS (lv_sub hl [0, 2, 3, 4, 5, 6, 7, 8] rfl)
      have k_82 : ((-1) : Int32).toInt = (-1) := by decide
      have k_83 : (0 : Int32).toInt = 0 := by decide
      have k_84 : (0 : Int32).toInt = 0 := by decide
      exact L54_66 8589934592 zcanBe_47 zgivenTo_46 zroom_45 zsetPounds_48 (-1) 0 0 p_51 (by omega) (by omega) _ _ _ hP hD hS (lv_sub hl [0, 1, 2, 3, 4, 5, 6, 7] rfl)
    · have gc_14 : r_11.toInt = 0 := i_eq (rfl : r_11.toInt = r_11.toInt) (by decide : (0 : Int32).toInt = 0) c_14
      refine lv_bipush (v := (-2)) hx hb dX10_who_19 (by decide) ?_
      have k_85 : ((-2) : Int32).toInt = (-2) := by decide
      exact hrt (-2) v_atW v_atL v_atT v_atH v_atM v_atI v_atQ v_packing v_packed f_m_worth f_m_isRefused f_m_least f_m_packPounds f_m_packOwner f_m_room f_m_givenTo f_m_canBe f_m_setPounds ⟨(by omega), (by omega), hr_m_isRefused, hr_m_packPounds, hr_m_packOwner, hr_m_canBe⟩ hP hD hS rfl dX10_who_21
set_option maxHeartbeats 16000000 in
set_option maxRecDepth 100000 in
theorem c_X10_pounds (l : Launch) (D : va_G) (cy : Nat → ClassId) (hm : Nat → Nat) (v_taped v_walkers v_loads v_pieces v_changeCosts v_planned v_isMarch v_clauseMany v_place v_end v_bad v_clauses v_codes v_open v_stacked v_isOver v_isBehind v_atW v_atL v_atT v_atH v_atM v_atI v_atQ v_packing v_packed v_goPace v_goMinutes v_spentAt v_ranChanges : Int32) (f_m_tape f_m_knee f_m_weight f_m_isLame f_m_loadWeight f_m_owner f_m_food f_m_miles f_m_slope f_m_clauseLetter f_m_sumFrom f_m_codeFrom f_m_codeTo f_m_code f_m_codeArg f_m_newLetter f_m_newSum f_m_newFrom f_m_newTo f_m_newCode f_m_newArg f_m_stack f_m_worth f_m_isRefused f_m_least f_m_packPounds f_m_packOwner f_m_room f_m_givenTo f_m_canBe f_m_setPounds f_m_plainTime f_m_muleTime f_m_planTo f_m_march f_m_tired f_m_ranMinutes f_m_tiredAhead f_m_isReached f_m_toEnd f_m_upTo f_m_upNext f_m_byChanges f_m_bandPaces : Nat → Int32) (sz : Nat) (x : Int32) (i : Int32) (all : Int32) (hb_v_walkers : 0 ≤ v_walkers.toInt ∧ v_walkers.toInt ≤ 6) (hb_v_loads : 0 ≤ v_loads.toInt ∧ v_loads.toInt ≤ 9) (hb_v_pieces : 0 ≤ v_pieces.toInt ∧ v_pieces.toInt ≤ 10) (hb_v_clauseMany : 0 ≤ v_clauseMany.toInt ∧ v_clauseMany.toInt ≤ 14) (hb_v_atW : 0 ≤ v_atW.toInt ∧ v_atW.toInt ≤ 5) (hb_v_packed : 0 ≤ v_packed.toInt ∧ v_packed.toInt ≤ 10) (hr_m_weight : rg (0) 250 f_m_weight) (hr_m_isLame : rg (0) 1 f_m_isLame) (hr_m_loadWeight : rg (0) 120 f_m_loadWeight) (hr_m_owner : rg (-1) 5 f_m_owner) (hr_m_food : rg (0) 20 f_m_food) (hr_m_miles : rg (0) 20 f_m_miles) (hr_m_isRefused : rg (0) 1 f_m_isRefused) (hr_m_packPounds : rg (0) 250 f_m_packPounds) (hr_m_packOwner : rg (-1) 5 f_m_packOwner) (hr_m_canBe : rg (0) 1 f_m_canBe) (hwf : wfC v_clauseMany f_m_sumFrom f_m_codeFrom f_m_codeTo f_m_code) : gMi l yX10_pounds cX10_pounds 7 .int 8 [.ref (hm 0), .int x, .int i, .int all] D cy (wMD cy hm v_taped v_walkers v_loads v_pieces v_changeCosts v_planned v_isMarch v_clauseMany v_place v_end v_bad v_clauses v_codes v_open v_stacked v_isOver v_isBehind v_atW v_atL v_atT v_atH v_atM v_atI v_atQ v_packing v_packed v_goPace v_goMinutes v_spentAt v_ranChanges f_m_tape f_m_knee f_m_weight f_m_isLame f_m_loadWeight f_m_owner f_m_food f_m_miles f_m_slope f_m_clauseLetter f_m_sumFrom f_m_codeFrom f_m_codeTo f_m_code f_m_codeArg f_m_newLetter f_m_newSum f_m_newFrom f_m_newTo f_m_newCode f_m_newArg f_m_stack f_m_worth f_m_isRefused f_m_least f_m_packPounds f_m_packOwner f_m_room f_m_givenTo f_m_canBe f_m_setPounds f_m_plainTime f_m_muleTime f_m_planTo f_m_march f_m_tired f_m_ranMinutes f_m_tiredAhead f_m_isReached f_m_toEnd f_m_upTo f_m_upNext f_m_byChanges f_m_bandPaces) NT sz (fun (r : Int32) (u : Int32 × Int32 × Int32 × Int32 × Int32 × Int32 × Int32 × Int32 × Int32 × (Nat → Int32) × (Nat → Int32) × (Nat → Int32) × (Nat → Int32) × (Nat → Int32) × (Nat → Int32) × (Nat → Int32) × (Nat → Int32) × (Nat → Int32)) => (0 ≤ (u.1).toInt ∧ (u.1).toInt ≤ 5) ∧ (0 ≤ (u.2.2.2.2.2.2.2.2.1).toInt ∧ (u.2.2.2.2.2.2.2.2.1).toInt ≤ 10) ∧ (rg (0) 1 (u.2.2.2.2.2.2.2.2.2.2.1)) ∧ (rg (0) 250 (u.2.2.2.2.2.2.2.2.2.2.2.2.1)) ∧ (rg (-1) 5 (u.2.2.2.2.2.2.2.2.2.2.2.2.2.1)) ∧ (rg (0) 1 (u.2.2.2.2.2.2.2.2.2.2.2.2.2.2.2.2.1))) (fun u => wMD cy hm v_taped v_walkers v_loads v_pieces v_changeCosts v_planned v_isMarch v_clauseMany v_place v_end v_bad v_clauses v_codes v_open v_stacked v_isOver v_isBehind (u.1) (u.2.1) (u.2.2.1) (u.2.2.2.1) (u.2.2.2.2.1) (u.2.2.2.2.2.1) (u.2.2.2.2.2.2.1) (u.2.2.2.2.2.2.2.1) (u.2.2.2.2.2.2.2.2.1) v_goPace v_goMinutes v_spentAt v_ranChanges f_m_tape f_m_knee f_m_weight f_m_isLame f_m_loadWeight f_m_owner f_m_food f_m_miles f_m_slope f_m_clauseLetter f_m_sumFrom f_m_codeFrom f_m_codeTo f_m_code f_m_codeArg f_m_newLetter f_m_newSum f_m_newFrom f_m_newTo f_m_newCode f_m_newArg f_m_stack (u.2.2.2.2.2.2.2.2.2.1) (u.2.2.2.2.2.2.2.2.2.2.1) (u.2.2.2.2.2.2.2.2.2.2.2.1) (u.2.2.2.2.2.2.2.2.2.2.2.2.1) (u.2.2.2.2.2.2.2.2.2.2.2.2.2.1) (u.2.2.2.2.2.2.2.2.2.2.2.2.2.2.1) (u.2.2.2.2.2.2.2.2.2.2.2.2.2.2.2.1) (u.2.2.2.2.2.2.2.2.2.2.2.2.2.2.2.2.1) (u.2.2.2.2.2.2.2.2.2.2.2.2.2.2.2.2.2) f_m_plainTime f_m_muleTime f_m_planTo f_m_march f_m_tired f_m_ranMinutes f_m_tiredAhead f_m_isReached f_m_toEnd f_m_upTo f_m_upNext f_m_byChanges f_m_bandPaces) := by
  refine gMi_in (by decide) (Nat.le_of_ble_eq_true rfl) ?_
  intro p e s m args below meth c A ls Q hx hb hml hts hown hsz hP hK hD hN hAe hA hS hl hret
  subst hsz
  have hl : lv_has ls 7 [(0, .ref (hm 0)), (1, .int x), (2, .int i), (3, .int all)] := hl
  have hrt := fun (r : Int32) (v_atW' : Int32) (v_atL' : Int32) (v_atT' : Int32) (v_atH' : Int32) (v_atM' : Int32) (v_atI' : Int32) (v_atQ' : Int32) (v_packing' : Int32) (v_packed' : Int32) (f_m_worth' : Nat → Int32) (f_m_isRefused' : Nat → Int32) (f_m_least' : Nat → Int32) (f_m_packPounds' : Nat → Int32) (f_m_packOwner' : Nat → Int32) (f_m_room' : Nat → Int32) (f_m_givenTo' : Nat → Int32) (f_m_canBe' : Nat → Int32) (f_m_setPounds' : Nat → Int32) (hp : (0 ≤ v_atW'.toInt ∧ v_atW'.toInt ≤ 5) ∧ (0 ≤ v_packed'.toInt ∧ v_packed'.toInt ≤ 10) ∧ (rg (0) 1 f_m_isRefused') ∧ (rg (0) 250 f_m_packPounds') ∧ (rg (-1) 5 f_m_packOwner') ∧ (rg (0) 1 f_m_canBe')) {H : Heap} {locs : List Loc} {pc : Nat} {ls : Array Slot} => hret r (v_atW', v_atL', v_atT', v_atH', v_atM', v_atI', v_atQ', v_packing', v_packed', f_m_worth', f_m_isRefused', f_m_least', f_m_packPounds', f_m_packOwner', f_m_room', f_m_givenTo', f_m_canBe', f_m_setPounds') (H := H) (locs := locs) (pc := pc) (ls := ls) hp
  clear hret
  refine lv_aload_n hx hb dX10_pounds_0 rfl (lv_at hl 0 rfl) ?_
  refine lv_iload_n hx hb dX10_pounds_1 rfl (lv_at hl 1 rfl) ?_
  refine xi hD hS hA (xV (As := [.int x]) (rest := []) hx hb hml hown hts hK hP hD hS hA NT_ok hN hAe hl.1 ⟨Nat.le_refl _, Nat.le_refl _⟩ 0 rfl rfl rfl (c_X10_isLoad l D cy hm v_taped v_walkers v_loads v_pieces v_changeCosts v_planned v_isMarch v_clauseMany v_place v_end v_bad v_clauses v_codes v_open v_stacked v_isOver v_isBehind v_atW v_atL v_atT v_atH v_atM v_atI v_atQ v_packing v_packed v_goPace v_goMinutes v_spentAt v_ranChanges f_m_tape f_m_knee f_m_weight f_m_isLame f_m_loadWeight f_m_owner f_m_food f_m_miles f_m_slope f_m_clauseLetter f_m_sumFrom f_m_codeFrom f_m_codeTo f_m_code f_m_codeArg f_m_newLetter f_m_newSum f_m_newFrom f_m_newTo f_m_newCode f_m_newArg f_m_stack f_m_worth f_m_isRefused f_m_least f_m_packPounds f_m_packOwner f_m_room f_m_givenTo f_m_canBe f_m_setPounds f_m_plainTime f_m_muleTime f_m_planTo f_m_march f_m_tired f_m_ranMinutes f_m_tiredAhead f_m_isReached f_m_toEnd f_m_upTo f_m_upNext f_m_byChanges f_m_bandPaces s.heap.size x (by omega)) (gi_V lwd_732 lwd_733 lwd_734 lwd_5 lwd_735) ⟨rfl, hd_X10_isLoad⟩ ⟨Nat.le_of_ble_eq_true rfl, Nat.le_of_ble_eq_true rfl⟩ rfl (Nat.le_of_ble_eq_true rfl) dX10_pounds_2) (fun r_2 u_1 H locs hw hP hD hS => ?_)
  try dsimp only at hw hP hD
  obtain ⟨p_3, p_4⟩ := hw
  refine lv_if_eq (tgt := 17) hx hb dX10_pounds_5 (by decide) (fun c_5 => ?_) (fun c_5 => ?_)
  · have gc_5 : r_2.toInt = 0 := i_eq (rfl : r_2.toInt = r_2.toInt) (by decide : (0 : Int32).toInt = 0) c_5
    refine lv_iconst (v := (-1)) hx hb dX10_pounds_17 (by decide) ?_
    have k_6 : ((-1) : Int32).toInt = (-1) := by decide
    exact hrt (-1) v_atW v_atL v_atT v_atH v_atM v_atI v_atQ v_packing v_packed f_m_worth f_m_isRefused f_m_least f_m_packPounds f_m_packOwner f_m_room f_m_givenTo f_m_canBe f_m_setPounds ⟨(by omega), (by omega), hr_m_isRefused, hr_m_packPounds, hr_m_packOwner, hr_m_canBe⟩ hP hD hS rfl dX10_pounds_18
  · have gc_5 : r_2.toInt ≠ 0 := i_ne (rfl : r_2.toInt = r_2.toInt) (by decide : (0 : Int32).toInt = 0) c_5
    refine lv_aload_n hx hb dX10_pounds_8 rfl (lv_at hl 0 rfl) ?_
    refine lv_iload_n hx hb dX10_pounds_9 rfl (lv_at hl 2 rfl) ?_
    refine lv_iload_n hx hb dX10_pounds_10 rfl (lv_at hl 3 rfl) ?_
    refine xi hD hS hA (xV (As := [.int i, .int all]) (rest := []) hx hb hml hown hts hK hP hD hS hA NT_ok hN hAe hl.1 ⟨Nat.le_refl _, Nat.le_refl _⟩ 0 rfl rfl rfl (c_X10_canAsk l D cy hm v_taped v_walkers v_loads v_pieces v_changeCosts v_planned v_isMarch v_clauseMany v_place v_end v_bad v_clauses v_codes v_open v_stacked v_isOver v_isBehind v_atW v_atL v_atT v_atH v_atM v_atI v_atQ v_packing v_packed v_goPace v_goMinutes v_spentAt v_ranChanges f_m_tape f_m_knee f_m_weight f_m_isLame f_m_loadWeight f_m_owner f_m_food f_m_miles f_m_slope f_m_clauseLetter f_m_sumFrom f_m_codeFrom f_m_codeTo f_m_code f_m_codeArg f_m_newLetter f_m_newSum f_m_newFrom f_m_newTo f_m_newCode f_m_newArg f_m_stack f_m_worth f_m_isRefused f_m_least f_m_packPounds f_m_packOwner f_m_room f_m_givenTo f_m_canBe f_m_setPounds f_m_plainTime f_m_muleTime f_m_planTo f_m_march f_m_tired f_m_ranMinutes f_m_tiredAhead f_m_isReached f_m_toEnd f_m_upTo f_m_upNext f_m_byChanges f_m_bandPaces H.size i all (by omega) (by omega)) (gi_V lwd_645 lwd_646 lwd_647 lwd_5 lwd_648) ⟨rfl, hd_X10_canAsk⟩ ⟨Nat.le_of_ble_eq_true rfl, Nat.le_of_ble_eq_true rfl⟩ rfl (Nat.le_of_ble_eq_true rfl) dX10_pounds_11) (fun r_8 u_7 H locs hw hP hD hS => ?_)
    try dsimp only at hw hP hD
    obtain ⟨p_9, p_10⟩ := hw
    refine lv_if_ne (tgt := 19) hx hb dX10_pounds_14 (by decide) (fun c_11 => ?_) (fun c_11 => ?_)
    · have gc_11 : r_8.toInt ≠ 0 := i_ne (rfl : r_8.toInt = r_8.toInt) (by decide : (0 : Int32).toInt = 0) c_11
      refine lv_aload_n hx hb dX10_pounds_19 rfl (lv_at hl 0 rfl) ?_
      refine lv_iload_n hx hb dX10_pounds_20 rfl (lv_at hl 2 rfl) ?_
      refine lv_iload_n hx hb dX10_pounds_21 rfl (lv_at hl 3 rfl) ?_
      refine xv hD hS hA (xV (As := [.int i, .int all]) (rest := []) hx hb hml hown hts hK hP hD hS hA NT_ok hN hAe hl.1 ⟨Nat.le_refl _, Nat.le_refl _⟩ 0 rfl rfl rfl (c_X10_lays l D cy hm v_taped v_walkers v_loads v_pieces v_changeCosts v_planned v_isMarch v_clauseMany v_place v_end v_bad v_clauses v_codes v_open v_stacked v_isOver v_isBehind v_atW v_atL v_atT v_atH v_atM v_atI v_atQ v_packing v_packed v_goPace v_goMinutes v_spentAt v_ranChanges f_m_tape f_m_knee f_m_weight f_m_isLame f_m_loadWeight f_m_owner f_m_food f_m_miles f_m_slope f_m_clauseLetter f_m_sumFrom f_m_codeFrom f_m_codeTo f_m_code f_m_codeArg f_m_newLetter f_m_newSum f_m_newFrom f_m_newTo f_m_newCode f_m_newArg f_m_stack f_m_worth f_m_isRefused f_m_least f_m_packPounds f_m_packOwner f_m_room f_m_givenTo f_m_canBe f_m_setPounds f_m_plainTime f_m_muleTime f_m_planTo f_m_march f_m_tired f_m_ranMinutes f_m_tiredAhead f_m_isReached f_m_toEnd f_m_upTo f_m_upNext f_m_byChanges f_m_bandPaces H.size i all (by omega) (by omega) (by omega) hr_m_weight hr_m_isLame hr_m_miles hr_m_isRefused (by omega) (by omega) hwf) (gi_V lwd_653 lwd_654 lwd_655 lwd_5 lwd_656) ⟨rfl, hd_X10_lays⟩ ⟨Nat.le_of_ble_eq_true rfl, Nat.le_of_ble_eq_true rfl⟩ rfl (Nat.le_of_ble_eq_true rfl) dX10_pounds_22) (fun u_12 H locs hw hP hD hS => ?_)
      obtain ⟨zatW_14, zatL_15, zatT_16, zatH_17, zatM_18, zatI_19, zatQ_20, zworth_21, zisRefused_22, zleast_23⟩ := u_12
      try dsimp only at hw hP hD
      obtain ⟨p_24, p_25⟩ := hw
      refine lv_aload_n hx hb dX10_pounds_25 rfl (lv_at hl 0 rfl) ?_
      refine lv_iload_n hx hb dX10_pounds_26 rfl (lv_at hl 2 rfl) ?_
      refine lv_aload_n hx hb dX10_pounds_27 rfl (lv_at hl 0 rfl) ?_
      refine xi hD hS hA (xV (As := []) (rest := [.int i, .ref (hm 0)]) hx hb hml hown hts hK hP hD hS hA NT_ok hN hAe hl.1 ⟨Nat.le_refl _, Nat.le_refl _⟩ 0 rfl rfl rfl (c_X10_everybody l D cy hm v_taped v_walkers v_loads v_pieces v_changeCosts v_planned v_isMarch v_clauseMany v_place v_end v_bad v_clauses v_codes v_open v_stacked v_isOver v_isBehind zatW_14 zatL_15 zatT_16 zatH_17 zatM_18 zatI_19 zatQ_20 v_packing v_packed v_goPace v_goMinutes v_spentAt v_ranChanges f_m_tape f_m_knee f_m_weight f_m_isLame f_m_loadWeight f_m_owner f_m_food f_m_miles f_m_slope f_m_clauseLetter f_m_sumFrom f_m_codeFrom f_m_codeTo f_m_code f_m_codeArg f_m_newLetter f_m_newSum f_m_newFrom f_m_newTo f_m_newCode f_m_newArg f_m_stack zworth_21 zisRefused_22 zleast_23 f_m_packPounds f_m_packOwner f_m_room f_m_givenTo f_m_canBe f_m_setPounds f_m_plainTime f_m_muleTime f_m_planTo f_m_march f_m_tired f_m_ranMinutes f_m_tiredAhead f_m_isReached f_m_toEnd f_m_upTo f_m_upNext f_m_byChanges f_m_bandPaces H.size (by omega)) (gi_V lwd_736 lwd_737 lwd_738 lwd_5 lwd_739) ⟨rfl, hd_X10_everybody⟩ ⟨Nat.le_of_ble_eq_true rfl, Nat.le_of_ble_eq_true rfl⟩ rfl (Nat.le_of_ble_eq_true rfl) dX10_pounds_28) (fun r_27 u_26 H locs hw hP hD hS => ?_)
      try dsimp only at hw hP hD
      clear hw
      refine lv_iconst (v := 1) hx hb dX10_pounds_31 (by decide) ?_
      have k_28 : (1 : Int32).toInt = 1 := by decide
      refine xv hD hS hA (xV (As := [.int i, .int r_27, .int 1]) (rest := []) hx hb hml hown hts hK hP hD hS hA NT_ok hN hAe hl.1 ⟨Nat.le_refl _, Nat.le_refl _⟩ 0 rfl rfl rfl (c_X10_packs l D cy hm v_taped v_walkers v_loads v_pieces v_changeCosts v_planned v_isMarch v_clauseMany v_place v_end v_bad v_clauses v_codes v_open v_stacked v_isOver v_isBehind zatW_14 zatL_15 zatT_16 zatH_17 zatM_18 zatI_19 zatQ_20 v_packing v_packed v_goPace v_goMinutes v_spentAt v_ranChanges f_m_tape f_m_knee f_m_weight f_m_isLame f_m_loadWeight f_m_owner f_m_food f_m_miles f_m_slope f_m_clauseLetter f_m_sumFrom f_m_codeFrom f_m_codeTo f_m_code f_m_codeArg f_m_newLetter f_m_newSum f_m_newFrom f_m_newTo f_m_newCode f_m_newArg f_m_stack zworth_21 zisRefused_22 zleast_23 f_m_packPounds f_m_packOwner f_m_room f_m_givenTo f_m_canBe f_m_setPounds f_m_plainTime f_m_muleTime f_m_planTo f_m_march f_m_tired f_m_ranMinutes f_m_tiredAhead f_m_isReached f_m_toEnd f_m_upTo f_m_upNext f_m_byChanges f_m_bandPaces H.size i r_27 1 (by omega) (by omega) hr_m_loadWeight hr_m_owner hr_m_food hr_m_packPounds hr_m_packOwner (by omega) (by omega)) (gi_V lwd_740 lwd_741 lwd_742 lwd_5 lwd_743) ⟨rfl, hd_X10_packs⟩ ⟨Nat.le_of_ble_eq_true rfl, Nat.le_of_ble_eq_true rfl⟩ rfl (Nat.le_of_ble_eq_true rfl) dX10_pounds_32) (fun u_29 H locs hw hP hD hS => ?_)
      obtain ⟨zpacking_31, zpacked_32, zpackPounds_33, zpackOwner_34⟩ := u_29
      try dsimp only at hw hP hD
      obtain ⟨p_35, p_36, p_37, p_38⟩ := hw
      refine lv_aload_n hx hb dX10_pounds_35 rfl (lv_at hl 0 rfl) ?_
      refine lv_iconst (v := (-1)) hx hb dX10_pounds_36 (by decide) ?_
      have k_39 : ((-1) : Int32).toInt = (-1) := by decide
      refine xi hD hS hA (xV (As := [.int (-1)]) (rest := []) hx hb hml hown hts hK hP hD hS hA NT_ok hN hAe hl.1 ⟨Nat.le_refl _, Nat.le_refl _⟩ 0 rfl rfl rfl (c_X10_wholePace l D cy hm v_taped v_walkers v_loads v_pieces v_changeCosts v_planned v_isMarch v_clauseMany v_place v_end v_bad v_clauses v_codes v_open v_stacked v_isOver v_isBehind zatW_14 zatL_15 zatT_16 zatH_17 zatM_18 zatI_19 zatQ_20 zpacking_31 zpacked_32 v_goPace v_goMinutes v_spentAt v_ranChanges f_m_tape f_m_knee f_m_weight f_m_isLame f_m_loadWeight f_m_owner f_m_food f_m_miles f_m_slope f_m_clauseLetter f_m_sumFrom f_m_codeFrom f_m_codeTo f_m_code f_m_codeArg f_m_newLetter f_m_newSum f_m_newFrom f_m_newTo f_m_newCode f_m_newArg f_m_stack zworth_21 zisRefused_22 zleast_23 zpackPounds_33 zpackOwner_34 f_m_room f_m_givenTo f_m_canBe f_m_setPounds f_m_plainTime f_m_muleTime f_m_planTo f_m_march f_m_tired f_m_ranMinutes f_m_tiredAhead f_m_isReached f_m_toEnd f_m_upTo f_m_upNext f_m_byChanges f_m_bandPaces H.size (-1) (by omega) (by omega) p_37 p_38 hr_m_canBe) (gi_V lwd_753 lwd_754 lwd_755 lwd_5 lwd_756) ⟨rfl, hd_X10_wholePace⟩ ⟨Nat.le_of_ble_eq_true rfl, Nat.le_of_ble_eq_true rfl⟩ rfl (Nat.le_of_ble_eq_true rfl) dX10_pounds_37) (fun r_41 u_40 H locs hw hP hD hS => ?_)
      obtain ⟨zroom_42, zgivenTo_43, zcanBe_44, zsetPounds_45⟩ := u_40
      try dsimp only at hw hP hD
      obtain ⟨p_46, p_47, p_48⟩ := hw
      refine lv_istore (lv' := [(4, .int r_41), (0, .ref (hm 0)), (1, .int x), (2, .int i), (3, .int all)]) hx hb dX10_pounds_40 hl (by decide) rfl (fun ls hl => ?_)
      refine lv_iload hx hb dX10_pounds_42 (lv_at hl 0 rfl) ?_
      refine lv_bipush (v := 60) hx hb dX10_pounds_44 (by decide) ?_
      refine lv_icmp_ne (tgt := 52) hx hb dX10_pounds_46 (by decide) (fun c_49 => ?_) (fun c_49 => ?_)
      · have gc_49 : r_41.toInt ≠ 60 := i_ne (rfl : r_41.toInt = r_41.toInt) (by decide : (60 : Int32).toInt = 60) c_49
        refine lv_aload_n hx hb dX10_pounds_52 rfl (lv_at hl 1 rfl) ?_
        refine gt_MD_MD_packPounds hx hb hts hown hK hP lwd_181 dX10_pounds_53 ?_
        refine lv_iload_n hx hb dX10_pounds_56 rfl (lv_at hl 2 rfl) ?_
        refine al_m_packPounds hx hb hK hP p_37 (i_in (rfl : x.toInt = x.toInt) (by omega) (by omega)) dX10_pounds_57 (fun n_50 en_50 bn_50 => ?_)
        refine lv_istore (lv' := [(5, .int n_50), (4, .int r_41), (0, .ref (hm 0)), (1, .int x), (2, .int i), (3, .int all)]) hx hb dX10_pounds_58 hl (by decide) rfl (fun ls hl => ?_)
        refine lv_iconst (v := 1) hx hb dX10_pounds_60 (by decide) ?_
        refine lv_istore (lv' := [(6, .int 1), (5, .int n_50), (4, .int r_41), (0, .ref (hm 0)), (1, .int x), (2, .int i), (3, .int all)]) hx hb dX10_pounds_61 hl (by decide) rfl (fun ls hl => ?_)
        have L63_63 : ∀ (n : Nat) (f_57 : Nat → Int32) (f_58 : Nat → Int32) (f_59 : Nat → Int32) (f_60 : Nat → Int32) (f_61 : Nat → Int32) (l_62 : Int32), (rg (0) 1 f_57) → (rg (0) 250 f_59) → (1 ≤ l_62.toInt ∧ l_62.toInt ≤ 251) → 252 - l_62.toInt < n → ∀ (H : Heap) (locs : List Loc) (ls : Array Slot), va_P D vwCl (wMD cy hm v_taped v_walkers v_loads v_pieces v_changeCosts v_planned v_isMarch v_clauseMany v_place v_end v_bad v_clauses v_codes v_open v_stacked v_isOver v_isBehind zatW_14 zatL_15 zatT_16 zatH_17 zatM_18 zatI_19 zatQ_20 zpacking_31 zpacked_32 v_goPace v_goMinutes v_spentAt v_ranChanges f_m_tape f_m_knee f_m_weight f_m_isLame f_m_loadWeight f_m_owner f_m_food f_m_miles f_m_slope f_m_clauseLetter f_m_sumFrom f_m_codeFrom f_m_codeTo f_m_code f_m_codeArg f_m_newLetter f_m_newSum f_m_newFrom f_m_newTo f_m_newCode f_m_newArg f_m_stack zworth_21 zisRefused_22 zleast_23 f_59 zpackOwner_34 f_60 f_58 f_57 f_61 f_m_plainTime f_m_muleTime f_m_planTo f_m_march f_m_tired f_m_ranMinutes f_m_tiredAhead f_m_isReached f_m_toEnd f_m_upTo f_m_upNext f_m_byChanges f_m_bandPaces) H → va_D A (wMD cy hm v_taped v_walkers v_loads v_pieces v_changeCosts v_planned v_isMarch v_clauseMany v_place v_end v_bad v_clauses v_codes v_open v_stacked v_isOver v_isBehind zatW_14 zatL_15 zatT_16 zatH_17 zatM_18 zatI_19 zatQ_20 zpacking_31 zpacked_32 v_goPace v_goMinutes v_spentAt v_ranChanges f_m_tape f_m_knee f_m_weight f_m_isLame f_m_loadWeight f_m_owner f_m_food f_m_miles f_m_slope f_m_clauseLetter f_m_sumFrom f_m_codeFrom f_m_codeTo f_m_code f_m_codeArg f_m_newLetter f_m_newSum f_m_newFrom f_m_newTo f_m_newCode f_m_newArg f_m_stack zworth_21 zisRefused_22 zleast_23 f_59 zpackOwner_34 f_60 f_58 f_57 f_61 f_m_plainTime f_m_muleTime f_m_planTo f_m_march f_m_tired f_m_ranMinutes f_m_tiredAhead f_m_isReached f_m_toEnd f_m_upTo f_m_upNext f_m_byChanges f_m_bandPaces) → va_S A s.heap H locs → lv_has ls 7 [(6, .int l_62), (5, .int n_50), (4, .int r_41), (0, .ref (hm 0)), (1, .int x), (2, .int i), (3, .int all)] → W p l e (gRm 8) s m args below meth c H locs 0 0 Q (F0 m 63 ls []) := by
          intro n
          induction n with
          | zero => intro f_57 f_58 f_59 f_60 f_61 l_62 hL63_63_0 hL63_63_1 hL63_63_2 hm; exact absurd hm (by omega)
          | succ n ih63_63 =>
            intro f_57 f_58 f_59 f_60 f_61 l_62 hL63_63_0 hL63_63_1 hL63_63_2 hmL63_63 H locs ls hP hD hS hl
            refine lv_iload hx hb dX10_pounds_63 (lv_at hl 0 rfl) ?_
            refine lv_iload hx hb dX10_pounds_65 (lv_at hl 1 rfl) ?_
            refine lv_icmp_gt (tgt := 102) hx hb dX10_pounds_67 (by decide) (fun c_64 => ?_) (fun c_64 => ?_)
            · have gc_64 : n_50.toInt < l_62.toInt := i_lt (rfl : n_50.toInt = n_50.toInt) (rfl : l_62.toInt = l_62.toInt) c_64
              refine lv_bipush (v := (-2)) hx hb dX10_pounds_102 (by decide) ?_
              have k_65 : ((-2) : Int32).toInt = (-2) := by decide
              exact hrt (-2) zatW_14 zatL_15 zatT_16 zatH_17 zatM_18 zatI_19 zatQ_20 zpacking_31 zpacked_32 zworth_21 zisRefused_22 zleast_23 f_59 zpackOwner_34 f_60 f_58 f_57 f_61 ⟨(by omega), (by omega), p_25, hL63_63_1, p_38, hL63_63_0⟩ hP hD hS rfl dX10_pounds_104
            · have gc_64 : l_62.toInt ≤ n_50.toInt := i_nlt (rfl : n_50.toInt = n_50.toInt) (rfl : l_62.toInt = l_62.toInt) c_64
              refine lv_aload_n hx hb dX10_pounds_70 rfl (lv_at hl 3 rfl) ?_
              refine gt_MD_MD_packPounds hx hb hts hown hK hP lwd_181 dX10_pounds_71 ?_
              refine lv_iload_n hx hb dX10_pounds_74 rfl (lv_at hl 4 rfl) ?_
              refine lv_iload hx hb dX10_pounds_75 (lv_at hl 1 rfl) ?_
              refine lv_iload hx hb dX10_pounds_77 (lv_at hl 0 rfl) ?_
              refine lv_isub hx hb dX10_pounds_79 ?_
              refine lv_topi (fun n_66 en_66 => ?_)
              have tn_66 : n_66.toInt = n_50.toInt - l_62.toInt := i_sub en_66 (rfl : n_50.toInt = n_50.toInt) (rfl : l_62.toInt = l_62.toInt) (by omega) (by omega)
              refine as_m_packPounds (x := n_66) hx hb hK hP hD hS hL63_63_1 (i_in (rfl : x.toInt = x.toInt) (by omega) (by omega)) (by omega) dX10_pounds_80 (fun f_67 ef_67 rf_67 H locs hP hD hS => ?_)
              refine lv_aload_n hx hb dX10_pounds_81 rfl (lv_at hl 3 rfl) ?_
              refine lv_iload hx hb dX10_pounds_82 (lv_at hl 2 rfl) ?_
              refine lv_iconst (v := 1) hx hb dX10_pounds_84 (by decide) ?_
              refine lv_iadd hx hb dX10_pounds_85 ?_
              refine lv_topi (fun n_68 en_68 => ?_)
              have tn_68 : n_68.toInt = r_41.toInt + 1 := i_add en_68 (rfl : r_41.toInt = r_41.toInt) (by decide : (1 : Int32).toInt = 1) (by omega) (by omega)
              refine lv_iconst (v := (-1)) hx hb dX10_pounds_86 (by decide) ?_
              refine xi hD hS hA (xV (As := [.int n_68, .int (-1)]) (rest := []) hx hb hml hown hts hK hP hD hS hA NT_ok hN hAe hl.1 ⟨Nat.le_refl _, Nat.le_refl _⟩ 0 rfl rfl rfl (c_X10_canAt l D cy hm v_taped v_walkers v_loads v_pieces v_changeCosts v_planned v_isMarch v_clauseMany v_place v_end v_bad v_clauses v_codes v_open v_stacked v_isOver v_isBehind zatW_14 zatL_15 zatT_16 zatH_17 zatM_18 zatI_19 zatQ_20 zpacking_31 zpacked_32 v_goPace v_goMinutes v_spentAt v_ranChanges f_m_tape f_m_knee f_m_weight f_m_isLame f_m_loadWeight f_m_owner f_m_food f_m_miles f_m_slope f_m_clauseLetter f_m_sumFrom f_m_codeFrom f_m_codeTo f_m_code f_m_codeArg f_m_newLetter f_m_newSum f_m_newFrom f_m_newTo f_m_newCode f_m_newArg f_m_stack zworth_21 zisRefused_22 zleast_23 f_67 zpackOwner_34 f_60 f_58 f_57 f_61 f_m_plainTime f_m_muleTime f_m_planTo f_m_march f_m_tired f_m_ranMinutes f_m_tiredAhead f_m_isReached f_m_toEnd f_m_upTo f_m_upNext f_m_byChanges f_m_bandPaces H.size n_68 (-1) (by omega) (by omega) rf_67 p_38 hL63_63_0) (gi_V lwd_757 lwd_758 lwd_759 lwd_5 lwd_760) ⟨rfl, hd_X10_canAt⟩ ⟨Nat.le_of_ble_eq_true rfl, Nat.le_of_ble_eq_true rfl⟩ rfl (Nat.le_of_ble_eq_true rfl) dX10_pounds_87) (fun r_70 u_69 H locs hw hP hD hS => ?_)
              obtain ⟨zroom_71, zgivenTo_72, zcanBe_73, zsetPounds_74⟩ := u_69
              try dsimp only at hw hP hD
              obtain ⟨p_75, p_76, p_77⟩ := hw
              refine lv_if_eq (tgt := 96) hx hb dX10_pounds_90 (by decide) (fun c_78 => ?_) (fun c_78 => ?_)
              · have gc_78 : r_70.toInt = 0 := i_eq (rfl : r_70.toInt = r_70.toInt) (by decide : (0 : Int32).toInt = 0) c_78
                obtain ⟨n_79, en_79⟩ : ∃ y : Int32, y = l_62 + 1 := ⟨_, rfl⟩
                have tn_79 : n_79.toInt = l_62.toInt + 1 := i_add en_79 (rfl : l_62.toInt = l_62.toInt) (by decide : (1 : Int32).toInt = 1) (by omega) (by omega)
                refine lv_iinc (v := n_79) (lv' := [(6, .int n_79), (5, .int n_50), (4, .int r_41), (0, .ref (hm 0)), (1, .int x), (2, .int i), (3, .int all)]) hx hb dX10_pounds_96 hl (k := 0) rfl (by rw [en_79]; rfl) (by decide) rfl (fun ls hl => ?_)
                refine lv_goto (tgt := 63) hx hb dX10_pounds_99 (by decide) ?_
                exact ih63_63 zcanBe_73 zgivenTo_72 f_67 zroom_71 zsetPounds_74 n_79 p_77 rf_67 (by omega) (by omega) _ _ _ hP hD hS (lv_sub hl [0, 1, 2, 3, 4, 5, 6] rfl)
              · have gc_78 : r_70.toInt ≠ 0 := i_ne (rfl : r_70.toInt = r_70.toInt) (by decide : (0 : Int32).toInt = 0) c_78
                refine lv_iload hx hb dX10_pounds_93 (lv_at hl 0 rfl) ?_
                exact hrt l_62 zatW_14 zatL_15 zatT_16 zatH_17 zatM_18 zatI_19 zatQ_20 zpacking_31 zpacked_32 zworth_21 zisRefused_22 zleast_23 f_67 zpackOwner_34 zroom_71 zgivenTo_72 zcanBe_73 zsetPounds_74 ⟨(by omega), (by omega), p_25, rf_67, p_38, p_77⟩ hP hD hS rfl dX10_pounds_95
        have k_80 : (1 : Int32).toInt = 1 := by decide
        exact L63_63 8589934592 zcanBe_44 zgivenTo_43 zpackPounds_33 zroom_42 zsetPounds_45 1 p_48 p_37 (by omega) (by omega) _ _ _ hP hD hS (lv_sub hl [0, 1, 2, 3, 4, 5, 6] rfl)
      · have gc_49 : r_41.toInt = 60 := i_eq (rfl : r_41.toInt = r_41.toInt) (by decide : (60 : Int32).toInt = 60) c_49
        refine lv_bipush (v := (-2)) hx hb dX10_pounds_49 (by decide) ?_
        have k_81 : ((-2) : Int32).toInt = (-2) := by decide
        exact hrt (-2) zatW_14 zatL_15 zatT_16 zatH_17 zatM_18 zatI_19 zatQ_20 zpacking_31 zpacked_32 zworth_21 zisRefused_22 zleast_23 zpackPounds_33 zpackOwner_34 zroom_42 zgivenTo_43 zcanBe_44 zsetPounds_45 ⟨(by omega), (by omega), p_25, p_37, p_38, p_48⟩ hP hD hS rfl dX10_pounds_51
    · have gc_11 : r_8.toInt = 0 := i_eq (rfl : r_8.toInt = r_8.toInt) (by decide : (0 : Int32).toInt = 0) c_11
      refine lv_iconst (v := (-1)) hx hb dX10_pounds_17 (by decide) ?_
      have k_82 : ((-1) : Int32).toInt = (-1) := by decide
      exact hrt (-1) v_atW v_atL v_atT v_atH v_atM v_atI v_atQ v_packing v_packed f_m_worth f_m_isRefused f_m_least f_m_packPounds f_m_packOwner f_m_room f_m_givenTo f_m_canBe f_m_setPounds ⟨(by omega), (by omega), hr_m_isRefused, hr_m_packPounds, hr_m_packOwner, hr_m_canBe⟩ hP hD hS rfl dX10_pounds_18
set_option maxHeartbeats 16000000 in
set_option maxRecDepth 100000 in
theorem c_X10_emptyPace (l : Launch) (D : va_G) (cy : Nat → ClassId) (hm : Nat → Nat) (v_taped v_walkers v_loads v_pieces v_changeCosts v_planned v_isMarch v_clauseMany v_place v_end v_bad v_clauses v_codes v_open v_stacked v_isOver v_isBehind v_atW v_atL v_atT v_atH v_atM v_atI v_atQ v_packing v_packed v_goPace v_goMinutes v_spentAt v_ranChanges : Int32) (f_m_tape f_m_knee f_m_weight f_m_isLame f_m_loadWeight f_m_owner f_m_food f_m_miles f_m_slope f_m_clauseLetter f_m_sumFrom f_m_codeFrom f_m_codeTo f_m_code f_m_codeArg f_m_newLetter f_m_newSum f_m_newFrom f_m_newTo f_m_newCode f_m_newArg f_m_stack f_m_worth f_m_isRefused f_m_least f_m_packPounds f_m_packOwner f_m_room f_m_givenTo f_m_canBe f_m_setPounds f_m_plainTime f_m_muleTime f_m_planTo f_m_march f_m_tired f_m_ranMinutes f_m_tiredAhead f_m_isReached f_m_toEnd f_m_upTo f_m_upNext f_m_byChanges f_m_bandPaces : Nat → Int32) (sz : Nat) (who : Int32) (hb_v_walkers : 0 ≤ v_walkers.toInt ∧ v_walkers.toInt ≤ 6) : gMi l yX10_emptyPace cX10_emptyPace 4 .int 2 [.ref (hm 0), .int who] D cy (wMD cy hm v_taped v_walkers v_loads v_pieces v_changeCosts v_planned v_isMarch v_clauseMany v_place v_end v_bad v_clauses v_codes v_open v_stacked v_isOver v_isBehind v_atW v_atL v_atT v_atH v_atM v_atI v_atQ v_packing v_packed v_goPace v_goMinutes v_spentAt v_ranChanges f_m_tape f_m_knee f_m_weight f_m_isLame f_m_loadWeight f_m_owner f_m_food f_m_miles f_m_slope f_m_clauseLetter f_m_sumFrom f_m_codeFrom f_m_codeTo f_m_code f_m_codeArg f_m_newLetter f_m_newSum f_m_newFrom f_m_newTo f_m_newCode f_m_newArg f_m_stack f_m_worth f_m_isRefused f_m_least f_m_packPounds f_m_packOwner f_m_room f_m_givenTo f_m_canBe f_m_setPounds f_m_plainTime f_m_muleTime f_m_planTo f_m_march f_m_tired f_m_ranMinutes f_m_tiredAhead f_m_isReached f_m_toEnd f_m_upTo f_m_upNext f_m_byChanges f_m_bandPaces) NT sz (fun (r : Int32) (u : Unit) => True) (fun u => wMD cy hm v_taped v_walkers v_loads v_pieces v_changeCosts v_planned v_isMarch v_clauseMany v_place v_end v_bad v_clauses v_codes v_open v_stacked v_isOver v_isBehind v_atW v_atL v_atT v_atH v_atM v_atI v_atQ v_packing v_packed v_goPace v_goMinutes v_spentAt v_ranChanges f_m_tape f_m_knee f_m_weight f_m_isLame f_m_loadWeight f_m_owner f_m_food f_m_miles f_m_slope f_m_clauseLetter f_m_sumFrom f_m_codeFrom f_m_codeTo f_m_code f_m_codeArg f_m_newLetter f_m_newSum f_m_newFrom f_m_newTo f_m_newCode f_m_newArg f_m_stack f_m_worth f_m_isRefused f_m_least f_m_packPounds f_m_packOwner f_m_room f_m_givenTo f_m_canBe f_m_setPounds f_m_plainTime f_m_muleTime f_m_planTo f_m_march f_m_tired f_m_ranMinutes f_m_tiredAhead f_m_isReached f_m_toEnd f_m_upTo f_m_upNext f_m_byChanges f_m_bandPaces) := by
  refine gMi_in (by decide) (Nat.le_of_ble_eq_true rfl) ?_
  intro p e s m args below meth c A ls Q hx hb hml hts hown hsz hP hK hD hN hAe hA hS hl hret
  subst hsz
  have hl : lv_has ls 4 [(0, .ref (hm 0)), (1, .int who)] := hl
  have hrt := fun (r : Int32)   {H : Heap} {locs : List Loc} {pc : Nat} {ls : Array Slot} => hret r () (H := H) (locs := locs) (pc := pc) (ls := ls) trivial
  clear hret
  refine lv_bipush (v := 60) hx hb dX10_emptyPace_0 (by decide) ?_
  refine lv_istore_n (lv' := [(2, .int 60), (0, .ref (hm 0)), (1, .int who)]) hx hb dX10_emptyPace_2 rfl hl (by decide) rfl (fun ls hl => ?_)
  refine lv_iconst (v := 0) hx hb dX10_emptyPace_3 (by decide) ?_
  refine lv_istore_n (lv' := [(3, .int 0), (2, .int 60), (0, .ref (hm 0)), (1, .int who)]) hx hb dX10_emptyPace_4 rfl hl (by decide) rfl (fun ls hl => ?_)
  have L5_5 : ∀ (n : Nat) (l_3 : Int32) (l_4 : Int32), (0 ≤ l_4.toInt ∧ l_4.toInt ≤ 6) → 7 - l_4.toInt < n → ∀ (H : Heap) (locs : List Loc) (ls : Array Slot), va_P D vwCl (wMD cy hm v_taped v_walkers v_loads v_pieces v_changeCosts v_planned v_isMarch v_clauseMany v_place v_end v_bad v_clauses v_codes v_open v_stacked v_isOver v_isBehind v_atW v_atL v_atT v_atH v_atM v_atI v_atQ v_packing v_packed v_goPace v_goMinutes v_spentAt v_ranChanges f_m_tape f_m_knee f_m_weight f_m_isLame f_m_loadWeight f_m_owner f_m_food f_m_miles f_m_slope f_m_clauseLetter f_m_sumFrom f_m_codeFrom f_m_codeTo f_m_code f_m_codeArg f_m_newLetter f_m_newSum f_m_newFrom f_m_newTo f_m_newCode f_m_newArg f_m_stack f_m_worth f_m_isRefused f_m_least f_m_packPounds f_m_packOwner f_m_room f_m_givenTo f_m_canBe f_m_setPounds f_m_plainTime f_m_muleTime f_m_planTo f_m_march f_m_tired f_m_ranMinutes f_m_tiredAhead f_m_isReached f_m_toEnd f_m_upTo f_m_upNext f_m_byChanges f_m_bandPaces) H → va_D A (wMD cy hm v_taped v_walkers v_loads v_pieces v_changeCosts v_planned v_isMarch v_clauseMany v_place v_end v_bad v_clauses v_codes v_open v_stacked v_isOver v_isBehind v_atW v_atL v_atT v_atH v_atM v_atI v_atQ v_packing v_packed v_goPace v_goMinutes v_spentAt v_ranChanges f_m_tape f_m_knee f_m_weight f_m_isLame f_m_loadWeight f_m_owner f_m_food f_m_miles f_m_slope f_m_clauseLetter f_m_sumFrom f_m_codeFrom f_m_codeTo f_m_code f_m_codeArg f_m_newLetter f_m_newSum f_m_newFrom f_m_newTo f_m_newCode f_m_newArg f_m_stack f_m_worth f_m_isRefused f_m_least f_m_packPounds f_m_packOwner f_m_room f_m_givenTo f_m_canBe f_m_setPounds f_m_plainTime f_m_muleTime f_m_planTo f_m_march f_m_tired f_m_ranMinutes f_m_tiredAhead f_m_isReached f_m_toEnd f_m_upTo f_m_upNext f_m_byChanges f_m_bandPaces) → va_S A s.heap H locs → lv_has ls 4 [(3, .int l_4), (2, .int l_3), (0, .ref (hm 0)), (1, .int who)] → W p l e (gRm 2) s m args below meth c H locs 0 0 Q (F0 m 5 ls []) := by
    intro n
    induction n with
    | zero => intro l_3 l_4 hL5_5_0 hm; exact absurd hm (by omega)
    | succ n ih5_5 =>
      intro l_3 l_4 hL5_5_0 hmL5_5 H locs ls hP hD hS hl
      refine lv_iload_n hx hb dX10_emptyPace_5 rfl (lv_at hl 0 rfl) ?_
      refine lv_aload_n hx hb dX10_emptyPace_6 rfl (lv_at hl 2 rfl) ?_
      refine gt_MD_MD_walkers hx hb hts hown hK hP lwd_221 dX10_emptyPace_7 ?_
      refine lv_icmp_ge (tgt := 56) hx hb dX10_emptyPace_10 (by decide) (fun c_6 => ?_) (fun c_6 => ?_)
      · have gc_6 : v_walkers.toInt ≤ l_4.toInt := i_le (rfl : v_walkers.toInt = v_walkers.toInt) (rfl : l_4.toInt = l_4.toInt) c_6
        refine lv_iload_n hx hb dX10_emptyPace_56 rfl (lv_at hl 1 rfl) ?_
        exact hrt l_3   hP hD hS rfl dX10_emptyPace_57
      · have gc_6 : l_4.toInt < v_walkers.toInt := i_nle (rfl : v_walkers.toInt = v_walkers.toInt) (rfl : l_4.toInt = l_4.toInt) c_6
        refine lv_iload_n hx hb dX10_emptyPace_13 rfl (lv_at hl 3 rfl) ?_
        refine lv_iload_n hx hb dX10_emptyPace_14 rfl (lv_at hl 0 rfl) ?_
        refine xi hD hS hA (xS (As := [.int who, .int l_4]) (rest := []) hx hb hml hown hts hK hP hD hS hA NT_ok hN hAe hl.1 ⟨Nat.le_refl _, Nat.le_refl _⟩ (c_X10_has l D cy hm v_taped v_walkers v_loads v_pieces v_changeCosts v_planned v_isMarch v_clauseMany v_place v_end v_bad v_clauses v_codes v_open v_stacked v_isOver v_isBehind v_atW v_atL v_atT v_atH v_atM v_atI v_atQ v_packing v_packed v_goPace v_goMinutes v_spentAt v_ranChanges f_m_tape f_m_knee f_m_weight f_m_isLame f_m_loadWeight f_m_owner f_m_food f_m_miles f_m_slope f_m_clauseLetter f_m_sumFrom f_m_codeFrom f_m_codeTo f_m_code f_m_codeArg f_m_newLetter f_m_newSum f_m_newFrom f_m_newTo f_m_newCode f_m_newArg f_m_stack f_m_worth f_m_isRefused f_m_least f_m_packPounds f_m_packOwner f_m_room f_m_givenTo f_m_canBe f_m_setPounds f_m_plainTime f_m_muleTime f_m_planTo f_m_march f_m_tired f_m_ranMinutes f_m_tiredAhead f_m_isReached f_m_toEnd f_m_upTo f_m_upNext f_m_byChanges f_m_bandPaces H.size who l_4) (gi_S lwd_750 lwd_751 lwd_5 lwd_752) hd_X10_has ⟨Nat.le_of_ble_eq_true rfl, Nat.le_of_ble_eq_true rfl⟩ rfl (Nat.le_of_ble_eq_true rfl) dX10_emptyPace_15) (fun r_8 u_7 H locs hw hP hD hS => ?_)
        try dsimp only at hw hP hD
        obtain ⟨p_9, p_10⟩ := hw
        refine lv_if_eq (tgt := 48) hx hb dX10_emptyPace_18 (by decide) (fun c_11 => ?_) (fun c_11 => ?_)
        · have gc_11 : r_8.toInt = 0 := i_eq (rfl : r_8.toInt = r_8.toInt) (by decide : (0 : Int32).toInt = 0) c_11
          refine lv_iload_n hx hb dX10_emptyPace_48 rfl (lv_at hl 1 rfl) ?_
          refine lv_istore_n (lv' := [(2, .int l_3), (3, .int l_4), (0, .ref (hm 0)), (1, .int who)]) hx hb dX10_emptyPace_49 rfl hl (by decide) rfl (fun ls hl => ?_)
          obtain ⟨n_12, en_12⟩ : ∃ y : Int32, y = l_4 + 1 := ⟨_, rfl⟩
          have tn_12 : n_12.toInt = l_4.toInt + 1 := i_add en_12 (rfl : l_4.toInt = l_4.toInt) (by decide : (1 : Int32).toInt = 1) (by omega) (by omega)
          refine lv_iinc (v := n_12) (lv' := [(3, .int n_12), (2, .int l_3), (0, .ref (hm 0)), (1, .int who)]) hx hb dX10_emptyPace_50 hl (k := 1) rfl (by rw [en_12]; rfl) (by decide) rfl (fun ls hl => ?_)
          refine lv_goto (tgt := 5) hx hb dX10_emptyPace_53 (by decide) ?_
          exact ih5_5 l_3 n_12 (by omega) (by omega) _ _ _ hP hD hS (lv_sub hl [0, 1, 2, 3] rfl)
        · have gc_11 : r_8.toInt ≠ 0 := i_ne (rfl : r_8.toInt = r_8.toInt) (by decide : (0 : Int32).toInt = 0) c_11
          refine lv_aload_n hx hb dX10_emptyPace_21 rfl (lv_at hl 2 rfl) ?_
          refine gt_MD_MD_least hx hb hts hown hK hP lwd_180 dX10_emptyPace_22 ?_
          refine lv_sipush (v := 401) hx hb dX10_emptyPace_25 (by decide) ?_
          refine lv_iload_n hx hb dX10_emptyPace_28 rfl (lv_at hl 0 rfl) ?_
          refine lv_imul hx hb dX10_emptyPace_29 ?_
          refine lv_topi (fun n_13 en_13 => ?_)
          have tn_13 : n_13.toInt = 401 * l_4.toInt := i_mul en_13 (by decide : (401 : Int32).toInt = 401) (rfl : l_4.toInt = l_4.toInt) (by omega) (by omega)
          refine al_m_least hx hb hK hP (i_in tn_13 (by omega) (by omega)) dX10_emptyPace_30 (fun n_14 en_14 => ?_)
          refine lv_iload_n hx hb dX10_emptyPace_31 rfl (lv_at hl 1 rfl) ?_
          refine lv_icmp_ge (tgt := 48) hx hb dX10_emptyPace_32 (by decide) (fun c_15 => ?_) (fun c_15 => ?_)
          · have gc_15 : l_3.toInt ≤ n_14.toInt := i_le (rfl : l_3.toInt = l_3.toInt) (rfl : n_14.toInt = n_14.toInt) c_15
            refine lv_iload_n hx hb dX10_emptyPace_48 rfl (lv_at hl 1 rfl) ?_
            refine lv_istore_n (lv' := [(2, .int l_3), (3, .int l_4), (0, .ref (hm 0)), (1, .int who)]) hx hb dX10_emptyPace_49 rfl hl (by decide) rfl (fun ls hl => ?_)
            obtain ⟨n_16, en_16⟩ : ∃ y : Int32, y = l_4 + 1 := ⟨_, rfl⟩
            have tn_16 : n_16.toInt = l_4.toInt + 1 := i_add en_16 (rfl : l_4.toInt = l_4.toInt) (by decide : (1 : Int32).toInt = 1) (by omega) (by omega)
            refine lv_iinc (v := n_16) (lv' := [(3, .int n_16), (2, .int l_3), (0, .ref (hm 0)), (1, .int who)]) hx hb dX10_emptyPace_50 hl (k := 1) rfl (by rw [en_16]; rfl) (by decide) rfl (fun ls hl => ?_)
            refine lv_goto (tgt := 5) hx hb dX10_emptyPace_53 (by decide) ?_
            exact ih5_5 l_3 n_16 (by omega) (by omega) _ _ _ hP hD hS (lv_sub hl [0, 1, 2, 3] rfl)
          · have gc_15 : n_14.toInt < l_3.toInt := i_nle (rfl : l_3.toInt = l_3.toInt) (rfl : n_14.toInt = n_14.toInt) c_15
            refine lv_aload_n hx hb dX10_emptyPace_35 rfl (lv_at hl 2 rfl) ?_
            refine gt_MD_MD_least hx hb hts hown hK hP lwd_180 dX10_emptyPace_36 ?_
            refine lv_sipush (v := 401) hx hb dX10_emptyPace_39 (by decide) ?_
            refine lv_iload_n hx hb dX10_emptyPace_42 rfl (lv_at hl 0 rfl) ?_
            refine lv_imul hx hb dX10_emptyPace_43 ?_
            refine lv_topi (fun n_17 en_17 => ?_)
            have tn_17 : n_17.toInt = 401 * l_4.toInt := i_mul en_17 (by decide : (401 : Int32).toInt = 401) (rfl : l_4.toInt = l_4.toInt) (by omega) (by omega)
            refine al_m_least hx hb hK hP (i_in tn_17 (by omega) (by omega)) dX10_emptyPace_44 (fun n_18 en_18 => ?_)
            refine lv_goto (tgt := 49) hx hb dX10_emptyPace_45 (by decide) ?_
            refine lv_istore_n (lv' := [(2, .int n_18), (3, .int l_4), (0, .ref (hm 0)), (1, .int who)]) hx hb dX10_emptyPace_49 rfl hl (by decide) rfl (fun ls hl => ?_)
            obtain ⟨n_19, en_19⟩ : ∃ y : Int32, y = l_4 + 1 := ⟨_, rfl⟩
            have tn_19 : n_19.toInt = l_4.toInt + 1 := i_add en_19 (rfl : l_4.toInt = l_4.toInt) (by decide : (1 : Int32).toInt = 1) (by omega) (by omega)
            refine lv_iinc (v := n_19) (lv' := [(3, .int n_19), (2, .int n_18), (0, .ref (hm 0)), (1, .int who)]) hx hb dX10_emptyPace_50 hl (k := 1) rfl (by rw [en_19]; rfl) (by decide) rfl (fun ls hl => ?_)
            refine lv_goto (tgt := 5) hx hb dX10_emptyPace_53 (by decide) ?_
            exact ih5_5 n_18 n_19 (by omega) (by omega) _ _ _ hP hD hS (lv_sub hl [0, 1, 2, 3] rfl)
  have k_20 : (60 : Int32).toInt = 60 := by decide
  have k_21 : (0 : Int32).toInt = 0 := by decide
  exact L5_5 8589934592 60 0 (by omega) (by omega) _ _ _ hP hD hS (lv_sub hl [0, 1, 2, 3] rfl)
set_option maxHeartbeats 16000000 in
set_option maxRecDepth 100000 in
theorem c_X10_ahead (l : Launch) (D : va_G) (cy : Nat → ClassId) (hm : Nat → Nat) (v_taped v_walkers v_loads v_pieces v_changeCosts v_planned v_isMarch v_clauseMany v_place v_end v_bad v_clauses v_codes v_open v_stacked v_isOver v_isBehind v_atW v_atL v_atT v_atH v_atM v_atI v_atQ v_packing v_packed v_goPace v_goMinutes v_spentAt v_ranChanges : Int32) (f_m_tape f_m_knee f_m_weight f_m_isLame f_m_loadWeight f_m_owner f_m_food f_m_miles f_m_slope f_m_clauseLetter f_m_sumFrom f_m_codeFrom f_m_codeTo f_m_code f_m_codeArg f_m_newLetter f_m_newSum f_m_newFrom f_m_newTo f_m_newCode f_m_newArg f_m_stack f_m_worth f_m_isRefused f_m_least f_m_packPounds f_m_packOwner f_m_room f_m_givenTo f_m_canBe f_m_setPounds f_m_plainTime f_m_muleTime f_m_planTo f_m_march f_m_tired f_m_ranMinutes f_m_tiredAhead f_m_isReached f_m_toEnd f_m_upTo f_m_upNext f_m_byChanges f_m_bandPaces : Nat → Int32) (sz : Nat) (i : Int32) (all : Int32) (ck : Int32) (what : Int32) (hb_v_walkers : 0 ≤ v_walkers.toInt ∧ v_walkers.toInt ≤ 6) (hb_v_loads : 0 ≤ v_loads.toInt ∧ v_loads.toInt ≤ 9) (hb_v_pieces : 0 ≤ v_pieces.toInt ∧ v_pieces.toInt ≤ 10) (hb_v_clauseMany : 0 ≤ v_clauseMany.toInt ∧ v_clauseMany.toInt ≤ 14) (hb_v_atW : 0 ≤ v_atW.toInt ∧ v_atW.toInt ≤ 5) (hb_v_packed : 0 ≤ v_packed.toInt ∧ v_packed.toInt ≤ 10) (hr_m_weight : rg (0) 250 f_m_weight) (hr_m_isLame : rg (0) 1 f_m_isLame) (hr_m_loadWeight : rg (0) 120 f_m_loadWeight) (hr_m_owner : rg (-1) 5 f_m_owner) (hr_m_food : rg (0) 20 f_m_food) (hr_m_miles : rg (0) 20 f_m_miles) (hr_m_isRefused : rg (0) 1 f_m_isRefused) (hr_m_packPounds : rg (0) 250 f_m_packPounds) (hr_m_packOwner : rg (-1) 5 f_m_packOwner) (hr_m_canBe : rg (0) 1 f_m_canBe) (hwf : wfC v_clauseMany f_m_sumFrom f_m_codeFrom f_m_codeTo f_m_code) : gMi l yX10_ahead cX10_ahead 16 .int 8 [.ref (hm 0), .int i, .int all, .int ck, .int what] D cy (wMD cy hm v_taped v_walkers v_loads v_pieces v_changeCosts v_planned v_isMarch v_clauseMany v_place v_end v_bad v_clauses v_codes v_open v_stacked v_isOver v_isBehind v_atW v_atL v_atT v_atH v_atM v_atI v_atQ v_packing v_packed v_goPace v_goMinutes v_spentAt v_ranChanges f_m_tape f_m_knee f_m_weight f_m_isLame f_m_loadWeight f_m_owner f_m_food f_m_miles f_m_slope f_m_clauseLetter f_m_sumFrom f_m_codeFrom f_m_codeTo f_m_code f_m_codeArg f_m_newLetter f_m_newSum f_m_newFrom f_m_newTo f_m_newCode f_m_newArg f_m_stack f_m_worth f_m_isRefused f_m_least f_m_packPounds f_m_packOwner f_m_room f_m_givenTo f_m_canBe f_m_setPounds f_m_plainTime f_m_muleTime f_m_planTo f_m_march f_m_tired f_m_ranMinutes f_m_tiredAhead f_m_isReached f_m_toEnd f_m_upTo f_m_upNext f_m_byChanges f_m_bandPaces) NT sz (fun (r : Int32) (u : Int32 × Int32 × Int32 × Int32 × Int32 × Int32 × Int32 × Int32 × Int32 × (Nat → Int32) × (Nat → Int32) × (Nat → Int32) × (Nat → Int32) × (Nat → Int32) × (Nat → Int32) × (Nat → Int32) × (Nat → Int32) × (Nat → Int32)) => (0 ≤ (u.1).toInt ∧ (u.1).toInt ≤ 5) ∧ (0 ≤ (u.2.2.2.2.2.2.2.2.1).toInt ∧ (u.2.2.2.2.2.2.2.2.1).toInt ≤ 10) ∧ (rg (0) 1 (u.2.2.2.2.2.2.2.2.2.2.1)) ∧ (rg (0) 250 (u.2.2.2.2.2.2.2.2.2.2.2.2.1)) ∧ (rg (-1) 5 (u.2.2.2.2.2.2.2.2.2.2.2.2.2.1)) ∧ (rg (0) 1 (u.2.2.2.2.2.2.2.2.2.2.2.2.2.2.2.2.1))) (fun u => wMD cy hm v_taped v_walkers v_loads v_pieces v_changeCosts v_planned v_isMarch v_clauseMany v_place v_end v_bad v_clauses v_codes v_open v_stacked v_isOver v_isBehind (u.1) (u.2.1) (u.2.2.1) (u.2.2.2.1) (u.2.2.2.2.1) (u.2.2.2.2.2.1) (u.2.2.2.2.2.2.1) (u.2.2.2.2.2.2.2.1) (u.2.2.2.2.2.2.2.2.1) v_goPace v_goMinutes v_spentAt v_ranChanges f_m_tape f_m_knee f_m_weight f_m_isLame f_m_loadWeight f_m_owner f_m_food f_m_miles f_m_slope f_m_clauseLetter f_m_sumFrom f_m_codeFrom f_m_codeTo f_m_code f_m_codeArg f_m_newLetter f_m_newSum f_m_newFrom f_m_newTo f_m_newCode f_m_newArg f_m_stack (u.2.2.2.2.2.2.2.2.2.1) (u.2.2.2.2.2.2.2.2.2.2.1) (u.2.2.2.2.2.2.2.2.2.2.2.1) (u.2.2.2.2.2.2.2.2.2.2.2.2.1) (u.2.2.2.2.2.2.2.2.2.2.2.2.2.1) (u.2.2.2.2.2.2.2.2.2.2.2.2.2.2.1) (u.2.2.2.2.2.2.2.2.2.2.2.2.2.2.2.1) (u.2.2.2.2.2.2.2.2.2.2.2.2.2.2.2.2.1) (u.2.2.2.2.2.2.2.2.2.2.2.2.2.2.2.2.2) f_m_plainTime f_m_muleTime f_m_planTo f_m_march f_m_tired f_m_ranMinutes f_m_tiredAhead f_m_isReached f_m_toEnd f_m_upTo f_m_upNext f_m_byChanges f_m_bandPaces) := by
  refine gMi_in (by decide) (Nat.le_of_ble_eq_true rfl) ?_
  intro p e s m args below meth c A ls Q hx hb hml hts hown hsz hP hK hD hN hAe hA hS hl hret
  subst hsz
  have hl : lv_has ls 16 [(0, .ref (hm 0)), (1, .int i), (2, .int all), (3, .int ck), (4, .int what)] := hl
  have hrt := fun (r : Int32) (v_atW' : Int32) (v_atL' : Int32) (v_atT' : Int32) (v_atH' : Int32) (v_atM' : Int32) (v_atI' : Int32) (v_atQ' : Int32) (v_packing' : Int32) (v_packed' : Int32) (f_m_worth' : Nat → Int32) (f_m_isRefused' : Nat → Int32) (f_m_least' : Nat → Int32) (f_m_packPounds' : Nat → Int32) (f_m_packOwner' : Nat → Int32) (f_m_room' : Nat → Int32) (f_m_givenTo' : Nat → Int32) (f_m_canBe' : Nat → Int32) (f_m_setPounds' : Nat → Int32) (hp : (0 ≤ v_atW'.toInt ∧ v_atW'.toInt ≤ 5) ∧ (0 ≤ v_packed'.toInt ∧ v_packed'.toInt ≤ 10) ∧ (rg (0) 1 f_m_isRefused') ∧ (rg (0) 250 f_m_packPounds') ∧ (rg (-1) 5 f_m_packOwner') ∧ (rg (0) 1 f_m_canBe')) {H : Heap} {locs : List Loc} {pc : Nat} {ls : Array Slot} => hret r (v_atW', v_atL', v_atT', v_atH', v_atM', v_atI', v_atQ', v_packing', v_packed', f_m_worth', f_m_isRefused', f_m_least', f_m_packPounds', f_m_packOwner', f_m_room', f_m_givenTo', f_m_canBe', f_m_setPounds') (H := H) (locs := locs) (pc := pc) (ls := ls) hp
  clear hret
  refine lv_aload_n hx hb dX10_ahead_0 rfl (lv_at hl 0 rfl) ?_
  refine lv_iload_n hx hb dX10_ahead_1 rfl (lv_at hl 1 rfl) ?_
  refine lv_iload_n hx hb dX10_ahead_2 rfl (lv_at hl 2 rfl) ?_
  refine xi hD hS hA (xV (As := [.int i, .int all]) (rest := []) hx hb hml hown hts hK hP hD hS hA NT_ok hN hAe hl.1 ⟨Nat.le_refl _, Nat.le_refl _⟩ 0 rfl rfl rfl (c_X10_canAsk l D cy hm v_taped v_walkers v_loads v_pieces v_changeCosts v_planned v_isMarch v_clauseMany v_place v_end v_bad v_clauses v_codes v_open v_stacked v_isOver v_isBehind v_atW v_atL v_atT v_atH v_atM v_atI v_atQ v_packing v_packed v_goPace v_goMinutes v_spentAt v_ranChanges f_m_tape f_m_knee f_m_weight f_m_isLame f_m_loadWeight f_m_owner f_m_food f_m_miles f_m_slope f_m_clauseLetter f_m_sumFrom f_m_codeFrom f_m_codeTo f_m_code f_m_codeArg f_m_newLetter f_m_newSum f_m_newFrom f_m_newTo f_m_newCode f_m_newArg f_m_stack f_m_worth f_m_isRefused f_m_least f_m_packPounds f_m_packOwner f_m_room f_m_givenTo f_m_canBe f_m_setPounds f_m_plainTime f_m_muleTime f_m_planTo f_m_march f_m_tired f_m_ranMinutes f_m_tiredAhead f_m_isReached f_m_toEnd f_m_upTo f_m_upNext f_m_byChanges f_m_bandPaces s.heap.size i all (by omega) (by omega)) (gi_V lwd_645 lwd_646 lwd_647 lwd_5 lwd_648) ⟨rfl, hd_X10_canAsk⟩ ⟨Nat.le_of_ble_eq_true rfl, Nat.le_of_ble_eq_true rfl⟩ rfl (Nat.le_of_ble_eq_true rfl) dX10_ahead_3) (fun r_2 u_1 H locs hw hP hD hS => ?_)
  try dsimp only at hw hP hD
  obtain ⟨p_3, p_4⟩ := hw
  refine lv_if_eq (tgt := 42) hx hb dX10_ahead_6 (by decide) (fun c_5 => ?_) (fun c_5 => ?_)
  · have gc_5 : r_2.toInt = 0 := i_eq (rfl : r_2.toInt = r_2.toInt) (by decide : (0 : Int32).toInt = 0) c_5
    refine lv_iconst (v := (-1)) hx hb dX10_ahead_42 (by decide) ?_
    have k_6 : ((-1) : Int32).toInt = (-1) := by decide
    exact hrt (-1) v_atW v_atL v_atT v_atH v_atM v_atI v_atQ v_packing v_packed f_m_worth f_m_isRefused f_m_least f_m_packPounds f_m_packOwner f_m_room f_m_givenTo f_m_canBe f_m_setPounds ⟨(by omega), (by omega), hr_m_isRefused, hr_m_packPounds, hr_m_packOwner, hr_m_canBe⟩ hP hD hS rfl dX10_ahead_43
  · have gc_5 : r_2.toInt ≠ 0 := i_ne (rfl : r_2.toInt = r_2.toInt) (by decide : (0 : Int32).toInt = 0) c_5
    refine lv_aload_n hx hb dX10_ahead_9 rfl (lv_at hl 0 rfl) ?_
    refine gt_MD_MD_walkers hx hb hts hown hK hP lwd_221 dX10_ahead_10 ?_
    refine lv_iconst (v := 3) hx hb dX10_ahead_13 (by decide) ?_
    refine lv_icmp_lt (tgt := 42) hx hb dX10_ahead_14 (by decide) (fun c_7 => ?_) (fun c_7 => ?_)
    · have gc_7 : v_walkers.toInt < 3 := i_lt (rfl : v_walkers.toInt = v_walkers.toInt) (by decide : (3 : Int32).toInt = 3) c_7
      refine lv_iconst (v := (-1)) hx hb dX10_ahead_42 (by decide) ?_
      have k_8 : ((-1) : Int32).toInt = (-1) := by decide
      exact hrt (-1) v_atW v_atL v_atT v_atH v_atM v_atI v_atQ v_packing v_packed f_m_worth f_m_isRefused f_m_least f_m_packPounds f_m_packOwner f_m_room f_m_givenTo f_m_canBe f_m_setPounds ⟨(by omega), (by omega), hr_m_isRefused, hr_m_packPounds, hr_m_packOwner, hr_m_canBe⟩ hP hD hS rfl dX10_ahead_43
    · have gc_7 : 3 ≤ v_walkers.toInt := i_nlt (rfl : v_walkers.toInt = v_walkers.toInt) (by decide : (3 : Int32).toInt = 3) c_7
      refine lv_iload_n hx hb dX10_ahead_17 rfl (lv_at hl 3 rfl) ?_
      refine lv_i2l (v := ck.toInt64) hx hb dX10_ahead_18 rfl ?_
      have hl_9 : ck.toInt64.toInt = ck.toInt := i_l (rfl : ck.toInt = ck.toInt)
      refine lv_lconst (v := 0) hx hb dX10_ahead_19 (by decide) ?_
      refine lv_ldc2 hx hb hown (hts _ lwd_826) dX10_ahead_20 ?_
      have k_10 : (0 : Int64).toInt = 0 := by decide
      have k_11 : (600 : Int64).toInt = 600 := by decide
      refine xi hD hS hA (xS (As := [.long ck.toInt64, .long 0, .long 600]) (rest := []) hx hb hml hown hts hK hP hD hS hA NT_ok hN hAe hl.1 ⟨Nat.le_refl _, Nat.le_refl _⟩ (c_X10_lies l D cy hm v_taped v_walkers v_loads v_pieces v_changeCosts v_planned v_isMarch v_clauseMany v_place v_end v_bad v_clauses v_codes v_open v_stacked v_isOver v_isBehind v_atW v_atL v_atT v_atH v_atM v_atI v_atQ v_packing v_packed v_goPace v_goMinutes v_spentAt v_ranChanges f_m_tape f_m_knee f_m_weight f_m_isLame f_m_loadWeight f_m_owner f_m_food f_m_miles f_m_slope f_m_clauseLetter f_m_sumFrom f_m_codeFrom f_m_codeTo f_m_code f_m_codeArg f_m_newLetter f_m_newSum f_m_newFrom f_m_newTo f_m_newCode f_m_newArg f_m_stack f_m_worth f_m_isRefused f_m_least f_m_packPounds f_m_packOwner f_m_room f_m_givenTo f_m_canBe f_m_setPounds f_m_plainTime f_m_muleTime f_m_planTo f_m_march f_m_tired f_m_ranMinutes f_m_tiredAhead f_m_isReached f_m_toEnd f_m_upTo f_m_upNext f_m_byChanges f_m_bandPaces H.size ck.toInt64 0 600) (gi_S lwd_226 lwd_227 lwd_5 lwd_228) hd_X10_lies ⟨Nat.le_of_ble_eq_true rfl, Nat.le_of_ble_eq_true rfl⟩ rfl (Nat.le_of_ble_eq_true rfl) dX10_ahead_23) (fun r_13 u_12 H locs hw hP hD hS => ?_)
      try dsimp only at hw hP hD
      obtain ⟨p_14, p_15⟩ := hw
      refine lv_if_eq (tgt := 42) hx hb dX10_ahead_26 (by decide) (fun c_16 => ?_) (fun c_16 => ?_)
      · have gc_16 : r_13.toInt = 0 := i_eq (rfl : r_13.toInt = r_13.toInt) (by decide : (0 : Int32).toInt = 0) c_16
        refine lv_iconst (v := (-1)) hx hb dX10_ahead_42 (by decide) ?_
        have k_17 : ((-1) : Int32).toInt = (-1) := by decide
        exact hrt (-1) v_atW v_atL v_atT v_atH v_atM v_atI v_atQ v_packing v_packed f_m_worth f_m_isRefused f_m_least f_m_packPounds f_m_packOwner f_m_room f_m_givenTo f_m_canBe f_m_setPounds ⟨(by omega), (by omega), hr_m_isRefused, hr_m_packPounds, hr_m_packOwner, hr_m_canBe⟩ hP hD hS rfl dX10_ahead_43
      · have gc_16 : r_13.toInt ≠ 0 := i_ne (rfl : r_13.toInt = r_13.toInt) (by decide : (0 : Int32).toInt = 0) c_16
        refine lv_iload hx hb dX10_ahead_29 (lv_at hl 4 rfl) ?_
        refine lv_i2l (v := what.toInt64) hx hb dX10_ahead_31 rfl ?_
        have hl_18 : what.toInt64.toInt = what.toInt := i_l (rfl : what.toInt = what.toInt)
        refine lv_lconst (v := 0) hx hb dX10_ahead_32 (by decide) ?_
        refine lv_ldc2 hx hb hown (hts _ lwd_644) dX10_ahead_33 ?_
        have k_19 : (2 : Int64).toInt = 2 := by decide
        refine xi hD hS hA (xS (As := [.long what.toInt64, .long 0, .long 2]) (rest := []) hx hb hml hown hts hK hP hD hS hA NT_ok hN hAe hl.1 ⟨Nat.le_refl _, Nat.le_refl _⟩ (c_X10_lies l D cy hm v_taped v_walkers v_loads v_pieces v_changeCosts v_planned v_isMarch v_clauseMany v_place v_end v_bad v_clauses v_codes v_open v_stacked v_isOver v_isBehind v_atW v_atL v_atT v_atH v_atM v_atI v_atQ v_packing v_packed v_goPace v_goMinutes v_spentAt v_ranChanges f_m_tape f_m_knee f_m_weight f_m_isLame f_m_loadWeight f_m_owner f_m_food f_m_miles f_m_slope f_m_clauseLetter f_m_sumFrom f_m_codeFrom f_m_codeTo f_m_code f_m_codeArg f_m_newLetter f_m_newSum f_m_newFrom f_m_newTo f_m_newCode f_m_newArg f_m_stack f_m_worth f_m_isRefused f_m_least f_m_packPounds f_m_packOwner f_m_room f_m_givenTo f_m_canBe f_m_setPounds f_m_plainTime f_m_muleTime f_m_planTo f_m_march f_m_tired f_m_ranMinutes f_m_tiredAhead f_m_isReached f_m_toEnd f_m_upTo f_m_upNext f_m_byChanges f_m_bandPaces H.size what.toInt64 0 2) (gi_S lwd_226 lwd_227 lwd_5 lwd_228) hd_X10_lies ⟨Nat.le_of_ble_eq_true rfl, Nat.le_of_ble_eq_true rfl⟩ rfl (Nat.le_of_ble_eq_true rfl) dX10_ahead_36) (fun r_21 u_20 H locs hw hP hD hS => ?_)
        try dsimp only at hw hP hD
        obtain ⟨p_22, p_23⟩ := hw
        refine lv_if_ne (tgt := 44) hx hb dX10_ahead_39 (by decide) (fun c_24 => ?_) (fun c_24 => ?_)
        · have gc_24 : r_21.toInt ≠ 0 := i_ne (rfl : r_21.toInt = r_21.toInt) (by decide : (0 : Int32).toInt = 0) c_24
          refine lv_aload_n hx hb dX10_ahead_44 rfl (lv_at hl 0 rfl) ?_
          refine lv_iload_n hx hb dX10_ahead_45 rfl (lv_at hl 1 rfl) ?_
          refine lv_iload_n hx hb dX10_ahead_46 rfl (lv_at hl 2 rfl) ?_
          refine xv hD hS hA (xV (As := [.int i, .int all]) (rest := []) hx hb hml hown hts hK hP hD hS hA NT_ok hN hAe hl.1 ⟨Nat.le_refl _, Nat.le_refl _⟩ 0 rfl rfl rfl (c_X10_lays l D cy hm v_taped v_walkers v_loads v_pieces v_changeCosts v_planned v_isMarch v_clauseMany v_place v_end v_bad v_clauses v_codes v_open v_stacked v_isOver v_isBehind v_atW v_atL v_atT v_atH v_atM v_atI v_atQ v_packing v_packed v_goPace v_goMinutes v_spentAt v_ranChanges f_m_tape f_m_knee f_m_weight f_m_isLame f_m_loadWeight f_m_owner f_m_food f_m_miles f_m_slope f_m_clauseLetter f_m_sumFrom f_m_codeFrom f_m_codeTo f_m_code f_m_codeArg f_m_newLetter f_m_newSum f_m_newFrom f_m_newTo f_m_newCode f_m_newArg f_m_stack f_m_worth f_m_isRefused f_m_least f_m_packPounds f_m_packOwner f_m_room f_m_givenTo f_m_canBe f_m_setPounds f_m_plainTime f_m_muleTime f_m_planTo f_m_march f_m_tired f_m_ranMinutes f_m_tiredAhead f_m_isReached f_m_toEnd f_m_upTo f_m_upNext f_m_byChanges f_m_bandPaces H.size i all (by omega) (by omega) (by omega) hr_m_weight hr_m_isLame hr_m_miles hr_m_isRefused (by omega) (by omega) hwf) (gi_V lwd_653 lwd_654 lwd_655 lwd_5 lwd_656) ⟨rfl, hd_X10_lays⟩ ⟨Nat.le_of_ble_eq_true rfl, Nat.le_of_ble_eq_true rfl⟩ rfl (Nat.le_of_ble_eq_true rfl) dX10_ahead_47) (fun u_25 H locs hw hP hD hS => ?_)
          obtain ⟨zatW_27, zatL_28, zatT_29, zatH_30, zatM_31, zatI_32, zatQ_33, zworth_34, zisRefused_35, zleast_36⟩ := u_25
          try dsimp only at hw hP hD
          obtain ⟨p_37, p_38⟩ := hw
          refine lv_ldcw hx hb hown (hts _ lwd_827) dX10_ahead_50 ?_
          refine lv_istore (lv' := [(5, .int 1000000000), (0, .ref (hm 0)), (1, .int i), (2, .int all), (3, .int ck), (4, .int what)]) hx hb dX10_ahead_53 hl (by decide) rfl (fun ls hl => ?_)
          refine lv_iconst (v := (-1)) hx hb dX10_ahead_55 (by decide) ?_
          refine lv_istore (lv' := [(6, .int (-1)), (5, .int 1000000000), (0, .ref (hm 0)), (1, .int i), (2, .int all), (3, .int ck), (4, .int what)]) hx hb dX10_ahead_56 hl (by decide) rfl (fun ls hl => ?_)
          refine lv_iconst (v := (-1)) hx hb dX10_ahead_58 (by decide) ?_
          refine lv_istore (lv' := [(7, .int (-1)), (6, .int (-1)), (5, .int 1000000000), (0, .ref (hm 0)), (1, .int i), (2, .int all), (3, .int ck), (4, .int what)]) hx hb dX10_ahead_59 hl (by decide) rfl (fun ls hl => ?_)
          refine lv_iconst (v := 0) hx hb dX10_ahead_61 (by decide) ?_
          refine lv_istore (lv' := [(8, .int 0), (7, .int (-1)), (6, .int (-1)), (5, .int 1000000000), (0, .ref (hm 0)), (1, .int i), (2, .int all), (3, .int ck), (4, .int what)]) hx hb dX10_ahead_62 hl (by decide) rfl (fun ls hl => ?_)
          have L64_63 : ∀ (n : Nat) (f_51 : Nat → Int32) (f_52 : Nat → Int32) (f_53 : Nat → Int32) (f_54 : Nat → Int32) (f_55 : Nat → Int32) (f_56 : Nat → Int32) (l_57 : Int32) (l_58 : Int32) (l_59 : Int32) (l_60 : Int32) (w_61 : Int32) (w_62 : Int32), (rg (0) 1 f_51) → (rg (-1) 5 f_53) → (rg (0) 250 f_54) → (0 ≤ l_60.toInt ∧ l_60.toInt ≤ 6) → (0 ≤ w_61.toInt ∧ w_61.toInt ≤ 10) → 7 - l_60.toInt < n → ∀ (H : Heap) (locs : List Loc) (ls : Array Slot), va_P D vwCl (wMD cy hm v_taped v_walkers v_loads v_pieces v_changeCosts v_planned v_isMarch v_clauseMany v_place v_end v_bad v_clauses v_codes v_open v_stacked v_isOver v_isBehind zatW_27 zatL_28 zatT_29 zatH_30 zatM_31 zatI_32 zatQ_33 w_62 w_61 v_goPace v_goMinutes v_spentAt v_ranChanges f_m_tape f_m_knee f_m_weight f_m_isLame f_m_loadWeight f_m_owner f_m_food f_m_miles f_m_slope f_m_clauseLetter f_m_sumFrom f_m_codeFrom f_m_codeTo f_m_code f_m_codeArg f_m_newLetter f_m_newSum f_m_newFrom f_m_newTo f_m_newCode f_m_newArg f_m_stack zworth_34 zisRefused_35 zleast_36 f_54 f_53 f_55 f_52 f_51 f_56 f_m_plainTime f_m_muleTime f_m_planTo f_m_march f_m_tired f_m_ranMinutes f_m_tiredAhead f_m_isReached f_m_toEnd f_m_upTo f_m_upNext f_m_byChanges f_m_bandPaces) H → va_D A (wMD cy hm v_taped v_walkers v_loads v_pieces v_changeCosts v_planned v_isMarch v_clauseMany v_place v_end v_bad v_clauses v_codes v_open v_stacked v_isOver v_isBehind zatW_27 zatL_28 zatT_29 zatH_30 zatM_31 zatI_32 zatQ_33 w_62 w_61 v_goPace v_goMinutes v_spentAt v_ranChanges f_m_tape f_m_knee f_m_weight f_m_isLame f_m_loadWeight f_m_owner f_m_food f_m_miles f_m_slope f_m_clauseLetter f_m_sumFrom f_m_codeFrom f_m_codeTo f_m_code f_m_codeArg f_m_newLetter f_m_newSum f_m_newFrom f_m_newTo f_m_newCode f_m_newArg f_m_stack zworth_34 zisRefused_35 zleast_36 f_54 f_53 f_55 f_52 f_51 f_56 f_m_plainTime f_m_muleTime f_m_planTo f_m_march f_m_tired f_m_ranMinutes f_m_tiredAhead f_m_isReached f_m_toEnd f_m_upTo f_m_upNext f_m_byChanges f_m_bandPaces) → va_S A s.heap H locs → lv_has ls 16 [(8, .int l_60), (7, .int l_59), (6, .int l_58), (5, .int l_57), (0, .ref (hm 0)), (1, .int i), (2, .int all), (3, .int ck), (4, .int what)] → W p l e (gRm 8) s m args below meth c H locs 0 0 Q (F0 m 64 ls []) := by
            intro n
            induction n with
            | zero => intro f_51 f_52 f_53 f_54 f_55 f_56 l_57 l_58 l_59 l_60 w_61 w_62 hL64_63_0 hL64_63_1 hL64_63_2 hL64_63_3 hL64_63_4 hm; exact absurd hm (by omega)
            | succ n ih64_63 =>
              intro f_51 f_52 f_53 f_54 f_55 f_56 l_57 l_58 l_59 l_60 w_61 w_62 hL64_63_0 hL64_63_1 hL64_63_2 hL64_63_3 hL64_63_4 hmL64_63 H locs ls hP hD hS hl
              refine lv_iload hx hb dX10_ahead_64 (lv_at hl 0 rfl) ?_
              refine lv_aload_n hx hb dX10_ahead_66 rfl (lv_at hl 4 rfl) ?_
              refine gt_MD_MD_walkers hx hb hts hown hK hP lwd_221 dX10_ahead_67 ?_
              refine lv_icmp_ge (tgt := 212) hx hb dX10_ahead_70 (by decide) (fun c_64 => ?_) (fun c_64 => ?_)
              · have gc_64 : v_walkers.toInt ≤ l_60.toInt := i_le (rfl : v_walkers.toInt = v_walkers.toInt) (rfl : l_60.toInt = l_60.toInt) c_64
                refine lv_iload hx hb dX10_ahead_212 (lv_at hl 3 rfl) ?_
                refine lv_ldcw hx hb hown (hts _ lwd_827) dX10_ahead_214 ?_
                refine lv_icmp_ne (tgt := 225) hx hb dX10_ahead_217 (by decide) (fun c_65 => ?_) (fun c_65 => ?_)
                · have gc_65 : l_57.toInt ≠ 1000000000 := i_ne (rfl : l_57.toInt = l_57.toInt) (by decide : (1000000000 : Int32).toInt = 1000000000) c_65
                  refine lv_iload hx hb dX10_ahead_225 (lv_at hl 8 rfl) ?_
                  refine lv_if_ne (tgt := 235) hx hb dX10_ahead_227 (by decide) (fun c_66 => ?_) (fun c_66 => ?_)
                  · have gc_66 : what.toInt ≠ 0 := i_ne (rfl : what.toInt = what.toInt) (by decide : (0 : Int32).toInt = 0) c_66
                    refine lv_iload hx hb dX10_ahead_235 (lv_at hl 8 rfl) ?_
                    refine lv_iconst (v := 1) hx hb dX10_ahead_237 (by decide) ?_
                    refine lv_icmp_ne (tgt := 246) hx hb dX10_ahead_238 (by decide) (fun c_67 => ?_) (fun c_67 => ?_)
                    · have gc_67 : what.toInt ≠ 1 := i_ne (rfl : what.toInt = what.toInt) (by decide : (1 : Int32).toInt = 1) c_67
                      refine lv_iload hx hb dX10_ahead_246 (lv_at hl 1 rfl) ?_
                      exact hrt l_59 zatW_27 zatL_28 zatT_29 zatH_30 zatM_31 zatI_32 zatQ_33 w_62 w_61 zworth_34 zisRefused_35 zleast_36 f_54 f_53 f_55 f_52 f_51 f_56 ⟨(by omega), (by omega), p_38, hL64_63_2, hL64_63_1, hL64_63_0⟩ hP hD hS rfl dX10_ahead_248
                    · have gc_67 : what.toInt = 1 := i_eq (rfl : what.toInt = what.toInt) (by decide : (1 : Int32).toInt = 1) c_67
                      refine lv_iload hx hb dX10_ahead_241 (lv_at hl 2 rfl) ?_
                      refine lv_goto (tgt := 248) hx hb dX10_ahead_243 (by decide) ?_
                      exact hrt l_58 zatW_27 zatL_28 zatT_29 zatH_30 zatM_31 zatI_32 zatQ_33 w_62 w_61 zworth_34 zisRefused_35 zleast_36 f_54 f_53 f_55 f_52 f_51 f_56 ⟨(by omega), (by omega), p_38, hL64_63_2, hL64_63_1, hL64_63_0⟩ hP hD hS rfl dX10_ahead_248
                  · have gc_66 : what.toInt = 0 := i_eq (rfl : what.toInt = what.toInt) (by decide : (0 : Int32).toInt = 0) c_66
                    refine lv_iload hx hb dX10_ahead_230 (lv_at hl 3 rfl) ?_
                    refine lv_goto (tgt := 248) hx hb dX10_ahead_232 (by decide) ?_
                    exact hrt l_57 zatW_27 zatL_28 zatT_29 zatH_30 zatM_31 zatI_32 zatQ_33 w_62 w_61 zworth_34 zisRefused_35 zleast_36 f_54 f_53 f_55 f_52 f_51 f_56 ⟨(by omega), (by omega), p_38, hL64_63_2, hL64_63_1, hL64_63_0⟩ hP hD hS rfl dX10_ahead_248
                · have gc_65 : l_57.toInt = 1000000000 := i_eq (rfl : l_57.toInt = l_57.toInt) (by decide : (1000000000 : Int32).toInt = 1000000000) c_65
                  refine lv_bipush (v := (-2)) hx hb dX10_ahead_220 (by decide) ?_
                  refine lv_goto (tgt := 248) hx hb dX10_ahead_222 (by decide) ?_
                  have k_68 : ((-2) : Int32).toInt = (-2) := by decide
                  exact hrt (-2) zatW_27 zatL_28 zatT_29 zatH_30 zatM_31 zatI_32 zatQ_33 w_62 w_61 zworth_34 zisRefused_35 zleast_36 f_54 f_53 f_55 f_52 f_51 f_56 ⟨(by omega), (by omega), p_38, hL64_63_2, hL64_63_1, hL64_63_0⟩ hP hD hS rfl dX10_ahead_248
              · have gc_64 : l_60.toInt < v_walkers.toInt := i_nle (rfl : v_walkers.toInt = v_walkers.toInt) (rfl : l_60.toInt = l_60.toInt) c_64
                refine lv_iload hx hb dX10_ahead_73 (lv_at hl 0 rfl) ?_
                refine lv_iconst (v := 1) hx hb dX10_ahead_75 (by decide) ?_
                refine lv_iadd hx hb dX10_ahead_76 ?_
                refine lv_topi (fun n_69 en_69 => ?_)
                have tn_69 : n_69.toInt = l_60.toInt + 1 := i_add en_69 (rfl : l_60.toInt = l_60.toInt) (by decide : (1 : Int32).toInt = 1) (by omega) (by omega)
                refine lv_istore (lv' := [(9, .int n_69), (8, .int l_60), (7, .int l_59), (6, .int l_58), (5, .int l_57), (0, .ref (hm 0)), (1, .int i), (2, .int all), (3, .int ck), (4, .int what)]) hx hb dX10_ahead_77 hl (by decide) rfl (fun ls hl => ?_)
                have L79_94 : ∀ (n : Nat) (f_82 : Nat → Int32) (f_83 : Nat → Int32) (f_84 : Nat → Int32) (f_85 : Nat → Int32) (f_86 : Nat → Int32) (f_87 : Nat → Int32) (l_88 : Int32) (l_89 : Int32) (l_90 : Int32) (l_91 : Int32) (w_92 : Int32) (w_93 : Int32), (rg (0) 1 f_82) → (rg (-1) 5 f_84) → (rg (0) 250 f_85) → (1 ≤ l_91.toInt ∧ l_91.toInt ≤ 6) → (0 ≤ w_92.toInt ∧ w_92.toInt ≤ 10) → 7 - l_91.toInt < n → ∀ (H : Heap) (locs : List Loc) (ls : Array Slot), va_P D vwCl (wMD cy hm v_taped v_walkers v_loads v_pieces v_changeCosts v_planned v_isMarch v_clauseMany v_place v_end v_bad v_clauses v_codes v_open v_stacked v_isOver v_isBehind zatW_27 zatL_28 zatT_29 zatH_30 zatM_31 zatI_32 zatQ_33 w_93 w_92 v_goPace v_goMinutes v_spentAt v_ranChanges f_m_tape f_m_knee f_m_weight f_m_isLame f_m_loadWeight f_m_owner f_m_food f_m_miles f_m_slope f_m_clauseLetter f_m_sumFrom f_m_codeFrom f_m_codeTo f_m_code f_m_codeArg f_m_newLetter f_m_newSum f_m_newFrom f_m_newTo f_m_newCode f_m_newArg f_m_stack zworth_34 zisRefused_35 zleast_36 f_85 f_84 f_86 f_83 f_82 f_87 f_m_plainTime f_m_muleTime f_m_planTo f_m_march f_m_tired f_m_ranMinutes f_m_tiredAhead f_m_isReached f_m_toEnd f_m_upTo f_m_upNext f_m_byChanges f_m_bandPaces) H → va_D A (wMD cy hm v_taped v_walkers v_loads v_pieces v_changeCosts v_planned v_isMarch v_clauseMany v_place v_end v_bad v_clauses v_codes v_open v_stacked v_isOver v_isBehind zatW_27 zatL_28 zatT_29 zatH_30 zatM_31 zatI_32 zatQ_33 w_93 w_92 v_goPace v_goMinutes v_spentAt v_ranChanges f_m_tape f_m_knee f_m_weight f_m_isLame f_m_loadWeight f_m_owner f_m_food f_m_miles f_m_slope f_m_clauseLetter f_m_sumFrom f_m_codeFrom f_m_codeTo f_m_code f_m_codeArg f_m_newLetter f_m_newSum f_m_newFrom f_m_newTo f_m_newCode f_m_newArg f_m_stack zworth_34 zisRefused_35 zleast_36 f_85 f_84 f_86 f_83 f_82 f_87 f_m_plainTime f_m_muleTime f_m_planTo f_m_march f_m_tired f_m_ranMinutes f_m_tiredAhead f_m_isReached f_m_toEnd f_m_upTo f_m_upNext f_m_byChanges f_m_bandPaces) → va_S A s.heap H locs → lv_has ls 16 [(9, .int l_91), (8, .int l_60), (7, .int l_90), (6, .int l_89), (5, .int l_88), (0, .ref (hm 0)), (1, .int i), (2, .int all), (3, .int ck), (4, .int what)] → W p l e (gRm 8) s m args below meth c H locs 0 0 Q (F0 m 79 ls []) := by
                  intro n
                  induction n with
                  | zero => intro f_82 f_83 f_84 f_85 f_86 f_87 l_88 l_89 l_90 l_91 w_92 w_93 hL79_94_0 hL79_94_1 hL79_94_2 hL79_94_3 hL79_94_4 hm; exact absurd hm (by omega)
                  | succ n ih79_94 =>
                    intro f_82 f_83 f_84 f_85 f_86 f_87 l_88 l_89 l_90 l_91 w_92 w_93 hL79_94_0 hL79_94_1 hL79_94_2 hL79_94_3 hL79_94_4 hmL79_94 H locs ls hP hD hS hl
                    refine lv_iload hx hb dX10_ahead_79 (lv_at hl 0 rfl) ?_
                    refine lv_aload_n hx hb dX10_ahead_81 rfl (lv_at hl 5 rfl) ?_
                    refine gt_MD_MD_walkers hx hb hts hown hK hP lwd_221 dX10_ahead_82 ?_
                    refine lv_icmp_ge (tgt := 206) hx hb dX10_ahead_85 (by decide) (fun c_95 => ?_) (fun c_95 => ?_)
                    · have gc_95 : v_walkers.toInt ≤ l_91.toInt := i_le (rfl : v_walkers.toInt = v_walkers.toInt) (rfl : l_91.toInt = l_91.toInt) c_95
                      obtain ⟨n_96, en_96⟩ : ∃ y : Int32, y = l_60 + 1 := ⟨_, rfl⟩
                      have tn_96 : n_96.toInt = l_60.toInt + 1 := i_add en_96 (rfl : l_60.toInt = l_60.toInt) (by decide : (1 : Int32).toInt = 1) (by omega) (by omega)
                      refine lv_iinc (v := n_96) (lv' := [(8, .int n_96), (9, .int l_91), (7, .int l_90), (6, .int l_89), (5, .int l_88), (0, .ref (hm 0)), (1, .int i), (2, .int all), (3, .int ck), (4, .int what)]) hx hb dX10_ahead_206 hl (k := 1) rfl (by rw [en_96]; rfl) (by decide) rfl (fun ls hl => ?_)
                      refine lv_goto (tgt := 64) hx hb dX10_ahead_209 (by decide) ?_
                      exact ih64_63 f_82 f_83 f_84 f_85 f_86 f_87 l_88 l_89 l_90 n_96 w_92 w_93 hL79_94_0 hL79_94_1 hL79_94_2 (by omega) (by omega) (by omega) _ _ _ hP hD hS (lv_sub hl [0, 2, 3, 4, 5, 6, 7, 8, 9] rfl)
                    · have gc_95 : l_91.toInt < v_walkers.toInt := i_nle (rfl : v_walkers.toInt = v_walkers.toInt) (rfl : l_91.toInt = l_91.toInt) c_95
                      refine lv_iconst (v := 1) hx hb dX10_ahead_88 (by decide) ?_
                      refine lv_iload hx hb dX10_ahead_89 (lv_at hl 1 rfl) ?_
                      refine lv_ishl hx hb dX10_ahead_91 ?_
                      refine lv_topi (fun n_97 en_97 => ?_)
                      have bn_97 := (i_sh1 en_97 (rfl : l_60.toInt = l_60.toInt) (by omega)).2
                      refine lv_iconst (v := 1) hx hb dX10_ahead_92 (by decide) ?_
                      refine lv_iload hx hb dX10_ahead_93 (lv_at hl 0 rfl) ?_
                      refine lv_ishl hx hb dX10_ahead_95 ?_
                      refine lv_topi (fun n_98 en_98 => ?_)
                      have bn_98 := (i_sh1 en_98 (rfl : l_91.toInt = l_91.toInt) (by omega)).2
                      refine lv_ior hx hb dX10_ahead_96 ?_
                      refine lv_topi (fun n_99 en_99 => ?_)
                      have bn_99 : 0 ≤ n_99.toInt ∧ n_99.toInt ≤ 1023 := i_orb 10 en_99 (by omega) (by omega) (by decide) (by decide)
                      refine lv_istore (lv' := [(10, .int n_99), (9, .int l_91), (8, .int l_60), (7, .int l_90), (6, .int l_89), (5, .int l_88), (0, .ref (hm 0)), (1, .int i), (2, .int all), (3, .int ck), (4, .int what)]) hx hb dX10_ahead_97 hl (by decide) rfl (fun ls hl => ?_)
                      refine lv_aload_n hx hb dX10_ahead_99 rfl (lv_at hl 6 rfl) ?_
                      refine lv_iload_n hx hb dX10_ahead_100 rfl (lv_at hl 7 rfl) ?_
                      refine lv_aload_n hx hb dX10_ahead_101 rfl (lv_at hl 6 rfl) ?_
                      refine xi hD hS hA (xV (As := []) (rest := [.int i, .ref (hm 0)]) hx hb hml hown hts hK hP hD hS hA NT_ok hN hAe hl.1 ⟨Nat.le_refl _, Nat.le_refl _⟩ 0 rfl rfl rfl (c_X10_everybody l D cy hm v_taped v_walkers v_loads v_pieces v_changeCosts v_planned v_isMarch v_clauseMany v_place v_end v_bad v_clauses v_codes v_open v_stacked v_isOver v_isBehind zatW_27 zatL_28 zatT_29 zatH_30 zatM_31 zatI_32 zatQ_33 w_93 w_92 v_goPace v_goMinutes v_spentAt v_ranChanges f_m_tape f_m_knee f_m_weight f_m_isLame f_m_loadWeight f_m_owner f_m_food f_m_miles f_m_slope f_m_clauseLetter f_m_sumFrom f_m_codeFrom f_m_codeTo f_m_code f_m_codeArg f_m_newLetter f_m_newSum f_m_newFrom f_m_newTo f_m_newCode f_m_newArg f_m_stack zworth_34 zisRefused_35 zleast_36 f_85 f_84 f_86 f_83 f_82 f_87 f_m_plainTime f_m_muleTime f_m_planTo f_m_march f_m_tired f_m_ranMinutes f_m_tiredAhead f_m_isReached f_m_toEnd f_m_upTo f_m_upNext f_m_byChanges f_m_bandPaces H.size (by omega)) (gi_V lwd_736 lwd_737 lwd_738 lwd_5 lwd_739) ⟨rfl, hd_X10_everybody⟩ ⟨Nat.le_of_ble_eq_true rfl, Nat.le_of_ble_eq_true rfl⟩ rfl (Nat.le_of_ble_eq_true rfl) dX10_ahead_102) (fun r_101 u_100 H locs hw hP hD hS => ?_)
                      try dsimp only at hw hP hD
                      clear hw
                      refine lv_iload hx hb dX10_ahead_105 (lv_at hl 0 rfl) ?_
                      refine lv_iconst (v := (-1)) hx hb dX10_ahead_107 (by decide) ?_
                      refine lv_ixor hx hb dX10_ahead_108 ?_
                      refine lv_topi (fun n_102 en_102 => ?_)
                      refine lv_iand hx hb dX10_ahead_109 ?_
                      refine lv_topi (fun n_103 en_103 => ?_)
                      refine lv_iconst (v := 1) hx hb dX10_ahead_110 (by decide) ?_
                      have k_104 : (1 : Int32).toInt = 1 := by decide
                      refine xv hD hS hA (xV (As := [.int i, .int n_103, .int 1]) (rest := []) hx hb hml hown hts hK hP hD hS hA NT_ok hN hAe hl.1 ⟨Nat.le_refl _, Nat.le_refl _⟩ 0 rfl rfl rfl (c_X10_packs l D cy hm v_taped v_walkers v_loads v_pieces v_changeCosts v_planned v_isMarch v_clauseMany v_place v_end v_bad v_clauses v_codes v_open v_stacked v_isOver v_isBehind zatW_27 zatL_28 zatT_29 zatH_30 zatM_31 zatI_32 zatQ_33 w_93 w_92 v_goPace v_goMinutes v_spentAt v_ranChanges f_m_tape f_m_knee f_m_weight f_m_isLame f_m_loadWeight f_m_owner f_m_food f_m_miles f_m_slope f_m_clauseLetter f_m_sumFrom f_m_codeFrom f_m_codeTo f_m_code f_m_codeArg f_m_newLetter f_m_newSum f_m_newFrom f_m_newTo f_m_newCode f_m_newArg f_m_stack zworth_34 zisRefused_35 zleast_36 f_85 f_84 f_86 f_83 f_82 f_87 f_m_plainTime f_m_muleTime f_m_planTo f_m_march f_m_tired f_m_ranMinutes f_m_tiredAhead f_m_isReached f_m_toEnd f_m_upTo f_m_upNext f_m_byChanges f_m_bandPaces H.size i n_103 1 (by omega) (by omega) hr_m_loadWeight hr_m_owner hr_m_food hL79_94_2 hL79_94_1 (by omega) (by omega)) (gi_V lwd_740 lwd_741 lwd_742 lwd_5 lwd_743) ⟨rfl, hd_X10_packs⟩ ⟨Nat.le_of_ble_eq_true rfl, Nat.le_of_ble_eq_true rfl⟩ rfl (Nat.le_of_ble_eq_true rfl) dX10_ahead_111) (fun u_105 H locs hw hP hD hS => ?_)
                      obtain ⟨zpacking_107, zpacked_108, zpackPounds_109, zpackOwner_110⟩ := u_105
                      try dsimp only at hw hP hD
                      obtain ⟨p_111, p_112, p_113, p_114⟩ := hw
                      refine lv_aload_n hx hb dX10_ahead_114 rfl (lv_at hl 6 rfl) ?_
                      refine lv_iconst (v := (-1)) hx hb dX10_ahead_115 (by decide) ?_
                      have k_115 : ((-1) : Int32).toInt = (-1) := by decide
                      refine xi hD hS hA (xV (As := [.int (-1)]) (rest := []) hx hb hml hown hts hK hP hD hS hA NT_ok hN hAe hl.1 ⟨Nat.le_refl _, Nat.le_refl _⟩ 0 rfl rfl rfl (c_X10_wholePace l D cy hm v_taped v_walkers v_loads v_pieces v_changeCosts v_planned v_isMarch v_clauseMany v_place v_end v_bad v_clauses v_codes v_open v_stacked v_isOver v_isBehind zatW_27 zatL_28 zatT_29 zatH_30 zatM_31 zatI_32 zatQ_33 zpacking_107 zpacked_108 v_goPace v_goMinutes v_spentAt v_ranChanges f_m_tape f_m_knee f_m_weight f_m_isLame f_m_loadWeight f_m_owner f_m_food f_m_miles f_m_slope f_m_clauseLetter f_m_sumFrom f_m_codeFrom f_m_codeTo f_m_code f_m_codeArg f_m_newLetter f_m_newSum f_m_newFrom f_m_newTo f_m_newCode f_m_newArg f_m_stack zworth_34 zisRefused_35 zleast_36 zpackPounds_109 zpackOwner_110 f_86 f_83 f_82 f_87 f_m_plainTime f_m_muleTime f_m_planTo f_m_march f_m_tired f_m_ranMinutes f_m_tiredAhead f_m_isReached f_m_toEnd f_m_upTo f_m_upNext f_m_byChanges f_m_bandPaces H.size (-1) (by omega) (by omega) p_113 p_114 hL79_94_0) (gi_V lwd_753 lwd_754 lwd_755 lwd_5 lwd_756) ⟨rfl, hd_X10_wholePace⟩ ⟨Nat.le_of_ble_eq_true rfl, Nat.le_of_ble_eq_true rfl⟩ rfl (Nat.le_of_ble_eq_true rfl) dX10_ahead_116) (fun r_117 u_116 H locs hw hP hD hS => ?_)
                      obtain ⟨zroom_118, zgivenTo_119, zcanBe_120, zsetPounds_121⟩ := u_116
                      try dsimp only at hw hP hD
                      obtain ⟨p_122, p_123, p_124⟩ := hw
                      refine lv_istore (lv' := [(11, .int r_117), (10, .int n_99), (9, .int l_91), (8, .int l_60), (7, .int l_90), (6, .int l_89), (5, .int l_88), (0, .ref (hm 0)), (1, .int i), (2, .int all), (3, .int ck), (4, .int what)]) hx hb dX10_ahead_119 hl (by decide) rfl (fun ls hl => ?_)
                      refine lv_aload_n hx hb dX10_ahead_121 rfl (lv_at hl 7 rfl) ?_
                      refine lv_iload hx hb dX10_ahead_122 (lv_at hl 1 rfl) ?_
                      refine xi hD hS hA (xV (As := [.int n_99]) (rest := []) hx hb hml hown hts hK hP hD hS hA NT_ok hN hAe hl.1 ⟨Nat.le_refl _, Nat.le_refl _⟩ 0 rfl rfl rfl (c_X10_emptyPace l D cy hm v_taped v_walkers v_loads v_pieces v_changeCosts v_planned v_isMarch v_clauseMany v_place v_end v_bad v_clauses v_codes v_open v_stacked v_isOver v_isBehind zatW_27 zatL_28 zatT_29 zatH_30 zatM_31 zatI_32 zatQ_33 zpacking_107 zpacked_108 v_goPace v_goMinutes v_spentAt v_ranChanges f_m_tape f_m_knee f_m_weight f_m_isLame f_m_loadWeight f_m_owner f_m_food f_m_miles f_m_slope f_m_clauseLetter f_m_sumFrom f_m_codeFrom f_m_codeTo f_m_code f_m_codeArg f_m_newLetter f_m_newSum f_m_newFrom f_m_newTo f_m_newCode f_m_newArg f_m_stack zworth_34 zisRefused_35 zleast_36 zpackPounds_109 zpackOwner_110 zroom_118 zgivenTo_119 zcanBe_120 zsetPounds_121 f_m_plainTime f_m_muleTime f_m_planTo f_m_march f_m_tired f_m_ranMinutes f_m_tiredAhead f_m_isReached f_m_toEnd f_m_upTo f_m_upNext f_m_byChanges f_m_bandPaces H.size n_99 (by omega)) (gi_V lwd_828 lwd_829 lwd_830 lwd_5 lwd_831) ⟨rfl, hd_X10_emptyPace⟩ ⟨Nat.le_of_ble_eq_true rfl, Nat.le_of_ble_eq_true rfl⟩ rfl (Nat.le_of_ble_eq_true rfl) dX10_ahead_124) (fun r_126 u_125 H locs hw hP hD hS => ?_)
                      try dsimp only at hw hP hD
                      clear hw
                      refine lv_istore (lv' := [(12, .int r_126), (11, .int r_117), (10, .int n_99), (9, .int l_91), (8, .int l_60), (7, .int l_90), (6, .int l_89), (5, .int l_88), (0, .ref (hm 0)), (1, .int i), (2, .int all), (3, .int ck), (4, .int what)]) hx hb dX10_ahead_127 hl (by decide) rfl (fun ls hl => ?_)
                      refine lv_iload hx hb dX10_ahead_129 (lv_at hl 1 rfl) ?_
                      refine lv_if_eq (tgt := 200) hx hb dX10_ahead_131 (by decide) (fun c_127 => ?_) (fun c_127 => ?_)
                      · have gc_127 : r_117.toInt = 0 := i_eq (rfl : r_117.toInt = r_117.toInt) (by decide : (0 : Int32).toInt = 0) c_127
                        obtain ⟨n_128, en_128⟩ : ∃ y : Int32, y = l_91 + 1 := ⟨_, rfl⟩
                        have tn_128 : n_128.toInt = l_91.toInt + 1 := i_add en_128 (rfl : l_91.toInt = l_91.toInt) (by decide : (1 : Int32).toInt = 1) (by omega) (by omega)
                        refine lv_iinc (v := n_128) (lv' := [(9, .int n_128), (12, .int r_126), (11, .int r_117), (10, .int n_99), (8, .int l_60), (7, .int l_90), (6, .int l_89), (5, .int l_88), (0, .ref (hm 0)), (1, .int i), (2, .int all), (3, .int ck), (4, .int what)]) hx hb dX10_ahead_200 hl (k := 3) rfl (by rw [en_128]; rfl) (by decide) rfl (fun ls hl => ?_)
                        refine lv_goto (tgt := 79) hx hb dX10_ahead_203 (by decide) ?_
                        exact ih79_94 zcanBe_120 zgivenTo_119 zpackOwner_110 zpackPounds_109 zroom_118 zsetPounds_121 l_88 l_89 l_90 n_128 zpacked_108 zpacking_107 p_124 p_114 p_113 (by omega) (by omega) (by omega) _ _ _ hP hD hS (lv_sub hl [0, 4, 5, 6, 7, 8, 9, 10, 11, 12] rfl)
                      · have gc_127 : r_117.toInt ≠ 0 := i_ne (rfl : r_117.toInt = r_117.toInt) (by decide : (0 : Int32).toInt = 0) c_127
                        refine lv_iload hx hb dX10_ahead_134 (lv_at hl 0 rfl) ?_
                        refine lv_if_ne (tgt := 142) hx hb dX10_ahead_136 (by decide) (fun c_129 => ?_) (fun c_129 => ?_)
                        · have gc_129 : r_126.toInt ≠ 0 := i_ne (rfl : r_126.toInt = r_126.toInt) (by decide : (0 : Int32).toInt = 0) c_129
                          refine lv_aload_n hx hb dX10_ahead_142 rfl (lv_at hl 8 rfl) ?_
                          refine lv_iload_n hx hb dX10_ahead_143 rfl (lv_at hl 9 rfl) ?_
                          refine lv_iload hx hb dX10_ahead_144 (lv_at hl 0 rfl) ?_
                          refine xi hD hS hA (xV (As := [.int i, .int r_126]) (rest := []) hx hb hml hown hts hK hP hD hS hA NT_ok hN hAe hl.1 ⟨Nat.le_refl _, Nat.le_refl _⟩ 0 rfl rfl rfl (c_X10_minutesOf l D cy hm v_taped v_walkers v_loads v_pieces v_changeCosts v_planned v_isMarch v_clauseMany v_place v_end v_bad v_clauses v_codes v_open v_stacked v_isOver v_isBehind zatW_27 zatL_28 zatT_29 zatH_30 zatM_31 zatI_32 zatQ_33 zpacking_107 zpacked_108 v_goPace v_goMinutes v_spentAt v_ranChanges f_m_tape f_m_knee f_m_weight f_m_isLame f_m_loadWeight f_m_owner f_m_food f_m_miles f_m_slope f_m_clauseLetter f_m_sumFrom f_m_codeFrom f_m_codeTo f_m_code f_m_codeArg f_m_newLetter f_m_newSum f_m_newFrom f_m_newTo f_m_newCode f_m_newArg f_m_stack zworth_34 zisRefused_35 zleast_36 zpackPounds_109 zpackOwner_110 zroom_118 zgivenTo_119 zcanBe_120 zsetPounds_121 f_m_plainTime f_m_muleTime f_m_planTo f_m_march f_m_tired f_m_ranMinutes f_m_tiredAhead f_m_isReached f_m_toEnd f_m_upTo f_m_upNext f_m_byChanges f_m_bandPaces H.size i r_126 hr_m_miles (by omega) (by omega)) (gi_V lwd_668 lwd_669 lwd_670 lwd_5 lwd_671) ⟨rfl, hd_X10_minutesOf⟩ ⟨Nat.le_of_ble_eq_true rfl, Nat.le_of_ble_eq_true rfl⟩ rfl (Nat.le_of_ble_eq_true rfl) dX10_ahead_146) (fun r_131 u_130 H locs hw hP hD hS => ?_)
                          try dsimp only at hw hP hD
                          have p_132 := hw
                          clear hw
                          refine lv_iload_n hx hb dX10_ahead_149 rfl (lv_at hl 11 rfl) ?_
                          refine lv_iadd hx hb dX10_ahead_150 ?_
                          refine lv_topi (fun n_133 en_133 => ?_)
                          refine lv_istore (lv' := [(13, .int n_133), (12, .int r_126), (11, .int r_117), (10, .int n_99), (9, .int l_91), (8, .int l_60), (7, .int l_90), (6, .int l_89), (5, .int l_88), (0, .ref (hm 0)), (1, .int i), (2, .int all), (3, .int ck), (4, .int what)]) hx hb dX10_ahead_151 hl (by decide) rfl (fun ls hl => ?_)
                          refine lv_aload_n hx hb dX10_ahead_153 rfl (lv_at hl 9 rfl) ?_
                          refine lv_iload_n hx hb dX10_ahead_154 rfl (lv_at hl 10 rfl) ?_
                          refine lv_iload hx hb dX10_ahead_155 (lv_at hl 2 rfl) ?_
                          refine xi hD hS hA (xV (As := [.int i, .int r_117]) (rest := []) hx hb hml hown hts hK hP hD hS hA NT_ok hN hAe hl.1 ⟨Nat.le_refl _, Nat.le_refl _⟩ 0 rfl rfl rfl (c_X10_minutesOf l D cy hm v_taped v_walkers v_loads v_pieces v_changeCosts v_planned v_isMarch v_clauseMany v_place v_end v_bad v_clauses v_codes v_open v_stacked v_isOver v_isBehind zatW_27 zatL_28 zatT_29 zatH_30 zatM_31 zatI_32 zatQ_33 zpacking_107 zpacked_108 v_goPace v_goMinutes v_spentAt v_ranChanges f_m_tape f_m_knee f_m_weight f_m_isLame f_m_loadWeight f_m_owner f_m_food f_m_miles f_m_slope f_m_clauseLetter f_m_sumFrom f_m_codeFrom f_m_codeTo f_m_code f_m_codeArg f_m_newLetter f_m_newSum f_m_newFrom f_m_newTo f_m_newCode f_m_newArg f_m_stack zworth_34 zisRefused_35 zleast_36 zpackPounds_109 zpackOwner_110 zroom_118 zgivenTo_119 zcanBe_120 zsetPounds_121 f_m_plainTime f_m_muleTime f_m_planTo f_m_march f_m_tired f_m_ranMinutes f_m_tiredAhead f_m_isReached f_m_toEnd f_m_upTo f_m_upNext f_m_byChanges f_m_bandPaces H.size i r_117 hr_m_miles (by omega) (by omega)) (gi_V lwd_668 lwd_669 lwd_670 lwd_5 lwd_671) ⟨rfl, hd_X10_minutesOf⟩ ⟨Nat.le_of_ble_eq_true rfl, Nat.le_of_ble_eq_true rfl⟩ rfl (Nat.le_of_ble_eq_true rfl) dX10_ahead_157) (fun r_135 u_134 H locs hw hP hD hS => ?_)
                          try dsimp only at hw hP hD
                          have p_136 := hw
                          clear hw
                          refine lv_istore (lv' := [(14, .int r_135), (13, .int n_133), (12, .int r_126), (11, .int r_117), (10, .int n_99), (9, .int l_91), (8, .int l_60), (7, .int l_90), (6, .int l_89), (5, .int l_88), (0, .ref (hm 0)), (1, .int i), (2, .int all), (3, .int ck), (4, .int what)]) hx hb dX10_ahead_160 hl (by decide) rfl (fun ls hl => ?_)
                          refine lv_iload hx hb dX10_ahead_162 (lv_at hl 1 rfl) ?_
                          refine lv_iload hx hb dX10_ahead_164 (lv_at hl 0 rfl) ?_
                          refine lv_icmp_le (tgt := 174) hx hb dX10_ahead_166 (by decide) (fun c_137 => ?_) (fun c_137 => ?_)
                          · have gc_137 : n_133.toInt ≤ r_135.toInt := i_le (rfl : n_133.toInt = n_133.toInt) (rfl : r_135.toInt = r_135.toInt) c_137
                            refine lv_iload hx hb dX10_ahead_174 (lv_at hl 0 rfl) ?_
                            refine lv_istore (lv' := [(15, .int r_135), (14, .int r_135), (13, .int n_133), (12, .int r_126), (11, .int r_117), (10, .int n_99), (9, .int l_91), (8, .int l_60), (7, .int l_90), (6, .int l_89), (5, .int l_88), (0, .ref (hm 0)), (1, .int i), (2, .int all), (3, .int ck), (4, .int what)]) hx hb dX10_ahead_176 hl (by decide) rfl (fun ls hl => ?_)
                            refine lv_iload hx hb dX10_ahead_178 (lv_at hl 0 rfl) ?_
                            refine lv_iload hx hb dX10_ahead_180 (lv_at hl 10 rfl) ?_
                            refine lv_icmp_lt (tgt := 188) hx hb dX10_ahead_182 (by decide) (fun c_138 => ?_) (fun c_138 => ?_)
                            · have gc_138 : r_135.toInt < l_88.toInt := i_lt (rfl : r_135.toInt = r_135.toInt) (rfl : l_88.toInt = l_88.toInt) c_138
                              refine lv_iload hx hb dX10_ahead_188 (lv_at hl 0 rfl) ?_
                              refine lv_istore (lv' := [(5, .int r_135), (15, .int r_135), (14, .int r_135), (13, .int n_133), (12, .int r_126), (11, .int r_117), (10, .int n_99), (9, .int l_91), (8, .int l_60), (7, .int l_90), (6, .int l_89), (0, .ref (hm 0)), (1, .int i), (2, .int all), (3, .int ck), (4, .int what)]) hx hb dX10_ahead_190 hl (by decide) rfl (fun ls hl => ?_)
                              refine lv_iload hx hb dX10_ahead_192 (lv_at hl 8 rfl) ?_
                              refine lv_istore (lv' := [(6, .int l_60), (5, .int r_135), (15, .int r_135), (14, .int r_135), (13, .int n_133), (12, .int r_126), (11, .int r_117), (10, .int n_99), (9, .int l_91), (8, .int l_60), (7, .int l_90), (0, .ref (hm 0)), (1, .int i), (2, .int all), (3, .int ck), (4, .int what)]) hx hb dX10_ahead_194 hl (by decide) rfl (fun ls hl => ?_)
                              refine lv_iload hx hb dX10_ahead_196 (lv_at hl 8 rfl) ?_
                              refine lv_istore (lv' := [(7, .int l_91), (6, .int l_60), (5, .int r_135), (15, .int r_135), (14, .int r_135), (13, .int n_133), (12, .int r_126), (11, .int r_117), (10, .int n_99), (9, .int l_91), (8, .int l_60), (0, .ref (hm 0)), (1, .int i), (2, .int all), (3, .int ck), (4, .int what)]) hx hb dX10_ahead_198 hl (by decide) rfl (fun ls hl => ?_)
                              obtain ⟨n_139, en_139⟩ : ∃ y : Int32, y = l_91 + 1 := ⟨_, rfl⟩
                              have tn_139 : n_139.toInt = l_91.toInt + 1 := i_add en_139 (rfl : l_91.toInt = l_91.toInt) (by decide : (1 : Int32).toInt = 1) (by omega) (by omega)
                              refine lv_iinc (v := n_139) (lv' := [(9, .int n_139), (7, .int l_91), (6, .int l_60), (5, .int r_135), (15, .int r_135), (14, .int r_135), (13, .int n_133), (12, .int r_126), (11, .int r_117), (10, .int n_99), (8, .int l_60), (0, .ref (hm 0)), (1, .int i), (2, .int all), (3, .int ck), (4, .int what)]) hx hb dX10_ahead_200 hl (k := 9) rfl (by rw [en_139]; rfl) (by decide) rfl (fun ls hl => ?_)
                              refine lv_goto (tgt := 79) hx hb dX10_ahead_203 (by decide) ?_
                              exact ih79_94 zcanBe_120 zgivenTo_119 zpackOwner_110 zpackPounds_109 zroom_118 zsetPounds_121 r_135 l_60 l_91 n_139 zpacked_108 zpacking_107 p_124 p_114 p_113 (by omega) (by omega) (by omega) _ _ _ hP hD hS (lv_sub hl [0, 10, 1, 2, 3, 11, 12, 13, 14, 15] rfl)
                            · have gc_138 : l_88.toInt ≤ r_135.toInt := i_nlt (rfl : r_135.toInt = r_135.toInt) (rfl : l_88.toInt = l_88.toInt) c_138
                              refine lv_goto (tgt := 200) hx hb dX10_ahead_185 (by decide) ?_
                              obtain ⟨n_140, en_140⟩ : ∃ y : Int32, y = l_91 + 1 := ⟨_, rfl⟩
                              have tn_140 : n_140.toInt = l_91.toInt + 1 := i_add en_140 (rfl : l_91.toInt = l_91.toInt) (by decide : (1 : Int32).toInt = 1) (by omega) (by omega)
                              refine lv_iinc (v := n_140) (lv' := [(9, .int n_140), (15, .int r_135), (14, .int r_135), (13, .int n_133), (12, .int r_126), (11, .int r_117), (10, .int n_99), (8, .int l_60), (7, .int l_90), (6, .int l_89), (5, .int l_88), (0, .ref (hm 0)), (1, .int i), (2, .int all), (3, .int ck), (4, .int what)]) hx hb dX10_ahead_200 hl (k := 6) rfl (by rw [en_140]; rfl) (by decide) rfl (fun ls hl => ?_)
                              refine lv_goto (tgt := 79) hx hb dX10_ahead_203 (by decide) ?_
                              exact ih79_94 zcanBe_120 zgivenTo_119 zpackOwner_110 zpackPounds_109 zroom_118 zsetPounds_121 l_88 l_89 l_90 n_140 zpacked_108 zpacking_107 p_124 p_114 p_113 (by omega) (by omega) (by omega) _ _ _ hP hD hS (lv_sub hl [0, 7, 8, 9, 10, 11, 12, 13, 14, 15] rfl)
                          · have gc_137 : r_135.toInt < n_133.toInt := i_nle (rfl : n_133.toInt = n_133.toInt) (rfl : r_135.toInt = r_135.toInt) c_137
                            refine lv_iload hx hb dX10_ahead_169 (lv_at hl 1 rfl) ?_
                            refine lv_goto (tgt := 176) hx hb dX10_ahead_171 (by decide) ?_
                            refine lv_istore (lv' := [(15, .int n_133), (14, .int r_135), (13, .int n_133), (12, .int r_126), (11, .int r_117), (10, .int n_99), (9, .int l_91), (8, .int l_60), (7, .int l_90), (6, .int l_89), (5, .int l_88), (0, .ref (hm 0)), (1, .int i), (2, .int all), (3, .int ck), (4, .int what)]) hx hb dX10_ahead_176 hl (by decide) rfl (fun ls hl => ?_)
                            refine lv_iload hx hb dX10_ahead_178 (lv_at hl 0 rfl) ?_
                            refine lv_iload hx hb dX10_ahead_180 (lv_at hl 10 rfl) ?_
                            refine lv_icmp_lt (tgt := 188) hx hb dX10_ahead_182 (by decide) (fun c_141 => ?_) (fun c_141 => ?_)
                            · have gc_141 : n_133.toInt < l_88.toInt := i_lt (rfl : n_133.toInt = n_133.toInt) (rfl : l_88.toInt = l_88.toInt) c_141
                              refine lv_iload hx hb dX10_ahead_188 (lv_at hl 0 rfl) ?_
                              refine lv_istore (lv' := [(5, .int n_133), (15, .int n_133), (14, .int r_135), (13, .int n_133), (12, .int r_126), (11, .int r_117), (10, .int n_99), (9, .int l_91), (8, .int l_60), (7, .int l_90), (6, .int l_89), (0, .ref (hm 0)), (1, .int i), (2, .int all), (3, .int ck), (4, .int what)]) hx hb dX10_ahead_190 hl (by decide) rfl (fun ls hl => ?_)
                              refine lv_iload hx hb dX10_ahead_192 (lv_at hl 8 rfl) ?_
                              refine lv_istore (lv' := [(6, .int l_60), (5, .int n_133), (15, .int n_133), (14, .int r_135), (13, .int n_133), (12, .int r_126), (11, .int r_117), (10, .int n_99), (9, .int l_91), (8, .int l_60), (7, .int l_90), (0, .ref (hm 0)), (1, .int i), (2, .int all), (3, .int ck), (4, .int what)]) hx hb dX10_ahead_194 hl (by decide) rfl (fun ls hl => ?_)
                              refine lv_iload hx hb dX10_ahead_196 (lv_at hl 8 rfl) ?_
                              refine lv_istore (lv' := [(7, .int l_91), (6, .int l_60), (5, .int n_133), (15, .int n_133), (14, .int r_135), (13, .int n_133), (12, .int r_126), (11, .int r_117), (10, .int n_99), (9, .int l_91), (8, .int l_60), (0, .ref (hm 0)), (1, .int i), (2, .int all), (3, .int ck), (4, .int what)]) hx hb dX10_ahead_198 hl (by decide) rfl (fun ls hl => ?_)
                              obtain ⟨n_142, en_142⟩ : ∃ y : Int32, y = l_91 + 1 := ⟨_, rfl⟩
                              have tn_142 : n_142.toInt = l_91.toInt + 1 := i_add en_142 (rfl : l_91.toInt = l_91.toInt) (by decide : (1 : Int32).toInt = 1) (by omega) (by omega)
                              refine lv_iinc (v := n_142) (lv' := [(9, .int n_142), (7, .int l_91), (6, .int l_60), (5, .int n_133), (15, .int n_133), (14, .int r_135), (13, .int n_133), (12, .int r_126), (11, .int r_117), (10, .int n_99), (8, .int l_60), (0, .ref (hm 0)), (1, .int i), (2, .int all), (3, .int ck), (4, .int what)]) hx hb dX10_ahead_200 hl (k := 9) rfl (by rw [en_142]; rfl) (by decide) rfl (fun ls hl => ?_)
                              refine lv_goto (tgt := 79) hx hb dX10_ahead_203 (by decide) ?_
                              exact ih79_94 zcanBe_120 zgivenTo_119 zpackOwner_110 zpackPounds_109 zroom_118 zsetPounds_121 n_133 l_60 l_91 n_142 zpacked_108 zpacking_107 p_124 p_114 p_113 (by omega) (by omega) (by omega) _ _ _ hP hD hS (lv_sub hl [0, 10, 1, 2, 3, 11, 12, 13, 14, 15] rfl)
                            · have gc_141 : l_88.toInt ≤ n_133.toInt := i_nlt (rfl : n_133.toInt = n_133.toInt) (rfl : l_88.toInt = l_88.toInt) c_141
                              refine lv_goto (tgt := 200) hx hb dX10_ahead_185 (by decide) ?_
                              obtain ⟨n_143, en_143⟩ : ∃ y : Int32, y = l_91 + 1 := ⟨_, rfl⟩
                              have tn_143 : n_143.toInt = l_91.toInt + 1 := i_add en_143 (rfl : l_91.toInt = l_91.toInt) (by decide : (1 : Int32).toInt = 1) (by omega) (by omega)
                              refine lv_iinc (v := n_143) (lv' := [(9, .int n_143), (15, .int n_133), (14, .int r_135), (13, .int n_133), (12, .int r_126), (11, .int r_117), (10, .int n_99), (8, .int l_60), (7, .int l_90), (6, .int l_89), (5, .int l_88), (0, .ref (hm 0)), (1, .int i), (2, .int all), (3, .int ck), (4, .int what)]) hx hb dX10_ahead_200 hl (k := 6) rfl (by rw [en_143]; rfl) (by decide) rfl (fun ls hl => ?_)
                              refine lv_goto (tgt := 79) hx hb dX10_ahead_203 (by decide) ?_
                              exact ih79_94 zcanBe_120 zgivenTo_119 zpackOwner_110 zpackPounds_109 zroom_118 zsetPounds_121 l_88 l_89 l_90 n_143 zpacked_108 zpacking_107 p_124 p_114 p_113 (by omega) (by omega) (by omega) _ _ _ hP hD hS (lv_sub hl [0, 7, 8, 9, 10, 11, 12, 13, 14, 15] rfl)
                        · have gc_129 : r_126.toInt = 0 := i_eq (rfl : r_126.toInt = r_126.toInt) (by decide : (0 : Int32).toInt = 0) c_129
                          refine lv_goto (tgt := 200) hx hb dX10_ahead_139 (by decide) ?_
                          obtain ⟨n_144, en_144⟩ : ∃ y : Int32, y = l_91 + 1 := ⟨_, rfl⟩
                          have tn_144 : n_144.toInt = l_91.toInt + 1 := i_add en_144 (rfl : l_91.toInt = l_91.toInt) (by decide : (1 : Int32).toInt = 1) (by omega) (by omega)
                          refine lv_iinc (v := n_144) (lv' := [(9, .int n_144), (12, .int r_126), (11, .int r_117), (10, .int n_99), (8, .int l_60), (7, .int l_90), (6, .int l_89), (5, .int l_88), (0, .ref (hm 0)), (1, .int i), (2, .int all), (3, .int ck), (4, .int what)]) hx hb dX10_ahead_200 hl (k := 3) rfl (by rw [en_144]; rfl) (by decide) rfl (fun ls hl => ?_)
                          refine lv_goto (tgt := 79) hx hb dX10_ahead_203 (by decide) ?_
                          exact ih79_94 zcanBe_120 zgivenTo_119 zpackOwner_110 zpackPounds_109 zroom_118 zsetPounds_121 l_88 l_89 l_90 n_144 zpacked_108 zpacking_107 p_124 p_114 p_113 (by omega) (by omega) (by omega) _ _ _ hP hD hS (lv_sub hl [0, 4, 5, 6, 7, 8, 9, 10, 11, 12] rfl)
                exact L79_94 8589934592 f_51 f_52 f_53 f_54 f_55 f_56 l_57 l_58 l_59 n_69 w_61 w_62 hL64_63_0 hL64_63_1 hL64_63_2 (by omega) (by omega) (by omega) _ _ _ hP hD hS (lv_sub hl [0, 1, 2, 3, 4, 5, 6, 7, 8, 9] rfl)
          have k_145 : (1000000000 : Int32).toInt = 1000000000 := by decide
          have k_146 : ((-1) : Int32).toInt = (-1) := by decide
          have k_147 : ((-1) : Int32).toInt = (-1) := by decide
          have k_148 : (0 : Int32).toInt = 0 := by decide
          exact L64_63 8589934592 f_m_canBe f_m_givenTo f_m_packOwner f_m_packPounds f_m_room f_m_setPounds 1000000000 (-1) (-1) 0 v_packed v_packing hr_m_canBe hr_m_packOwner hr_m_packPounds (by omega) (by omega) (by omega) _ _ _ hP hD hS (lv_sub hl [0, 1, 2, 3, 4, 5, 6, 7, 8] rfl)
        · have gc_24 : r_21.toInt = 0 := i_eq (rfl : r_21.toInt = r_21.toInt) (by decide : (0 : Int32).toInt = 0) c_24
          refine lv_iconst (v := (-1)) hx hb dX10_ahead_42 (by decide) ?_
          have k_149 : ((-1) : Int32).toInt = (-1) := by decide
          exact hrt (-1) v_atW v_atL v_atT v_atH v_atM v_atI v_atQ v_packing v_packed f_m_worth f_m_isRefused f_m_least f_m_packPounds f_m_packOwner f_m_room f_m_givenTo f_m_canBe f_m_setPounds ⟨(by omega), (by omega), hr_m_isRefused, hr_m_packPounds, hr_m_packOwner, hr_m_canBe⟩ hP hD hS rfl dX10_ahead_43
set_option maxHeartbeats 16000000 in
set_option maxRecDepth 100000 in
theorem c_X10_stagesOf (l : Launch) (D : va_G) (cy : Nat → ClassId) (hm : Nat → Nat) (v_taped v_walkers v_loads v_pieces v_changeCosts v_planned v_isMarch v_clauseMany v_place v_end v_bad v_clauses v_codes v_open v_stacked v_isOver v_isBehind v_atW v_atL v_atT v_atH v_atM v_atI v_atQ v_packing v_packed v_goPace v_goMinutes v_spentAt v_ranChanges : Int32) (f_m_tape f_m_knee f_m_weight f_m_isLame f_m_loadWeight f_m_owner f_m_food f_m_miles f_m_slope f_m_clauseLetter f_m_sumFrom f_m_codeFrom f_m_codeTo f_m_code f_m_codeArg f_m_newLetter f_m_newSum f_m_newFrom f_m_newTo f_m_newCode f_m_newArg f_m_stack f_m_worth f_m_isRefused f_m_least f_m_packPounds f_m_packOwner f_m_room f_m_givenTo f_m_canBe f_m_setPounds f_m_plainTime f_m_muleTime f_m_planTo f_m_march f_m_tired f_m_ranMinutes f_m_tiredAhead f_m_isReached f_m_toEnd f_m_upTo f_m_upNext f_m_byChanges f_m_bandPaces : Nat → Int32) (sz : Nat) (i : Int32) (n1 : Int32) (hb_v_walkers : 0 ≤ v_walkers.toInt ∧ v_walkers.toInt ≤ 6) (hb_v_loads : 0 ≤ v_loads.toInt ∧ v_loads.toInt ≤ 9) (hr_m_loadWeight : rg (0) 120 f_m_loadWeight) (hr_m_food : rg (0) 20 f_m_food) (hr_m_miles : rg (0) 20 f_m_miles) (ha_i : 0 ≤ i.toInt ∧ i.toInt ≤ 9) (ha_n1 : 1 ≤ n1.toInt ∧ n1.toInt ≤ 5) : gMi l yX10_stagesOf cX10_stagesOf 5 .int 4 [.ref (hm 0), .int i, .int n1] D cy (wMD cy hm v_taped v_walkers v_loads v_pieces v_changeCosts v_planned v_isMarch v_clauseMany v_place v_end v_bad v_clauses v_codes v_open v_stacked v_isOver v_isBehind v_atW v_atL v_atT v_atH v_atM v_atI v_atQ v_packing v_packed v_goPace v_goMinutes v_spentAt v_ranChanges f_m_tape f_m_knee f_m_weight f_m_isLame f_m_loadWeight f_m_owner f_m_food f_m_miles f_m_slope f_m_clauseLetter f_m_sumFrom f_m_codeFrom f_m_codeTo f_m_code f_m_codeArg f_m_newLetter f_m_newSum f_m_newFrom f_m_newTo f_m_newCode f_m_newArg f_m_stack f_m_worth f_m_isRefused f_m_least f_m_packPounds f_m_packOwner f_m_room f_m_givenTo f_m_canBe f_m_setPounds f_m_plainTime f_m_muleTime f_m_planTo f_m_march f_m_tired f_m_ranMinutes f_m_tiredAhead f_m_isReached f_m_toEnd f_m_upTo f_m_upNext f_m_byChanges f_m_bandPaces) NT sz (fun (r : Int32) (u : Unit) => True) (fun u => wMD cy hm v_taped v_walkers v_loads v_pieces v_changeCosts v_planned v_isMarch v_clauseMany v_place v_end v_bad v_clauses v_codes v_open v_stacked v_isOver v_isBehind v_atW v_atL v_atT v_atH v_atM v_atI v_atQ v_packing v_packed v_goPace v_goMinutes v_spentAt v_ranChanges f_m_tape f_m_knee f_m_weight f_m_isLame f_m_loadWeight f_m_owner f_m_food f_m_miles f_m_slope f_m_clauseLetter f_m_sumFrom f_m_codeFrom f_m_codeTo f_m_code f_m_codeArg f_m_newLetter f_m_newSum f_m_newFrom f_m_newTo f_m_newCode f_m_newArg f_m_stack f_m_worth f_m_isRefused f_m_least f_m_packPounds f_m_packOwner f_m_room f_m_givenTo f_m_canBe f_m_setPounds f_m_plainTime f_m_muleTime f_m_planTo f_m_march f_m_tired f_m_ranMinutes f_m_tiredAhead f_m_isReached f_m_toEnd f_m_upTo f_m_upNext f_m_byChanges f_m_bandPaces) := by
  refine gMi_in (by decide) (Nat.le_of_ble_eq_true rfl) ?_
  intro p e s m args below meth c A ls Q hx hb hml hts hown hsz hP hK hD hN hAe hA hS hl hret
  subst hsz
  have hl : lv_has ls 5 [(0, .ref (hm 0)), (1, .int i), (2, .int n1)] := hl
  have hrt := fun (r : Int32)   {H : Heap} {locs : List Loc} {pc : Nat} {ls : Array Slot} => hret r () (H := H) (locs := locs) (pc := pc) (ls := ls) trivial
  clear hret
  refine lv_aload_n hx hb dX10_stagesOf_0 rfl (lv_at hl 0 rfl) ?_
  refine lv_aload_n hx hb dX10_stagesOf_1 rfl (lv_at hl 0 rfl) ?_
  refine lv_iload_n hx hb dX10_stagesOf_2 rfl (lv_at hl 1 rfl) ?_
  refine xi hD hS hA (xV (As := [.int i]) (rest := [.ref (hm 0)]) hx hb hml hown hts hK hP hD hS hA NT_ok hN hAe hl.1 ⟨Nat.le_refl _, Nat.le_refl _⟩ 0 rfl rfl rfl (c_X10_allPounds l D cy hm v_taped v_walkers v_loads v_pieces v_changeCosts v_planned v_isMarch v_clauseMany v_place v_end v_bad v_clauses v_codes v_open v_stacked v_isOver v_isBehind v_atW v_atL v_atT v_atH v_atM v_atI v_atQ v_packing v_packed v_goPace v_goMinutes v_spentAt v_ranChanges f_m_tape f_m_knee f_m_weight f_m_isLame f_m_loadWeight f_m_owner f_m_food f_m_miles f_m_slope f_m_clauseLetter f_m_sumFrom f_m_codeFrom f_m_codeTo f_m_code f_m_codeArg f_m_newLetter f_m_newSum f_m_newFrom f_m_newTo f_m_newCode f_m_newArg f_m_stack f_m_worth f_m_isRefused f_m_least f_m_packPounds f_m_packOwner f_m_room f_m_givenTo f_m_canBe f_m_setPounds f_m_plainTime f_m_muleTime f_m_planTo f_m_march f_m_tired f_m_ranMinutes f_m_tiredAhead f_m_isReached f_m_toEnd f_m_upTo f_m_upNext f_m_byChanges f_m_bandPaces s.heap.size i (by omega) hr_m_loadWeight hr_m_food (by omega)) (gi_V lwd_853 lwd_854 lwd_855 lwd_5 lwd_856) ⟨rfl, hd_X10_allPounds⟩ ⟨Nat.le_of_ble_eq_true rfl, Nat.le_of_ble_eq_true rfl⟩ rfl (Nat.le_of_ble_eq_true rfl) dX10_stagesOf_3) (fun r_2 u_1 H locs hw hP hD hS => ?_)
  try dsimp only at hw hP hD
  clear hw
  refine lv_iload_n hx hb dX10_stagesOf_6 rfl (lv_at hl 2 rfl) ?_
  refine lv_iadd hx hb dX10_stagesOf_7 ?_
  refine lv_topi (fun n_3 en_3 => ?_)
  refine lv_iconst (v := 1) hx hb dX10_stagesOf_8 (by decide) ?_
  refine lv_isub hx hb dX10_stagesOf_9 ?_
  refine lv_topi (fun n_4 en_4 => ?_)
  refine lv_iload_n hx hb dX10_stagesOf_10 rfl (lv_at hl 2 rfl) ?_
  refine lv_idiv hx hb dX10_stagesOf_11 (i_nz (rfl : n1.toInt = n1.toInt) (by omega)) ?_
  refine lv_topi (fun n_5 en_5 => ?_)
  refine xi hD hS hA (xV (As := [.int n_5]) (rest := []) hx hb hml hown hts hK hP hD hS hA NT_ok hN hAe hl.1 ⟨Nat.le_refl _, Nat.le_refl _⟩ 0 rfl rfl rfl (c_X10_partsPace l D cy hm v_taped v_walkers v_loads v_pieces v_changeCosts v_planned v_isMarch v_clauseMany v_place v_end v_bad v_clauses v_codes v_open v_stacked v_isOver v_isBehind v_atW v_atL v_atT v_atH v_atM v_atI v_atQ v_packing v_packed v_goPace v_goMinutes v_spentAt v_ranChanges f_m_tape f_m_knee f_m_weight f_m_isLame f_m_loadWeight f_m_owner f_m_food f_m_miles f_m_slope f_m_clauseLetter f_m_sumFrom f_m_codeFrom f_m_codeTo f_m_code f_m_codeArg f_m_newLetter f_m_newSum f_m_newFrom f_m_newTo f_m_newCode f_m_newArg f_m_stack f_m_worth f_m_isRefused f_m_least f_m_packPounds f_m_packOwner f_m_room f_m_givenTo f_m_canBe f_m_setPounds f_m_plainTime f_m_muleTime f_m_planTo f_m_march f_m_tired f_m_ranMinutes f_m_tiredAhead f_m_isReached f_m_toEnd f_m_upTo f_m_upNext f_m_byChanges f_m_bandPaces H.size n_5 (by omega)) (gi_V lwd_660 lwd_661 lwd_662 lwd_5 lwd_663) ⟨rfl, hd_X10_partsPace⟩ ⟨Nat.le_of_ble_eq_true rfl, Nat.le_of_ble_eq_true rfl⟩ rfl (Nat.le_of_ble_eq_true rfl) dX10_stagesOf_12) (fun r_7 u_6 H locs hw hP hD hS => ?_)
  try dsimp only at hw hP hD
  have p_8 := hw
  clear hw
  refine lv_istore_n (lv' := [(3, .int r_7), (0, .ref (hm 0)), (1, .int i), (2, .int n1)]) hx hb dX10_stagesOf_15 rfl hl (by decide) rfl (fun ls hl => ?_)
  refine lv_aload_n hx hb dX10_stagesOf_16 rfl (lv_at hl 1 rfl) ?_
  refine lv_aload_n hx hb dX10_stagesOf_17 rfl (lv_at hl 1 rfl) ?_
  refine xi hD hS hA (xV (As := []) (rest := [.ref (hm 0)]) hx hb hml hown hts hK hP hD hS hA NT_ok hN hAe hl.1 ⟨Nat.le_refl _, Nat.le_refl _⟩ 0 rfl rfl rfl (c_X10_everybody l D cy hm v_taped v_walkers v_loads v_pieces v_changeCosts v_planned v_isMarch v_clauseMany v_place v_end v_bad v_clauses v_codes v_open v_stacked v_isOver v_isBehind v_atW v_atL v_atT v_atH v_atM v_atI v_atQ v_packing v_packed v_goPace v_goMinutes v_spentAt v_ranChanges f_m_tape f_m_knee f_m_weight f_m_isLame f_m_loadWeight f_m_owner f_m_food f_m_miles f_m_slope f_m_clauseLetter f_m_sumFrom f_m_codeFrom f_m_codeTo f_m_code f_m_codeArg f_m_newLetter f_m_newSum f_m_newFrom f_m_newTo f_m_newCode f_m_newArg f_m_stack f_m_worth f_m_isRefused f_m_least f_m_packPounds f_m_packOwner f_m_room f_m_givenTo f_m_canBe f_m_setPounds f_m_plainTime f_m_muleTime f_m_planTo f_m_march f_m_tired f_m_ranMinutes f_m_tiredAhead f_m_isReached f_m_toEnd f_m_upTo f_m_upNext f_m_byChanges f_m_bandPaces H.size (by omega)) (gi_V lwd_736 lwd_737 lwd_738 lwd_5 lwd_739) ⟨rfl, hd_X10_everybody⟩ ⟨Nat.le_of_ble_eq_true rfl, Nat.le_of_ble_eq_true rfl⟩ rfl (Nat.le_of_ble_eq_true rfl) dX10_stagesOf_18) (fun r_10 u_9 H locs hw hP hD hS => ?_)
  try dsimp only at hw hP hD
  clear hw
  refine xi hD hS hA (xV (As := [.int r_10]) (rest := []) hx hb hml hown hts hK hP hD hS hA NT_ok hN hAe hl.1 ⟨Nat.le_refl _, Nat.le_refl _⟩ 0 rfl rfl rfl (c_X10_emptyPace l D cy hm v_taped v_walkers v_loads v_pieces v_changeCosts v_planned v_isMarch v_clauseMany v_place v_end v_bad v_clauses v_codes v_open v_stacked v_isOver v_isBehind v_atW v_atL v_atT v_atH v_atM v_atI v_atQ v_packing v_packed v_goPace v_goMinutes v_spentAt v_ranChanges f_m_tape f_m_knee f_m_weight f_m_isLame f_m_loadWeight f_m_owner f_m_food f_m_miles f_m_slope f_m_clauseLetter f_m_sumFrom f_m_codeFrom f_m_codeTo f_m_code f_m_codeArg f_m_newLetter f_m_newSum f_m_newFrom f_m_newTo f_m_newCode f_m_newArg f_m_stack f_m_worth f_m_isRefused f_m_least f_m_packPounds f_m_packOwner f_m_room f_m_givenTo f_m_canBe f_m_setPounds f_m_plainTime f_m_muleTime f_m_planTo f_m_march f_m_tired f_m_ranMinutes f_m_tiredAhead f_m_isReached f_m_toEnd f_m_upTo f_m_upNext f_m_byChanges f_m_bandPaces H.size r_10 (by omega)) (gi_V lwd_828 lwd_829 lwd_830 lwd_5 lwd_831) ⟨rfl, hd_X10_emptyPace⟩ ⟨Nat.le_of_ble_eq_true rfl, Nat.le_of_ble_eq_true rfl⟩ rfl (Nat.le_of_ble_eq_true rfl) dX10_stagesOf_21) (fun r_12 u_11 H locs hw hP hD hS => ?_)
  try dsimp only at hw hP hD
  clear hw
  refine lv_istore (lv' := [(4, .int r_12), (3, .int r_7), (0, .ref (hm 0)), (1, .int i), (2, .int n1)]) hx hb dX10_stagesOf_24 hl (by decide) rfl (fun ls hl => ?_)
  refine lv_iload_n hx hb dX10_stagesOf_26 rfl (lv_at hl 1 rfl) ?_
  refine lv_if_eq (tgt := 40) hx hb dX10_stagesOf_27 (by decide) (fun c_13 => ?_) (fun c_13 => ?_)
  · have gc_13 : r_7.toInt = 0 := i_eq (rfl : r_7.toInt = r_7.toInt) (by decide : (0 : Int32).toInt = 0) c_13
    refine lv_bipush (v := (-2)) hx hb dX10_stagesOf_40 (by decide) ?_
    have k_14 : ((-2) : Int32).toInt = (-2) := by decide
    exact hrt (-2)   hP hD hS rfl dX10_stagesOf_42
  · have gc_13 : r_7.toInt ≠ 0 := i_ne (rfl : r_7.toInt = r_7.toInt) (by decide : (0 : Int32).toInt = 0) c_13
    refine lv_iload_n hx hb dX10_stagesOf_30 rfl (lv_at hl 4 rfl) ?_
    refine lv_iconst (v := 1) hx hb dX10_stagesOf_31 (by decide) ?_
    refine lv_icmp_le (tgt := 43) hx hb dX10_stagesOf_32 (by decide) (fun c_15 => ?_) (fun c_15 => ?_)
    · have gc_15 : n1.toInt ≤ 1 := i_le (rfl : n1.toInt = n1.toInt) (by decide : (1 : Int32).toInt = 1) c_15
      refine lv_iload_n hx hb dX10_stagesOf_43 rfl (lv_at hl 4 rfl) ?_
      refine lv_aload_n hx hb dX10_stagesOf_44 rfl (lv_at hl 2 rfl) ?_
      refine lv_iload_n hx hb dX10_stagesOf_45 rfl (lv_at hl 3 rfl) ?_
      refine lv_iload_n hx hb dX10_stagesOf_46 rfl (lv_at hl 1 rfl) ?_
      refine xi hD hS hA (xV (As := [.int i, .int r_7]) (rest := [.int n1]) hx hb hml hown hts hK hP hD hS hA NT_ok hN hAe hl.1 ⟨Nat.le_refl _, Nat.le_refl _⟩ 0 rfl rfl rfl (c_X10_minutesOf l D cy hm v_taped v_walkers v_loads v_pieces v_changeCosts v_planned v_isMarch v_clauseMany v_place v_end v_bad v_clauses v_codes v_open v_stacked v_isOver v_isBehind v_atW v_atL v_atT v_atH v_atM v_atI v_atQ v_packing v_packed v_goPace v_goMinutes v_spentAt v_ranChanges f_m_tape f_m_knee f_m_weight f_m_isLame f_m_loadWeight f_m_owner f_m_food f_m_miles f_m_slope f_m_clauseLetter f_m_sumFrom f_m_codeFrom f_m_codeTo f_m_code f_m_codeArg f_m_newLetter f_m_newSum f_m_newFrom f_m_newTo f_m_newCode f_m_newArg f_m_stack f_m_worth f_m_isRefused f_m_least f_m_packPounds f_m_packOwner f_m_room f_m_givenTo f_m_canBe f_m_setPounds f_m_plainTime f_m_muleTime f_m_planTo f_m_march f_m_tired f_m_ranMinutes f_m_tiredAhead f_m_isReached f_m_toEnd f_m_upTo f_m_upNext f_m_byChanges f_m_bandPaces H.size i r_7 hr_m_miles (by omega) (by omega)) (gi_V lwd_668 lwd_669 lwd_670 lwd_5 lwd_671) ⟨rfl, hd_X10_minutesOf⟩ ⟨Nat.le_of_ble_eq_true rfl, Nat.le_of_ble_eq_true rfl⟩ rfl (Nat.le_of_ble_eq_true rfl) dX10_stagesOf_47) (fun r_17 u_16 H locs hw hP hD hS => ?_)
      try dsimp only at hw hP hD
      have p_18 := hw
      clear hw
      refine lv_imul hx hb dX10_stagesOf_50 ?_
      refine lv_topi (fun n_19 en_19 => ?_)
      refine lv_iload_n hx hb dX10_stagesOf_51 rfl (lv_at hl 4 rfl) ?_
      refine lv_iconst (v := 1) hx hb dX10_stagesOf_52 (by decide) ?_
      refine lv_icmp_le (tgt := 70) hx hb dX10_stagesOf_53 (by decide) (fun c_20 => ?_) (fun c_20 => ?_)
      · have gc_20 : n1.toInt ≤ 1 := i_le (rfl : n1.toInt = n1.toInt) (by decide : (1 : Int32).toInt = 1) c_20
        refine lv_iconst (v := 0) hx hb dX10_stagesOf_70 (by decide) ?_
        refine lv_iadd hx hb dX10_stagesOf_71 ?_
        have hb_21 := And.intro (i_bot n_19) (i_top n_19)
        refine lv_topi (fun n_22 en_22 => ?_)
        have tn_22 : n_22.toInt = n_19.toInt + 0 := i_add en_22 (rfl : n_19.toInt = n_19.toInt) (by decide : (0 : Int32).toInt = 0) (by omega) (by omega)
        exact hrt n_22   hP hD hS rfl dX10_stagesOf_72
      · have gc_20 : 1 < n1.toInt := i_nle (rfl : n1.toInt = n1.toInt) (by decide : (1 : Int32).toInt = 1) c_20
        exact absurd gc_20 (by omega)
    · have gc_15 : 1 < n1.toInt := i_nle (rfl : n1.toInt = n1.toInt) (by decide : (1 : Int32).toInt = 1) c_15
      refine lv_iload hx hb dX10_stagesOf_35 (lv_at hl 0 rfl) ?_
      refine lv_if_ne (tgt := 43) hx hb dX10_stagesOf_37 (by decide) (fun c_23 => ?_) (fun c_23 => ?_)
      · have gc_23 : r_12.toInt ≠ 0 := i_ne (rfl : r_12.toInt = r_12.toInt) (by decide : (0 : Int32).toInt = 0) c_23
        refine lv_iload_n hx hb dX10_stagesOf_43 rfl (lv_at hl 4 rfl) ?_
        refine lv_aload_n hx hb dX10_stagesOf_44 rfl (lv_at hl 2 rfl) ?_
        refine lv_iload_n hx hb dX10_stagesOf_45 rfl (lv_at hl 3 rfl) ?_
        refine lv_iload_n hx hb dX10_stagesOf_46 rfl (lv_at hl 1 rfl) ?_
        refine xi hD hS hA (xV (As := [.int i, .int r_7]) (rest := [.int n1]) hx hb hml hown hts hK hP hD hS hA NT_ok hN hAe hl.1 ⟨Nat.le_refl _, Nat.le_refl _⟩ 0 rfl rfl rfl (c_X10_minutesOf l D cy hm v_taped v_walkers v_loads v_pieces v_changeCosts v_planned v_isMarch v_clauseMany v_place v_end v_bad v_clauses v_codes v_open v_stacked v_isOver v_isBehind v_atW v_atL v_atT v_atH v_atM v_atI v_atQ v_packing v_packed v_goPace v_goMinutes v_spentAt v_ranChanges f_m_tape f_m_knee f_m_weight f_m_isLame f_m_loadWeight f_m_owner f_m_food f_m_miles f_m_slope f_m_clauseLetter f_m_sumFrom f_m_codeFrom f_m_codeTo f_m_code f_m_codeArg f_m_newLetter f_m_newSum f_m_newFrom f_m_newTo f_m_newCode f_m_newArg f_m_stack f_m_worth f_m_isRefused f_m_least f_m_packPounds f_m_packOwner f_m_room f_m_givenTo f_m_canBe f_m_setPounds f_m_plainTime f_m_muleTime f_m_planTo f_m_march f_m_tired f_m_ranMinutes f_m_tiredAhead f_m_isReached f_m_toEnd f_m_upTo f_m_upNext f_m_byChanges f_m_bandPaces H.size i r_7 hr_m_miles (by omega) (by omega)) (gi_V lwd_668 lwd_669 lwd_670 lwd_5 lwd_671) ⟨rfl, hd_X10_minutesOf⟩ ⟨Nat.le_of_ble_eq_true rfl, Nat.le_of_ble_eq_true rfl⟩ rfl (Nat.le_of_ble_eq_true rfl) dX10_stagesOf_47) (fun r_25 u_24 H locs hw hP hD hS => ?_)
        try dsimp only at hw hP hD
        have p_26 := hw
        clear hw
        refine lv_imul hx hb dX10_stagesOf_50 ?_
        refine lv_topi (fun n_27 en_27 => ?_)
        refine lv_iload_n hx hb dX10_stagesOf_51 rfl (lv_at hl 4 rfl) ?_
        refine lv_iconst (v := 1) hx hb dX10_stagesOf_52 (by decide) ?_
        refine lv_icmp_le (tgt := 70) hx hb dX10_stagesOf_53 (by decide) (fun c_28 => ?_) (fun c_28 => ?_)
        · have gc_28 : n1.toInt ≤ 1 := i_le (rfl : n1.toInt = n1.toInt) (by decide : (1 : Int32).toInt = 1) c_28
          exact absurd gc_28 (by omega)
        · have gc_28 : 1 < n1.toInt := i_nle (rfl : n1.toInt = n1.toInt) (by decide : (1 : Int32).toInt = 1) c_28
          refine lv_iload_n hx hb dX10_stagesOf_56 rfl (lv_at hl 4 rfl) ?_
          refine lv_iconst (v := 1) hx hb dX10_stagesOf_57 (by decide) ?_
          refine lv_isub hx hb dX10_stagesOf_58 ?_
          refine lv_topi (fun n_29 en_29 => ?_)
          have tn_29 : n_29.toInt = n1.toInt - 1 := i_sub en_29 (rfl : n1.toInt = n1.toInt) (by decide : (1 : Int32).toInt = 1) (by omega) (by omega)
          refine lv_aload_n hx hb dX10_stagesOf_59 rfl (lv_at hl 2 rfl) ?_
          refine lv_iload_n hx hb dX10_stagesOf_60 rfl (lv_at hl 3 rfl) ?_
          refine lv_iload hx hb dX10_stagesOf_61 (lv_at hl 0 rfl) ?_
          refine xi hD hS hA (xV (As := [.int i, .int r_12]) (rest := [.int n_29, .int n_27]) hx hb hml hown hts hK hP hD hS hA NT_ok hN hAe hl.1 ⟨Nat.le_refl _, Nat.le_refl _⟩ 0 rfl rfl rfl (c_X10_minutesOf l D cy hm v_taped v_walkers v_loads v_pieces v_changeCosts v_planned v_isMarch v_clauseMany v_place v_end v_bad v_clauses v_codes v_open v_stacked v_isOver v_isBehind v_atW v_atL v_atT v_atH v_atM v_atI v_atQ v_packing v_packed v_goPace v_goMinutes v_spentAt v_ranChanges f_m_tape f_m_knee f_m_weight f_m_isLame f_m_loadWeight f_m_owner f_m_food f_m_miles f_m_slope f_m_clauseLetter f_m_sumFrom f_m_codeFrom f_m_codeTo f_m_code f_m_codeArg f_m_newLetter f_m_newSum f_m_newFrom f_m_newTo f_m_newCode f_m_newArg f_m_stack f_m_worth f_m_isRefused f_m_least f_m_packPounds f_m_packOwner f_m_room f_m_givenTo f_m_canBe f_m_setPounds f_m_plainTime f_m_muleTime f_m_planTo f_m_march f_m_tired f_m_ranMinutes f_m_tiredAhead f_m_isReached f_m_toEnd f_m_upTo f_m_upNext f_m_byChanges f_m_bandPaces H.size i r_12 hr_m_miles (by omega) (by omega)) (gi_V lwd_668 lwd_669 lwd_670 lwd_5 lwd_671) ⟨rfl, hd_X10_minutesOf⟩ ⟨Nat.le_of_ble_eq_true rfl, Nat.le_of_ble_eq_true rfl⟩ rfl (Nat.le_of_ble_eq_true rfl) dX10_stagesOf_63) (fun r_31 u_30 H locs hw hP hD hS => ?_)
          try dsimp only at hw hP hD
          have p_32 := hw
          clear hw
          refine lv_imul hx hb dX10_stagesOf_66 ?_
          refine lv_topi (fun n_33 en_33 => ?_)
          refine lv_goto (tgt := 71) hx hb dX10_stagesOf_67 (by decide) ?_
          refine lv_iadd hx hb dX10_stagesOf_71 ?_
          refine lv_topi (fun n_34 en_34 => ?_)
          exact hrt n_34   hP hD hS rfl dX10_stagesOf_72
      · have gc_23 : r_12.toInt = 0 := i_eq (rfl : r_12.toInt = r_12.toInt) (by decide : (0 : Int32).toInt = 0) c_23
        refine lv_bipush (v := (-2)) hx hb dX10_stagesOf_40 (by decide) ?_
        have k_35 : ((-2) : Int32).toInt = (-2) := by decide
        exact hrt (-2)   hP hD hS rfl dX10_stagesOf_42
set_option maxHeartbeats 16000000 in
set_option maxRecDepth 100000 in
theorem c_X10_stages (l : Launch) (D : va_G) (cy : Nat → ClassId) (hm : Nat → Nat) (v_taped v_walkers v_loads v_pieces v_changeCosts v_planned v_isMarch v_clauseMany v_place v_end v_bad v_clauses v_codes v_open v_stacked v_isOver v_isBehind v_atW v_atL v_atT v_atH v_atM v_atI v_atQ v_packing v_packed v_goPace v_goMinutes v_spentAt v_ranChanges : Int32) (f_m_tape f_m_knee f_m_weight f_m_isLame f_m_loadWeight f_m_owner f_m_food f_m_miles f_m_slope f_m_clauseLetter f_m_sumFrom f_m_codeFrom f_m_codeTo f_m_code f_m_codeArg f_m_newLetter f_m_newSum f_m_newFrom f_m_newTo f_m_newCode f_m_newArg f_m_stack f_m_worth f_m_isRefused f_m_least f_m_packPounds f_m_packOwner f_m_room f_m_givenTo f_m_canBe f_m_setPounds f_m_plainTime f_m_muleTime f_m_planTo f_m_march f_m_tired f_m_ranMinutes f_m_tiredAhead f_m_isReached f_m_toEnd f_m_upTo f_m_upNext f_m_byChanges f_m_bandPaces : Nat → Int32) (sz : Nat) (i : Int32) (all : Int32) (n1 : Int32) (hb_v_walkers : 0 ≤ v_walkers.toInt ∧ v_walkers.toInt ≤ 6) (hb_v_loads : 0 ≤ v_loads.toInt ∧ v_loads.toInt ≤ 9) (hb_v_pieces : 0 ≤ v_pieces.toInt ∧ v_pieces.toInt ≤ 10) (hb_v_clauseMany : 0 ≤ v_clauseMany.toInt ∧ v_clauseMany.toInt ≤ 14) (hb_v_atW : 0 ≤ v_atW.toInt ∧ v_atW.toInt ≤ 5) (hr_m_weight : rg (0) 250 f_m_weight) (hr_m_isLame : rg (0) 1 f_m_isLame) (hr_m_loadWeight : rg (0) 120 f_m_loadWeight) (hr_m_food : rg (0) 20 f_m_food) (hr_m_miles : rg (0) 20 f_m_miles) (hr_m_isRefused : rg (0) 1 f_m_isRefused) (hwf : wfC v_clauseMany f_m_sumFrom f_m_codeFrom f_m_codeTo f_m_code) : gMi l yX10_stages cX10_stages 4 .int 8 [.ref (hm 0), .int i, .int all, .int n1] D cy (wMD cy hm v_taped v_walkers v_loads v_pieces v_changeCosts v_planned v_isMarch v_clauseMany v_place v_end v_bad v_clauses v_codes v_open v_stacked v_isOver v_isBehind v_atW v_atL v_atT v_atH v_atM v_atI v_atQ v_packing v_packed v_goPace v_goMinutes v_spentAt v_ranChanges f_m_tape f_m_knee f_m_weight f_m_isLame f_m_loadWeight f_m_owner f_m_food f_m_miles f_m_slope f_m_clauseLetter f_m_sumFrom f_m_codeFrom f_m_codeTo f_m_code f_m_codeArg f_m_newLetter f_m_newSum f_m_newFrom f_m_newTo f_m_newCode f_m_newArg f_m_stack f_m_worth f_m_isRefused f_m_least f_m_packPounds f_m_packOwner f_m_room f_m_givenTo f_m_canBe f_m_setPounds f_m_plainTime f_m_muleTime f_m_planTo f_m_march f_m_tired f_m_ranMinutes f_m_tiredAhead f_m_isReached f_m_toEnd f_m_upTo f_m_upNext f_m_byChanges f_m_bandPaces) NT sz (fun (r : Int32) (u : Int32 × Int32 × Int32 × Int32 × Int32 × Int32 × Int32 × (Nat → Int32) × (Nat → Int32) × (Nat → Int32)) => (0 ≤ (u.1).toInt ∧ (u.1).toInt ≤ 5) ∧ (rg (0) 1 (u.2.2.2.2.2.2.2.2.1))) (fun u => wMD cy hm v_taped v_walkers v_loads v_pieces v_changeCosts v_planned v_isMarch v_clauseMany v_place v_end v_bad v_clauses v_codes v_open v_stacked v_isOver v_isBehind (u.1) (u.2.1) (u.2.2.1) (u.2.2.2.1) (u.2.2.2.2.1) (u.2.2.2.2.2.1) (u.2.2.2.2.2.2.1) v_packing v_packed v_goPace v_goMinutes v_spentAt v_ranChanges f_m_tape f_m_knee f_m_weight f_m_isLame f_m_loadWeight f_m_owner f_m_food f_m_miles f_m_slope f_m_clauseLetter f_m_sumFrom f_m_codeFrom f_m_codeTo f_m_code f_m_codeArg f_m_newLetter f_m_newSum f_m_newFrom f_m_newTo f_m_newCode f_m_newArg f_m_stack (u.2.2.2.2.2.2.2.1) (u.2.2.2.2.2.2.2.2.1) (u.2.2.2.2.2.2.2.2.2) f_m_packPounds f_m_packOwner f_m_room f_m_givenTo f_m_canBe f_m_setPounds f_m_plainTime f_m_muleTime f_m_planTo f_m_march f_m_tired f_m_ranMinutes f_m_tiredAhead f_m_isReached f_m_toEnd f_m_upTo f_m_upNext f_m_byChanges f_m_bandPaces) := by
  refine gMi_in (by decide) (Nat.le_of_ble_eq_true rfl) ?_
  intro p e s m args below meth c A ls Q hx hb hml hts hown hsz hP hK hD hN hAe hA hS hl hret
  subst hsz
  have hl : lv_has ls 4 [(0, .ref (hm 0)), (1, .int i), (2, .int all), (3, .int n1)] := hl
  have hrt := fun (r : Int32) (v_atW' : Int32) (v_atL' : Int32) (v_atT' : Int32) (v_atH' : Int32) (v_atM' : Int32) (v_atI' : Int32) (v_atQ' : Int32) (f_m_worth' : Nat → Int32) (f_m_isRefused' : Nat → Int32) (f_m_least' : Nat → Int32) (hp : (0 ≤ v_atW'.toInt ∧ v_atW'.toInt ≤ 5) ∧ (rg (0) 1 f_m_isRefused')) {H : Heap} {locs : List Loc} {pc : Nat} {ls : Array Slot} => hret r (v_atW', v_atL', v_atT', v_atH', v_atM', v_atI', v_atQ', f_m_worth', f_m_isRefused', f_m_least') (H := H) (locs := locs) (pc := pc) (ls := ls) hp
  clear hret
  refine lv_aload_n hx hb dX10_stages_0 rfl (lv_at hl 0 rfl) ?_
  refine lv_iload_n hx hb dX10_stages_1 rfl (lv_at hl 1 rfl) ?_
  refine lv_iload_n hx hb dX10_stages_2 rfl (lv_at hl 2 rfl) ?_
  refine xi hD hS hA (xV (As := [.int i, .int all]) (rest := []) hx hb hml hown hts hK hP hD hS hA NT_ok hN hAe hl.1 ⟨Nat.le_refl _, Nat.le_refl _⟩ 0 rfl rfl rfl (c_X10_canAsk l D cy hm v_taped v_walkers v_loads v_pieces v_changeCosts v_planned v_isMarch v_clauseMany v_place v_end v_bad v_clauses v_codes v_open v_stacked v_isOver v_isBehind v_atW v_atL v_atT v_atH v_atM v_atI v_atQ v_packing v_packed v_goPace v_goMinutes v_spentAt v_ranChanges f_m_tape f_m_knee f_m_weight f_m_isLame f_m_loadWeight f_m_owner f_m_food f_m_miles f_m_slope f_m_clauseLetter f_m_sumFrom f_m_codeFrom f_m_codeTo f_m_code f_m_codeArg f_m_newLetter f_m_newSum f_m_newFrom f_m_newTo f_m_newCode f_m_newArg f_m_stack f_m_worth f_m_isRefused f_m_least f_m_packPounds f_m_packOwner f_m_room f_m_givenTo f_m_canBe f_m_setPounds f_m_plainTime f_m_muleTime f_m_planTo f_m_march f_m_tired f_m_ranMinutes f_m_tiredAhead f_m_isReached f_m_toEnd f_m_upTo f_m_upNext f_m_byChanges f_m_bandPaces s.heap.size i all (by omega) (by omega)) (gi_V lwd_645 lwd_646 lwd_647 lwd_5 lwd_648) ⟨rfl, hd_X10_canAsk⟩ ⟨Nat.le_of_ble_eq_true rfl, Nat.le_of_ble_eq_true rfl⟩ rfl (Nat.le_of_ble_eq_true rfl) dX10_stages_3) (fun r_2 u_1 H locs hw hP hD hS => ?_)
  try dsimp only at hw hP hD
  obtain ⟨p_3, p_4⟩ := hw
  refine lv_if_eq (tgt := 21) hx hb dX10_stages_6 (by decide) (fun c_5 => ?_) (fun c_5 => ?_)
  · have gc_5 : r_2.toInt = 0 := i_eq (rfl : r_2.toInt = r_2.toInt) (by decide : (0 : Int32).toInt = 0) c_5
    refine lv_iconst (v := (-1)) hx hb dX10_stages_21 (by decide) ?_
    have k_6 : ((-1) : Int32).toInt = (-1) := by decide
    exact hrt (-1) v_atW v_atL v_atT v_atH v_atM v_atI v_atQ f_m_worth f_m_isRefused f_m_least ⟨(by omega), hr_m_isRefused⟩ hP hD hS rfl dX10_stages_22
  · have gc_5 : r_2.toInt ≠ 0 := i_ne (rfl : r_2.toInt = r_2.toInt) (by decide : (0 : Int32).toInt = 0) c_5
    refine lv_iload_n hx hb dX10_stages_9 rfl (lv_at hl 3 rfl) ?_
    refine lv_i2l (v := n1.toInt64) hx hb dX10_stages_10 rfl ?_
    have hl_7 : n1.toInt64.toInt = n1.toInt := i_l (rfl : n1.toInt = n1.toInt)
    refine lv_lconst (v := 1) hx hb dX10_stages_11 (by decide) ?_
    refine lv_ldc2 hx hb hown (hts _ lwd_548) dX10_stages_12 ?_
    have k_8 : (1 : Int64).toInt = 1 := by decide
    have k_9 : (5 : Int64).toInt = 5 := by decide
    refine xi hD hS hA (xS (As := [.long n1.toInt64, .long 1, .long 5]) (rest := []) hx hb hml hown hts hK hP hD hS hA NT_ok hN hAe hl.1 ⟨Nat.le_refl _, Nat.le_refl _⟩ (c_X10_lies l D cy hm v_taped v_walkers v_loads v_pieces v_changeCosts v_planned v_isMarch v_clauseMany v_place v_end v_bad v_clauses v_codes v_open v_stacked v_isOver v_isBehind v_atW v_atL v_atT v_atH v_atM v_atI v_atQ v_packing v_packed v_goPace v_goMinutes v_spentAt v_ranChanges f_m_tape f_m_knee f_m_weight f_m_isLame f_m_loadWeight f_m_owner f_m_food f_m_miles f_m_slope f_m_clauseLetter f_m_sumFrom f_m_codeFrom f_m_codeTo f_m_code f_m_codeArg f_m_newLetter f_m_newSum f_m_newFrom f_m_newTo f_m_newCode f_m_newArg f_m_stack f_m_worth f_m_isRefused f_m_least f_m_packPounds f_m_packOwner f_m_room f_m_givenTo f_m_canBe f_m_setPounds f_m_plainTime f_m_muleTime f_m_planTo f_m_march f_m_tired f_m_ranMinutes f_m_tiredAhead f_m_isReached f_m_toEnd f_m_upTo f_m_upNext f_m_byChanges f_m_bandPaces H.size n1.toInt64 1 5) (gi_S lwd_226 lwd_227 lwd_5 lwd_228) hd_X10_lies ⟨Nat.le_of_ble_eq_true rfl, Nat.le_of_ble_eq_true rfl⟩ rfl (Nat.le_of_ble_eq_true rfl) dX10_stages_15) (fun r_11 u_10 H locs hw hP hD hS => ?_)
    try dsimp only at hw hP hD
    obtain ⟨p_12, p_13⟩ := hw
    refine lv_if_ne (tgt := 23) hx hb dX10_stages_18 (by decide) (fun c_14 => ?_) (fun c_14 => ?_)
    · have gc_14 : r_11.toInt ≠ 0 := i_ne (rfl : r_11.toInt = r_11.toInt) (by decide : (0 : Int32).toInt = 0) c_14
      refine lv_aload_n hx hb dX10_stages_23 rfl (lv_at hl 0 rfl) ?_
      refine lv_iload_n hx hb dX10_stages_24 rfl (lv_at hl 1 rfl) ?_
      refine lv_iload_n hx hb dX10_stages_25 rfl (lv_at hl 2 rfl) ?_
      refine xv hD hS hA (xV (As := [.int i, .int all]) (rest := []) hx hb hml hown hts hK hP hD hS hA NT_ok hN hAe hl.1 ⟨Nat.le_refl _, Nat.le_refl _⟩ 0 rfl rfl rfl (c_X10_lays l D cy hm v_taped v_walkers v_loads v_pieces v_changeCosts v_planned v_isMarch v_clauseMany v_place v_end v_bad v_clauses v_codes v_open v_stacked v_isOver v_isBehind v_atW v_atL v_atT v_atH v_atM v_atI v_atQ v_packing v_packed v_goPace v_goMinutes v_spentAt v_ranChanges f_m_tape f_m_knee f_m_weight f_m_isLame f_m_loadWeight f_m_owner f_m_food f_m_miles f_m_slope f_m_clauseLetter f_m_sumFrom f_m_codeFrom f_m_codeTo f_m_code f_m_codeArg f_m_newLetter f_m_newSum f_m_newFrom f_m_newTo f_m_newCode f_m_newArg f_m_stack f_m_worth f_m_isRefused f_m_least f_m_packPounds f_m_packOwner f_m_room f_m_givenTo f_m_canBe f_m_setPounds f_m_plainTime f_m_muleTime f_m_planTo f_m_march f_m_tired f_m_ranMinutes f_m_tiredAhead f_m_isReached f_m_toEnd f_m_upTo f_m_upNext f_m_byChanges f_m_bandPaces H.size i all (by omega) (by omega) (by omega) hr_m_weight hr_m_isLame hr_m_miles hr_m_isRefused (by omega) (by omega) hwf) (gi_V lwd_653 lwd_654 lwd_655 lwd_5 lwd_656) ⟨rfl, hd_X10_lays⟩ ⟨Nat.le_of_ble_eq_true rfl, Nat.le_of_ble_eq_true rfl⟩ rfl (Nat.le_of_ble_eq_true rfl) dX10_stages_26) (fun u_15 H locs hw hP hD hS => ?_)
      obtain ⟨zatW_17, zatL_18, zatT_19, zatH_20, zatM_21, zatI_22, zatQ_23, zworth_24, zisRefused_25, zleast_26⟩ := u_15
      try dsimp only at hw hP hD
      obtain ⟨p_27, p_28⟩ := hw
      refine lv_aload_n hx hb dX10_stages_29 rfl (lv_at hl 0 rfl) ?_
      refine lv_iload_n hx hb dX10_stages_30 rfl (lv_at hl 1 rfl) ?_
      refine lv_iload_n hx hb dX10_stages_31 rfl (lv_at hl 3 rfl) ?_
      refine xi hD hS hA (xV (As := [.int i, .int n1]) (rest := []) hx hb hml hown hts hK hP hD hS hA NT_ok hN hAe hl.1 ⟨Nat.le_refl _, Nat.le_refl _⟩ 0 rfl rfl rfl (c_X10_stagesOf l D cy hm v_taped v_walkers v_loads v_pieces v_changeCosts v_planned v_isMarch v_clauseMany v_place v_end v_bad v_clauses v_codes v_open v_stacked v_isOver v_isBehind zatW_17 zatL_18 zatT_19 zatH_20 zatM_21 zatI_22 zatQ_23 v_packing v_packed v_goPace v_goMinutes v_spentAt v_ranChanges f_m_tape f_m_knee f_m_weight f_m_isLame f_m_loadWeight f_m_owner f_m_food f_m_miles f_m_slope f_m_clauseLetter f_m_sumFrom f_m_codeFrom f_m_codeTo f_m_code f_m_codeArg f_m_newLetter f_m_newSum f_m_newFrom f_m_newTo f_m_newCode f_m_newArg f_m_stack zworth_24 zisRefused_25 zleast_26 f_m_packPounds f_m_packOwner f_m_room f_m_givenTo f_m_canBe f_m_setPounds f_m_plainTime f_m_muleTime f_m_planTo f_m_march f_m_tired f_m_ranMinutes f_m_tiredAhead f_m_isReached f_m_toEnd f_m_upTo f_m_upNext f_m_byChanges f_m_bandPaces H.size i n1 (by omega) (by omega) hr_m_loadWeight hr_m_food hr_m_miles (by omega) (by omega)) (gi_V lwd_849 lwd_850 lwd_851 lwd_5 lwd_852) ⟨rfl, hd_X10_stagesOf⟩ ⟨Nat.le_of_ble_eq_true rfl, Nat.le_of_ble_eq_true rfl⟩ rfl (Nat.le_of_ble_eq_true rfl) dX10_stages_32) (fun r_30 u_29 H locs hw hP hD hS => ?_)
      try dsimp only at hw hP hD
      clear hw
      exact hrt r_30 zatW_17 zatL_18 zatT_19 zatH_20 zatM_21 zatI_22 zatQ_23 zworth_24 zisRefused_25 zleast_26 ⟨(by omega), p_28⟩ hP hD hS rfl dX10_stages_35
    · have gc_14 : r_11.toInt = 0 := i_eq (rfl : r_11.toInt = r_11.toInt) (by decide : (0 : Int32).toInt = 0) c_14
      refine lv_iconst (v := (-1)) hx hb dX10_stages_21 (by decide) ?_
      have k_31 : ((-1) : Int32).toInt = (-1) := by decide
      exact hrt (-1) v_atW v_atL v_atT v_atH v_atM v_atI v_atQ f_m_worth f_m_isRefused f_m_least ⟨(by omega), hr_m_isRefused⟩ hP hD hS rfl dX10_stages_22
set_option maxHeartbeats 16000000 in
set_option maxRecDepth 100000 in
theorem c_X10_goes (l : Launch) (D : va_G) (cy : Nat → ClassId) (hm : Nat → Nat) (v_taped v_walkers v_loads v_pieces v_changeCosts v_planned v_isMarch v_clauseMany v_place v_end v_bad v_clauses v_codes v_open v_stacked v_isOver v_isBehind v_atW v_atL v_atT v_atH v_atM v_atI v_atQ v_packing v_packed v_goPace v_goMinutes v_spentAt v_ranChanges : Int32) (f_m_tape f_m_knee f_m_weight f_m_isLame f_m_loadWeight f_m_owner f_m_food f_m_miles f_m_slope f_m_clauseLetter f_m_sumFrom f_m_codeFrom f_m_codeTo f_m_code f_m_codeArg f_m_newLetter f_m_newSum f_m_newFrom f_m_newTo f_m_newCode f_m_newArg f_m_stack f_m_worth f_m_isRefused f_m_least f_m_packPounds f_m_packOwner f_m_room f_m_givenTo f_m_canBe f_m_setPounds f_m_plainTime f_m_muleTime f_m_planTo f_m_march f_m_tired f_m_ranMinutes f_m_tiredAhead f_m_isReached f_m_toEnd f_m_upTo f_m_upNext f_m_byChanges f_m_bandPaces : Nat → Int32) (sz : Nat) (i : Int32) (all : Int32) (hb_v_walkers : 0 ≤ v_walkers.toInt ∧ v_walkers.toInt ≤ 6) (hb_v_loads : 0 ≤ v_loads.toInt ∧ v_loads.toInt ≤ 9) (hb_v_pieces : 0 ≤ v_pieces.toInt ∧ v_pieces.toInt ≤ 10) (hb_v_clauseMany : 0 ≤ v_clauseMany.toInt ∧ v_clauseMany.toInt ≤ 14) (hb_v_atW : 0 ≤ v_atW.toInt ∧ v_atW.toInt ≤ 5) (hr_m_weight : rg (0) 250 f_m_weight) (hr_m_isLame : rg (0) 1 f_m_isLame) (hr_m_loadWeight : rg (0) 120 f_m_loadWeight) (hr_m_food : rg (0) 20 f_m_food) (hr_m_miles : rg (0) 20 f_m_miles) (hr_m_isRefused : rg (0) 1 f_m_isRefused) (hwf : wfC v_clauseMany f_m_sumFrom f_m_codeFrom f_m_codeTo f_m_code) : gMi l yX10_goes cX10_goes 7 .int 8 [.ref (hm 0), .int i, .int all] D cy (wMD cy hm v_taped v_walkers v_loads v_pieces v_changeCosts v_planned v_isMarch v_clauseMany v_place v_end v_bad v_clauses v_codes v_open v_stacked v_isOver v_isBehind v_atW v_atL v_atT v_atH v_atM v_atI v_atQ v_packing v_packed v_goPace v_goMinutes v_spentAt v_ranChanges f_m_tape f_m_knee f_m_weight f_m_isLame f_m_loadWeight f_m_owner f_m_food f_m_miles f_m_slope f_m_clauseLetter f_m_sumFrom f_m_codeFrom f_m_codeTo f_m_code f_m_codeArg f_m_newLetter f_m_newSum f_m_newFrom f_m_newTo f_m_newCode f_m_newArg f_m_stack f_m_worth f_m_isRefused f_m_least f_m_packPounds f_m_packOwner f_m_room f_m_givenTo f_m_canBe f_m_setPounds f_m_plainTime f_m_muleTime f_m_planTo f_m_march f_m_tired f_m_ranMinutes f_m_tiredAhead f_m_isReached f_m_toEnd f_m_upTo f_m_upNext f_m_byChanges f_m_bandPaces) NT sz (fun (r : Int32) (u : Int32 × Int32 × Int32 × Int32 × Int32 × Int32 × Int32 × (Nat → Int32) × (Nat → Int32) × (Nat → Int32)) => (0 ≤ (u.1).toInt ∧ (u.1).toInt ≤ 5) ∧ (rg (0) 1 (u.2.2.2.2.2.2.2.2.1))) (fun u => wMD cy hm v_taped v_walkers v_loads v_pieces v_changeCosts v_planned v_isMarch v_clauseMany v_place v_end v_bad v_clauses v_codes v_open v_stacked v_isOver v_isBehind (u.1) (u.2.1) (u.2.2.1) (u.2.2.2.1) (u.2.2.2.2.1) (u.2.2.2.2.2.1) (u.2.2.2.2.2.2.1) v_packing v_packed v_goPace v_goMinutes v_spentAt v_ranChanges f_m_tape f_m_knee f_m_weight f_m_isLame f_m_loadWeight f_m_owner f_m_food f_m_miles f_m_slope f_m_clauseLetter f_m_sumFrom f_m_codeFrom f_m_codeTo f_m_code f_m_codeArg f_m_newLetter f_m_newSum f_m_newFrom f_m_newTo f_m_newCode f_m_newArg f_m_stack (u.2.2.2.2.2.2.2.1) (u.2.2.2.2.2.2.2.2.1) (u.2.2.2.2.2.2.2.2.2) f_m_packPounds f_m_packOwner f_m_room f_m_givenTo f_m_canBe f_m_setPounds f_m_plainTime f_m_muleTime f_m_planTo f_m_march f_m_tired f_m_ranMinutes f_m_tiredAhead f_m_isReached f_m_toEnd f_m_upTo f_m_upNext f_m_byChanges f_m_bandPaces) := by
  refine gMi_in (by decide) (Nat.le_of_ble_eq_true rfl) ?_
  intro p e s m args below meth c A ls Q hx hb hml hts hown hsz hP hK hD hN hAe hA hS hl hret
  subst hsz
  have hl : lv_has ls 7 [(0, .ref (hm 0)), (1, .int i), (2, .int all)] := hl
  have hrt := fun (r : Int32) (v_atW' : Int32) (v_atL' : Int32) (v_atT' : Int32) (v_atH' : Int32) (v_atM' : Int32) (v_atI' : Int32) (v_atQ' : Int32) (f_m_worth' : Nat → Int32) (f_m_isRefused' : Nat → Int32) (f_m_least' : Nat → Int32) (hp : (0 ≤ v_atW'.toInt ∧ v_atW'.toInt ≤ 5) ∧ (rg (0) 1 f_m_isRefused')) {H : Heap} {locs : List Loc} {pc : Nat} {ls : Array Slot} => hret r (v_atW', v_atL', v_atT', v_atH', v_atM', v_atI', v_atQ', f_m_worth', f_m_isRefused', f_m_least') (H := H) (locs := locs) (pc := pc) (ls := ls) hp
  clear hret
  refine lv_aload_n hx hb dX10_goes_0 rfl (lv_at hl 0 rfl) ?_
  refine lv_iload_n hx hb dX10_goes_1 rfl (lv_at hl 1 rfl) ?_
  refine lv_iload_n hx hb dX10_goes_2 rfl (lv_at hl 2 rfl) ?_
  refine xi hD hS hA (xV (As := [.int i, .int all]) (rest := []) hx hb hml hown hts hK hP hD hS hA NT_ok hN hAe hl.1 ⟨Nat.le_refl _, Nat.le_refl _⟩ 0 rfl rfl rfl (c_X10_canAsk l D cy hm v_taped v_walkers v_loads v_pieces v_changeCosts v_planned v_isMarch v_clauseMany v_place v_end v_bad v_clauses v_codes v_open v_stacked v_isOver v_isBehind v_atW v_atL v_atT v_atH v_atM v_atI v_atQ v_packing v_packed v_goPace v_goMinutes v_spentAt v_ranChanges f_m_tape f_m_knee f_m_weight f_m_isLame f_m_loadWeight f_m_owner f_m_food f_m_miles f_m_slope f_m_clauseLetter f_m_sumFrom f_m_codeFrom f_m_codeTo f_m_code f_m_codeArg f_m_newLetter f_m_newSum f_m_newFrom f_m_newTo f_m_newCode f_m_newArg f_m_stack f_m_worth f_m_isRefused f_m_least f_m_packPounds f_m_packOwner f_m_room f_m_givenTo f_m_canBe f_m_setPounds f_m_plainTime f_m_muleTime f_m_planTo f_m_march f_m_tired f_m_ranMinutes f_m_tiredAhead f_m_isReached f_m_toEnd f_m_upTo f_m_upNext f_m_byChanges f_m_bandPaces s.heap.size i all (by omega) (by omega)) (gi_V lwd_645 lwd_646 lwd_647 lwd_5 lwd_648) ⟨rfl, hd_X10_canAsk⟩ ⟨Nat.le_of_ble_eq_true rfl, Nat.le_of_ble_eq_true rfl⟩ rfl (Nat.le_of_ble_eq_true rfl) dX10_goes_3) (fun r_2 u_1 H locs hw hP hD hS => ?_)
  try dsimp only at hw hP hD
  obtain ⟨p_3, p_4⟩ := hw
  refine lv_if_ne (tgt := 11) hx hb dX10_goes_6 (by decide) (fun c_5 => ?_) (fun c_5 => ?_)
  · have gc_5 : r_2.toInt ≠ 0 := i_ne (rfl : r_2.toInt = r_2.toInt) (by decide : (0 : Int32).toInt = 0) c_5
    refine lv_aload_n hx hb dX10_goes_11 rfl (lv_at hl 0 rfl) ?_
    refine lv_iload_n hx hb dX10_goes_12 rfl (lv_at hl 1 rfl) ?_
    refine lv_iload_n hx hb dX10_goes_13 rfl (lv_at hl 2 rfl) ?_
    refine xv hD hS hA (xV (As := [.int i, .int all]) (rest := []) hx hb hml hown hts hK hP hD hS hA NT_ok hN hAe hl.1 ⟨Nat.le_refl _, Nat.le_refl _⟩ 0 rfl rfl rfl (c_X10_lays l D cy hm v_taped v_walkers v_loads v_pieces v_changeCosts v_planned v_isMarch v_clauseMany v_place v_end v_bad v_clauses v_codes v_open v_stacked v_isOver v_isBehind v_atW v_atL v_atT v_atH v_atM v_atI v_atQ v_packing v_packed v_goPace v_goMinutes v_spentAt v_ranChanges f_m_tape f_m_knee f_m_weight f_m_isLame f_m_loadWeight f_m_owner f_m_food f_m_miles f_m_slope f_m_clauseLetter f_m_sumFrom f_m_codeFrom f_m_codeTo f_m_code f_m_codeArg f_m_newLetter f_m_newSum f_m_newFrom f_m_newTo f_m_newCode f_m_newArg f_m_stack f_m_worth f_m_isRefused f_m_least f_m_packPounds f_m_packOwner f_m_room f_m_givenTo f_m_canBe f_m_setPounds f_m_plainTime f_m_muleTime f_m_planTo f_m_march f_m_tired f_m_ranMinutes f_m_tiredAhead f_m_isReached f_m_toEnd f_m_upTo f_m_upNext f_m_byChanges f_m_bandPaces H.size i all (by omega) (by omega) (by omega) hr_m_weight hr_m_isLame hr_m_miles hr_m_isRefused (by omega) (by omega) hwf) (gi_V lwd_653 lwd_654 lwd_655 lwd_5 lwd_656) ⟨rfl, hd_X10_lays⟩ ⟨Nat.le_of_ble_eq_true rfl, Nat.le_of_ble_eq_true rfl⟩ rfl (Nat.le_of_ble_eq_true rfl) dX10_goes_14) (fun u_6 H locs hw hP hD hS => ?_)
    obtain ⟨zatW_8, zatL_9, zatT_10, zatH_11, zatM_12, zatI_13, zatQ_14, zworth_15, zisRefused_16, zleast_17⟩ := u_6
    try dsimp only at hw hP hD
    obtain ⟨p_18, p_19⟩ := hw
    refine lv_bipush (v := (-2)) hx hb dX10_goes_17 (by decide) ?_
    refine lv_istore_n (lv' := [(3, .int (-2)), (0, .ref (hm 0)), (1, .int i), (2, .int all)]) hx hb dX10_goes_19 rfl hl (by decide) rfl (fun ls hl => ?_)
    refine lv_iconst (v := 0) hx hb dX10_goes_20 (by decide) ?_
    refine lv_istore (lv' := [(4, .int 0), (3, .int (-2)), (0, .ref (hm 0)), (1, .int i), (2, .int all)]) hx hb dX10_goes_21 hl (by decide) rfl (fun ls hl => ?_)
    refine lv_iconst (v := 1) hx hb dX10_goes_23 (by decide) ?_
    refine lv_istore (lv' := [(5, .int 1), (4, .int 0), (3, .int (-2)), (0, .ref (hm 0)), (1, .int i), (2, .int all)]) hx hb dX10_goes_24 hl (by decide) rfl (fun ls hl => ?_)
    have L26_26 : ∀ (n : Nat) (l_23 : Int32) (l_24 : Int32) (l_25 : Int32), (1 ≤ l_25.toInt ∧ l_25.toInt ≤ 6) → 7 - l_25.toInt < n → ∀ (H : Heap) (locs : List Loc) (ls : Array Slot), va_P D vwCl (wMD cy hm v_taped v_walkers v_loads v_pieces v_changeCosts v_planned v_isMarch v_clauseMany v_place v_end v_bad v_clauses v_codes v_open v_stacked v_isOver v_isBehind zatW_8 zatL_9 zatT_10 zatH_11 zatM_12 zatI_13 zatQ_14 v_packing v_packed v_goPace v_goMinutes v_spentAt v_ranChanges f_m_tape f_m_knee f_m_weight f_m_isLame f_m_loadWeight f_m_owner f_m_food f_m_miles f_m_slope f_m_clauseLetter f_m_sumFrom f_m_codeFrom f_m_codeTo f_m_code f_m_codeArg f_m_newLetter f_m_newSum f_m_newFrom f_m_newTo f_m_newCode f_m_newArg f_m_stack zworth_15 zisRefused_16 zleast_17 f_m_packPounds f_m_packOwner f_m_room f_m_givenTo f_m_canBe f_m_setPounds f_m_plainTime f_m_muleTime f_m_planTo f_m_march f_m_tired f_m_ranMinutes f_m_tiredAhead f_m_isReached f_m_toEnd f_m_upTo f_m_upNext f_m_byChanges f_m_bandPaces) H → va_D A (wMD cy hm v_taped v_walkers v_loads v_pieces v_changeCosts v_planned v_isMarch v_clauseMany v_place v_end v_bad v_clauses v_codes v_open v_stacked v_isOver v_isBehind zatW_8 zatL_9 zatT_10 zatH_11 zatM_12 zatI_13 zatQ_14 v_packing v_packed v_goPace v_goMinutes v_spentAt v_ranChanges f_m_tape f_m_knee f_m_weight f_m_isLame f_m_loadWeight f_m_owner f_m_food f_m_miles f_m_slope f_m_clauseLetter f_m_sumFrom f_m_codeFrom f_m_codeTo f_m_code f_m_codeArg f_m_newLetter f_m_newSum f_m_newFrom f_m_newTo f_m_newCode f_m_newArg f_m_stack zworth_15 zisRefused_16 zleast_17 f_m_packPounds f_m_packOwner f_m_room f_m_givenTo f_m_canBe f_m_setPounds f_m_plainTime f_m_muleTime f_m_planTo f_m_march f_m_tired f_m_ranMinutes f_m_tiredAhead f_m_isReached f_m_toEnd f_m_upTo f_m_upNext f_m_byChanges f_m_bandPaces) → va_S A s.heap H locs → lv_has ls 7 [(5, .int l_25), (4, .int l_24), (3, .int l_23), (0, .ref (hm 0)), (1, .int i), (2, .int all)] → W p l e (gRm 8) s m args below meth c H locs 0 0 Q (F0 m 26 ls []) := by
      intro n
      induction n with
      | zero => intro l_23 l_24 l_25 hL26_26_0 hm; exact absurd hm (by omega)
      | succ n ih26_26 =>
        intro l_23 l_24 l_25 hL26_26_0 hmL26_26 H locs ls hP hD hS hl
        refine lv_iload hx hb dX10_goes_26 (lv_at hl 0 rfl) ?_
        refine lv_iconst (v := 5) hx hb dX10_goes_28 (by decide) ?_
        refine lv_icmp_gt (tgt := 73) hx hb dX10_goes_29 (by decide) (fun c_27 => ?_) (fun c_27 => ?_)
        · have gc_27 : 5 < l_25.toInt := i_lt (by decide : (5 : Int32).toInt = 5) (rfl : l_25.toInt = l_25.toInt) c_27
          refine lv_iload_n hx hb dX10_goes_73 rfl (lv_at hl 2 rfl) ?_
          exact hrt l_23 zatW_8 zatL_9 zatT_10 zatH_11 zatM_12 zatI_13 zatQ_14 zworth_15 zisRefused_16 zleast_17 ⟨(by omega), p_19⟩ hP hD hS rfl dX10_goes_74
        · have gc_27 : l_25.toInt ≤ 5 := i_nlt (by decide : (5 : Int32).toInt = 5) (rfl : l_25.toInt = l_25.toInt) c_27
          refine lv_aload_n hx hb dX10_goes_32 rfl (lv_at hl 3 rfl) ?_
          refine lv_iload_n hx hb dX10_goes_33 rfl (lv_at hl 4 rfl) ?_
          refine lv_iload hx hb dX10_goes_34 (lv_at hl 0 rfl) ?_
          refine xi hD hS hA (xV (As := [.int i, .int l_25]) (rest := []) hx hb hml hown hts hK hP hD hS hA NT_ok hN hAe hl.1 ⟨Nat.le_refl _, Nat.le_refl _⟩ 0 rfl rfl rfl (c_X10_stagesOf l D cy hm v_taped v_walkers v_loads v_pieces v_changeCosts v_planned v_isMarch v_clauseMany v_place v_end v_bad v_clauses v_codes v_open v_stacked v_isOver v_isBehind zatW_8 zatL_9 zatT_10 zatH_11 zatM_12 zatI_13 zatQ_14 v_packing v_packed v_goPace v_goMinutes v_spentAt v_ranChanges f_m_tape f_m_knee f_m_weight f_m_isLame f_m_loadWeight f_m_owner f_m_food f_m_miles f_m_slope f_m_clauseLetter f_m_sumFrom f_m_codeFrom f_m_codeTo f_m_code f_m_codeArg f_m_newLetter f_m_newSum f_m_newFrom f_m_newTo f_m_newCode f_m_newArg f_m_stack zworth_15 zisRefused_16 zleast_17 f_m_packPounds f_m_packOwner f_m_room f_m_givenTo f_m_canBe f_m_setPounds f_m_plainTime f_m_muleTime f_m_planTo f_m_march f_m_tired f_m_ranMinutes f_m_tiredAhead f_m_isReached f_m_toEnd f_m_upTo f_m_upNext f_m_byChanges f_m_bandPaces H.size i l_25 (by omega) (by omega) hr_m_loadWeight hr_m_food hr_m_miles (by omega) (by omega)) (gi_V lwd_849 lwd_850 lwd_851 lwd_5 lwd_852) ⟨rfl, hd_X10_stagesOf⟩ ⟨Nat.le_of_ble_eq_true rfl, Nat.le_of_ble_eq_true rfl⟩ rfl (Nat.le_of_ble_eq_true rfl) dX10_goes_36) (fun r_29 u_28 H locs hw hP hD hS => ?_)
          try dsimp only at hw hP hD
          clear hw
          refine lv_istore (lv' := [(6, .int r_29), (5, .int l_25), (4, .int l_24), (3, .int l_23), (0, .ref (hm 0)), (1, .int i), (2, .int all)]) hx hb dX10_goes_39 hl (by decide) rfl (fun ls hl => ?_)
          refine lv_iload hx hb dX10_goes_41 (lv_at hl 0 rfl) ?_
          refine lv_if_lt (tgt := 67) hx hb dX10_goes_43 (by decide) (fun c_30 => ?_) (fun c_30 => ?_)
          · have gc_30 : r_29.toInt < 0 := i_lt (rfl : r_29.toInt = r_29.toInt) (by decide : (0 : Int32).toInt = 0) c_30
            obtain ⟨n_31, en_31⟩ : ∃ y : Int32, y = l_25 + 1 := ⟨_, rfl⟩
            have tn_31 : n_31.toInt = l_25.toInt + 1 := i_add en_31 (rfl : l_25.toInt = l_25.toInt) (by decide : (1 : Int32).toInt = 1) (by omega) (by omega)
            refine lv_iinc (v := n_31) (lv' := [(5, .int n_31), (6, .int r_29), (4, .int l_24), (3, .int l_23), (0, .ref (hm 0)), (1, .int i), (2, .int all)]) hx hb dX10_goes_67 hl (k := 1) rfl (by rw [en_31]; rfl) (by decide) rfl (fun ls hl => ?_)
            refine lv_goto (tgt := 26) hx hb dX10_goes_70 (by decide) ?_
            exact ih26_26 l_23 l_24 n_31 (by omega) (by omega) _ _ _ hP hD hS (lv_sub hl [0, 2, 3, 4, 5, 6] rfl)
          · have gc_30 : 0 ≤ r_29.toInt := i_nlt (rfl : r_29.toInt = r_29.toInt) (by decide : (0 : Int32).toInt = 0) c_30
            refine lv_iload_n hx hb dX10_goes_46 rfl (lv_at hl 3 rfl) ?_
            refine lv_if_le (tgt := 60) hx hb dX10_goes_47 (by decide) (fun c_32 => ?_) (fun c_32 => ?_)
            · have gc_32 : l_23.toInt ≤ 0 := i_le (rfl : l_23.toInt = l_23.toInt) (by decide : (0 : Int32).toInt = 0) c_32
              refine lv_iload hx hb dX10_goes_60 (lv_at hl 1 rfl) ?_
              refine lv_istore_n (lv' := [(3, .int l_25), (6, .int r_29), (5, .int l_25), (4, .int l_24), (0, .ref (hm 0)), (1, .int i), (2, .int all)]) hx hb dX10_goes_62 rfl hl (by decide) rfl (fun ls hl => ?_)
              refine lv_iload hx hb dX10_goes_63 (lv_at hl 1 rfl) ?_
              refine lv_istore (lv' := [(4, .int r_29), (3, .int l_25), (6, .int r_29), (5, .int l_25), (0, .ref (hm 0)), (1, .int i), (2, .int all)]) hx hb dX10_goes_65 hl (by decide) rfl (fun ls hl => ?_)
              obtain ⟨n_33, en_33⟩ : ∃ y : Int32, y = l_25 + 1 := ⟨_, rfl⟩
              have tn_33 : n_33.toInt = l_25.toInt + 1 := i_add en_33 (rfl : l_25.toInt = l_25.toInt) (by decide : (1 : Int32).toInt = 1) (by omega) (by omega)
              refine lv_iinc (v := n_33) (lv' := [(5, .int n_33), (4, .int r_29), (3, .int l_25), (6, .int r_29), (0, .ref (hm 0)), (1, .int i), (2, .int all)]) hx hb dX10_goes_67 hl (k := 3) rfl (by rw [en_33]; rfl) (by decide) rfl (fun ls hl => ?_)
              refine lv_goto (tgt := 26) hx hb dX10_goes_70 (by decide) ?_
              exact ih26_26 l_25 r_29 n_33 (by omega) (by omega) _ _ _ hP hD hS (lv_sub hl [0, 1, 2, 4, 5, 6] rfl)
            · have gc_32 : 0 < l_23.toInt := i_nle (rfl : l_23.toInt = l_23.toInt) (by decide : (0 : Int32).toInt = 0) c_32
              refine lv_iload hx hb dX10_goes_50 (lv_at hl 0 rfl) ?_
              refine lv_iload hx hb dX10_goes_52 (lv_at hl 2 rfl) ?_
              refine lv_icmp_lt (tgt := 60) hx hb dX10_goes_54 (by decide) (fun c_34 => ?_) (fun c_34 => ?_)
              · have gc_34 : r_29.toInt < l_24.toInt := i_lt (rfl : r_29.toInt = r_29.toInt) (rfl : l_24.toInt = l_24.toInt) c_34
                refine lv_iload hx hb dX10_goes_60 (lv_at hl 1 rfl) ?_
                refine lv_istore_n (lv' := [(3, .int l_25), (6, .int r_29), (5, .int l_25), (4, .int l_24), (0, .ref (hm 0)), (1, .int i), (2, .int all)]) hx hb dX10_goes_62 rfl hl (by decide) rfl (fun ls hl => ?_)
                refine lv_iload hx hb dX10_goes_63 (lv_at hl 1 rfl) ?_
                refine lv_istore (lv' := [(4, .int r_29), (3, .int l_25), (6, .int r_29), (5, .int l_25), (0, .ref (hm 0)), (1, .int i), (2, .int all)]) hx hb dX10_goes_65 hl (by decide) rfl (fun ls hl => ?_)
                obtain ⟨n_35, en_35⟩ : ∃ y : Int32, y = l_25 + 1 := ⟨_, rfl⟩
                have tn_35 : n_35.toInt = l_25.toInt + 1 := i_add en_35 (rfl : l_25.toInt = l_25.toInt) (by decide : (1 : Int32).toInt = 1) (by omega) (by omega)
                refine lv_iinc (v := n_35) (lv' := [(5, .int n_35), (4, .int r_29), (3, .int l_25), (6, .int r_29), (0, .ref (hm 0)), (1, .int i), (2, .int all)]) hx hb dX10_goes_67 hl (k := 3) rfl (by rw [en_35]; rfl) (by decide) rfl (fun ls hl => ?_)
                refine lv_goto (tgt := 26) hx hb dX10_goes_70 (by decide) ?_
                exact ih26_26 l_25 r_29 n_35 (by omega) (by omega) _ _ _ hP hD hS (lv_sub hl [0, 1, 2, 4, 5, 6] rfl)
              · have gc_34 : l_24.toInt ≤ r_29.toInt := i_nlt (rfl : r_29.toInt = r_29.toInt) (rfl : l_24.toInt = l_24.toInt) c_34
                refine lv_goto (tgt := 67) hx hb dX10_goes_57 (by decide) ?_
                obtain ⟨n_36, en_36⟩ : ∃ y : Int32, y = l_25 + 1 := ⟨_, rfl⟩
                have tn_36 : n_36.toInt = l_25.toInt + 1 := i_add en_36 (rfl : l_25.toInt = l_25.toInt) (by decide : (1 : Int32).toInt = 1) (by omega) (by omega)
                refine lv_iinc (v := n_36) (lv' := [(5, .int n_36), (6, .int r_29), (4, .int l_24), (3, .int l_23), (0, .ref (hm 0)), (1, .int i), (2, .int all)]) hx hb dX10_goes_67 hl (k := 1) rfl (by rw [en_36]; rfl) (by decide) rfl (fun ls hl => ?_)
                refine lv_goto (tgt := 26) hx hb dX10_goes_70 (by decide) ?_
                exact ih26_26 l_23 l_24 n_36 (by omega) (by omega) _ _ _ hP hD hS (lv_sub hl [0, 2, 3, 4, 5, 6] rfl)
    have k_37 : ((-2) : Int32).toInt = (-2) := by decide
    have k_38 : (0 : Int32).toInt = 0 := by decide
    have k_39 : (1 : Int32).toInt = 1 := by decide
    exact L26_26 8589934592 (-2) 0 1 (by omega) (by omega) _ _ _ hP hD hS (lv_sub hl [0, 1, 2, 3, 4, 5] rfl)
  · have gc_5 : r_2.toInt = 0 := i_eq (rfl : r_2.toInt = r_2.toInt) (by decide : (0 : Int32).toInt = 0) c_5
    refine lv_iconst (v := (-1)) hx hb dX10_goes_9 (by decide) ?_
    have k_40 : ((-1) : Int32).toInt = (-1) := by decide
    exact hrt (-1) v_atW v_atL v_atT v_atH v_atM v_atI v_atQ f_m_worth f_m_isRefused f_m_least ⟨(by omega), hr_m_isRefused⟩ hP hD hS rfl dX10_goes_10
set_option maxHeartbeats 16000000 in
set_option maxRecDepth 100000 in
theorem c_X10_carried (l : Launch) (D : va_G) (cy : Nat → ClassId) (hm : Nat → Nat) (v_taped v_walkers v_loads v_pieces v_changeCosts v_planned v_isMarch v_clauseMany v_place v_end v_bad v_clauses v_codes v_open v_stacked v_isOver v_isBehind v_atW v_atL v_atT v_atH v_atM v_atI v_atQ v_packing v_packed v_goPace v_goMinutes v_spentAt v_ranChanges : Int32) (f_m_tape f_m_knee f_m_weight f_m_isLame f_m_loadWeight f_m_owner f_m_food f_m_miles f_m_slope f_m_clauseLetter f_m_sumFrom f_m_codeFrom f_m_codeTo f_m_code f_m_codeArg f_m_newLetter f_m_newSum f_m_newFrom f_m_newTo f_m_newCode f_m_newArg f_m_stack f_m_worth f_m_isRefused f_m_least f_m_packPounds f_m_packOwner f_m_room f_m_givenTo f_m_canBe f_m_setPounds f_m_plainTime f_m_muleTime f_m_planTo f_m_march f_m_tired f_m_ranMinutes f_m_tiredAhead f_m_isReached f_m_toEnd f_m_upTo f_m_upNext f_m_byChanges f_m_bandPaces : Nat → Int32) (sz : Nat) (i : Int32) (all : Int32) (what : Int32) (hb_v_walkers : 0 ≤ v_walkers.toInt ∧ v_walkers.toInt ≤ 6) (hb_v_loads : 0 ≤ v_loads.toInt ∧ v_loads.toInt ≤ 9) (hb_v_pieces : 0 ≤ v_pieces.toInt ∧ v_pieces.toInt ≤ 10) (hb_v_clauseMany : 0 ≤ v_clauseMany.toInt ∧ v_clauseMany.toInt ≤ 14) (hb_v_atW : 0 ≤ v_atW.toInt ∧ v_atW.toInt ≤ 5) (hb_v_packed : 0 ≤ v_packed.toInt ∧ v_packed.toInt ≤ 10) (hr_m_weight : rg (0) 250 f_m_weight) (hr_m_isLame : rg (0) 1 f_m_isLame) (hr_m_loadWeight : rg (0) 120 f_m_loadWeight) (hr_m_owner : rg (-1) 5 f_m_owner) (hr_m_food : rg (0) 20 f_m_food) (hr_m_miles : rg (0) 20 f_m_miles) (hr_m_isRefused : rg (0) 1 f_m_isRefused) (hr_m_packPounds : rg (0) 250 f_m_packPounds) (hr_m_packOwner : rg (-1) 5 f_m_packOwner) (hr_m_canBe : rg (0) 1 f_m_canBe) (hwf : wfC v_clauseMany f_m_sumFrom f_m_codeFrom f_m_codeTo f_m_code) : gMi l yX10_carried cX10_carried 9 .int 8 [.ref (hm 0), .int i, .int all, .int what] D cy (wMD cy hm v_taped v_walkers v_loads v_pieces v_changeCosts v_planned v_isMarch v_clauseMany v_place v_end v_bad v_clauses v_codes v_open v_stacked v_isOver v_isBehind v_atW v_atL v_atT v_atH v_atM v_atI v_atQ v_packing v_packed v_goPace v_goMinutes v_spentAt v_ranChanges f_m_tape f_m_knee f_m_weight f_m_isLame f_m_loadWeight f_m_owner f_m_food f_m_miles f_m_slope f_m_clauseLetter f_m_sumFrom f_m_codeFrom f_m_codeTo f_m_code f_m_codeArg f_m_newLetter f_m_newSum f_m_newFrom f_m_newTo f_m_newCode f_m_newArg f_m_stack f_m_worth f_m_isRefused f_m_least f_m_packPounds f_m_packOwner f_m_room f_m_givenTo f_m_canBe f_m_setPounds f_m_plainTime f_m_muleTime f_m_planTo f_m_march f_m_tired f_m_ranMinutes f_m_tiredAhead f_m_isReached f_m_toEnd f_m_upTo f_m_upNext f_m_byChanges f_m_bandPaces) NT sz (fun (r : Int32) (u : Int32 × Int32 × Int32 × Int32 × Int32 × Int32 × Int32 × Int32 × Int32 × (Nat → Int32) × (Nat → Int32) × (Nat → Int32) × (Nat → Int32) × (Nat → Int32) × (Nat → Int32) × (Nat → Int32) × (Nat → Int32) × (Nat → Int32)) => (0 ≤ (u.1).toInt ∧ (u.1).toInt ≤ 5) ∧ (0 ≤ (u.2.2.2.2.2.2.2.2.1).toInt ∧ (u.2.2.2.2.2.2.2.2.1).toInt ≤ 10) ∧ (rg (0) 1 (u.2.2.2.2.2.2.2.2.2.2.1)) ∧ (rg (0) 250 (u.2.2.2.2.2.2.2.2.2.2.2.2.1)) ∧ (rg (-1) 5 (u.2.2.2.2.2.2.2.2.2.2.2.2.2.1)) ∧ (rg (0) 1 (u.2.2.2.2.2.2.2.2.2.2.2.2.2.2.2.2.1))) (fun u => wMD cy hm v_taped v_walkers v_loads v_pieces v_changeCosts v_planned v_isMarch v_clauseMany v_place v_end v_bad v_clauses v_codes v_open v_stacked v_isOver v_isBehind (u.1) (u.2.1) (u.2.2.1) (u.2.2.2.1) (u.2.2.2.2.1) (u.2.2.2.2.2.1) (u.2.2.2.2.2.2.1) (u.2.2.2.2.2.2.2.1) (u.2.2.2.2.2.2.2.2.1) v_goPace v_goMinutes v_spentAt v_ranChanges f_m_tape f_m_knee f_m_weight f_m_isLame f_m_loadWeight f_m_owner f_m_food f_m_miles f_m_slope f_m_clauseLetter f_m_sumFrom f_m_codeFrom f_m_codeTo f_m_code f_m_codeArg f_m_newLetter f_m_newSum f_m_newFrom f_m_newTo f_m_newCode f_m_newArg f_m_stack (u.2.2.2.2.2.2.2.2.2.1) (u.2.2.2.2.2.2.2.2.2.2.1) (u.2.2.2.2.2.2.2.2.2.2.2.1) (u.2.2.2.2.2.2.2.2.2.2.2.2.1) (u.2.2.2.2.2.2.2.2.2.2.2.2.2.1) (u.2.2.2.2.2.2.2.2.2.2.2.2.2.2.1) (u.2.2.2.2.2.2.2.2.2.2.2.2.2.2.2.1) (u.2.2.2.2.2.2.2.2.2.2.2.2.2.2.2.2.1) (u.2.2.2.2.2.2.2.2.2.2.2.2.2.2.2.2.2) f_m_plainTime f_m_muleTime f_m_planTo f_m_march f_m_tired f_m_ranMinutes f_m_tiredAhead f_m_isReached f_m_toEnd f_m_upTo f_m_upNext f_m_byChanges f_m_bandPaces) := by
  refine gMi_in (by decide) (Nat.le_of_ble_eq_true rfl) ?_
  intro p e s m args below meth c A ls Q hx hb hml hts hown hsz hP hK hD hN hAe hA hS hl hret
  subst hsz
  have hl : lv_has ls 9 [(0, .ref (hm 0)), (1, .int i), (2, .int all), (3, .int what)] := hl
  have hrt := fun (r : Int32) (v_atW' : Int32) (v_atL' : Int32) (v_atT' : Int32) (v_atH' : Int32) (v_atM' : Int32) (v_atI' : Int32) (v_atQ' : Int32) (v_packing' : Int32) (v_packed' : Int32) (f_m_worth' : Nat → Int32) (f_m_isRefused' : Nat → Int32) (f_m_least' : Nat → Int32) (f_m_packPounds' : Nat → Int32) (f_m_packOwner' : Nat → Int32) (f_m_room' : Nat → Int32) (f_m_givenTo' : Nat → Int32) (f_m_canBe' : Nat → Int32) (f_m_setPounds' : Nat → Int32) (hp : (0 ≤ v_atW'.toInt ∧ v_atW'.toInt ≤ 5) ∧ (0 ≤ v_packed'.toInt ∧ v_packed'.toInt ≤ 10) ∧ (rg (0) 1 f_m_isRefused') ∧ (rg (0) 250 f_m_packPounds') ∧ (rg (-1) 5 f_m_packOwner') ∧ (rg (0) 1 f_m_canBe')) {H : Heap} {locs : List Loc} {pc : Nat} {ls : Array Slot} => hret r (v_atW', v_atL', v_atT', v_atH', v_atM', v_atI', v_atQ', v_packing', v_packed', f_m_worth', f_m_isRefused', f_m_least', f_m_packPounds', f_m_packOwner', f_m_room', f_m_givenTo', f_m_canBe', f_m_setPounds') (H := H) (locs := locs) (pc := pc) (ls := ls) hp
  clear hret
  refine lv_aload_n hx hb dX10_carried_0 rfl (lv_at hl 0 rfl) ?_
  refine lv_iload_n hx hb dX10_carried_1 rfl (lv_at hl 1 rfl) ?_
  refine lv_iload_n hx hb dX10_carried_2 rfl (lv_at hl 2 rfl) ?_
  refine xi hD hS hA (xV (As := [.int i, .int all]) (rest := []) hx hb hml hown hts hK hP hD hS hA NT_ok hN hAe hl.1 ⟨Nat.le_refl _, Nat.le_refl _⟩ 0 rfl rfl rfl (c_X10_canAsk l D cy hm v_taped v_walkers v_loads v_pieces v_changeCosts v_planned v_isMarch v_clauseMany v_place v_end v_bad v_clauses v_codes v_open v_stacked v_isOver v_isBehind v_atW v_atL v_atT v_atH v_atM v_atI v_atQ v_packing v_packed v_goPace v_goMinutes v_spentAt v_ranChanges f_m_tape f_m_knee f_m_weight f_m_isLame f_m_loadWeight f_m_owner f_m_food f_m_miles f_m_slope f_m_clauseLetter f_m_sumFrom f_m_codeFrom f_m_codeTo f_m_code f_m_codeArg f_m_newLetter f_m_newSum f_m_newFrom f_m_newTo f_m_newCode f_m_newArg f_m_stack f_m_worth f_m_isRefused f_m_least f_m_packPounds f_m_packOwner f_m_room f_m_givenTo f_m_canBe f_m_setPounds f_m_plainTime f_m_muleTime f_m_planTo f_m_march f_m_tired f_m_ranMinutes f_m_tiredAhead f_m_isReached f_m_toEnd f_m_upTo f_m_upNext f_m_byChanges f_m_bandPaces s.heap.size i all (by omega) (by omega)) (gi_V lwd_645 lwd_646 lwd_647 lwd_5 lwd_648) ⟨rfl, hd_X10_canAsk⟩ ⟨Nat.le_of_ble_eq_true rfl, Nat.le_of_ble_eq_true rfl⟩ rfl (Nat.le_of_ble_eq_true rfl) dX10_carried_3) (fun r_2 u_1 H locs hw hP hD hS => ?_)
  try dsimp only at hw hP hD
  obtain ⟨p_3, p_4⟩ := hw
  refine lv_if_eq (tgt := 19) hx hb dX10_carried_6 (by decide) (fun c_5 => ?_) (fun c_5 => ?_)
  · have gc_5 : r_2.toInt = 0 := i_eq (rfl : r_2.toInt = r_2.toInt) (by decide : (0 : Int32).toInt = 0) c_5
    refine lv_bipush (v := (-3)) hx hb dX10_carried_19 (by decide) ?_
    have k_6 : ((-3) : Int32).toInt = (-3) := by decide
    exact hrt (-3) v_atW v_atL v_atT v_atH v_atM v_atI v_atQ v_packing v_packed f_m_worth f_m_isRefused f_m_least f_m_packPounds f_m_packOwner f_m_room f_m_givenTo f_m_canBe f_m_setPounds ⟨(by omega), (by omega), hr_m_isRefused, hr_m_packPounds, hr_m_packOwner, hr_m_canBe⟩ hP hD hS rfl dX10_carried_21
  · have gc_5 : r_2.toInt ≠ 0 := i_ne (rfl : r_2.toInt = r_2.toInt) (by decide : (0 : Int32).toInt = 0) c_5
    refine lv_iload_n hx hb dX10_carried_9 rfl (lv_at hl 3 rfl) ?_
    refine lv_i2l (v := what.toInt64) hx hb dX10_carried_10 rfl ?_
    have hl_7 : what.toInt64.toInt = what.toInt := i_l (rfl : what.toInt = what.toInt)
    refine lv_lconst (v := 0) hx hb dX10_carried_11 (by decide) ?_
    refine lv_lconst (v := 1) hx hb dX10_carried_12 (by decide) ?_
    have k_8 : (0 : Int64).toInt = 0 := by decide
    have k_9 : (1 : Int64).toInt = 1 := by decide
    refine xi hD hS hA (xS (As := [.long what.toInt64, .long 0, .long 1]) (rest := []) hx hb hml hown hts hK hP hD hS hA NT_ok hN hAe hl.1 ⟨Nat.le_refl _, Nat.le_refl _⟩ (c_X10_lies l D cy hm v_taped v_walkers v_loads v_pieces v_changeCosts v_planned v_isMarch v_clauseMany v_place v_end v_bad v_clauses v_codes v_open v_stacked v_isOver v_isBehind v_atW v_atL v_atT v_atH v_atM v_atI v_atQ v_packing v_packed v_goPace v_goMinutes v_spentAt v_ranChanges f_m_tape f_m_knee f_m_weight f_m_isLame f_m_loadWeight f_m_owner f_m_food f_m_miles f_m_slope f_m_clauseLetter f_m_sumFrom f_m_codeFrom f_m_codeTo f_m_code f_m_codeArg f_m_newLetter f_m_newSum f_m_newFrom f_m_newTo f_m_newCode f_m_newArg f_m_stack f_m_worth f_m_isRefused f_m_least f_m_packPounds f_m_packOwner f_m_room f_m_givenTo f_m_canBe f_m_setPounds f_m_plainTime f_m_muleTime f_m_planTo f_m_march f_m_tired f_m_ranMinutes f_m_tiredAhead f_m_isReached f_m_toEnd f_m_upTo f_m_upNext f_m_byChanges f_m_bandPaces H.size what.toInt64 0 1) (gi_S lwd_226 lwd_227 lwd_5 lwd_228) hd_X10_lies ⟨Nat.le_of_ble_eq_true rfl, Nat.le_of_ble_eq_true rfl⟩ rfl (Nat.le_of_ble_eq_true rfl) dX10_carried_13) (fun r_11 u_10 H locs hw hP hD hS => ?_)
    try dsimp only at hw hP hD
    obtain ⟨p_12, p_13⟩ := hw
    refine lv_if_ne (tgt := 22) hx hb dX10_carried_16 (by decide) (fun c_14 => ?_) (fun c_14 => ?_)
    · have gc_14 : r_11.toInt ≠ 0 := i_ne (rfl : r_11.toInt = r_11.toInt) (by decide : (0 : Int32).toInt = 0) c_14
      refine lv_aload_n hx hb dX10_carried_22 rfl (lv_at hl 0 rfl) ?_
      refine lv_iload_n hx hb dX10_carried_23 rfl (lv_at hl 1 rfl) ?_
      refine lv_iload_n hx hb dX10_carried_24 rfl (lv_at hl 2 rfl) ?_
      refine xv hD hS hA (xV (As := [.int i, .int all]) (rest := []) hx hb hml hown hts hK hP hD hS hA NT_ok hN hAe hl.1 ⟨Nat.le_refl _, Nat.le_refl _⟩ 0 rfl rfl rfl (c_X10_lays l D cy hm v_taped v_walkers v_loads v_pieces v_changeCosts v_planned v_isMarch v_clauseMany v_place v_end v_bad v_clauses v_codes v_open v_stacked v_isOver v_isBehind v_atW v_atL v_atT v_atH v_atM v_atI v_atQ v_packing v_packed v_goPace v_goMinutes v_spentAt v_ranChanges f_m_tape f_m_knee f_m_weight f_m_isLame f_m_loadWeight f_m_owner f_m_food f_m_miles f_m_slope f_m_clauseLetter f_m_sumFrom f_m_codeFrom f_m_codeTo f_m_code f_m_codeArg f_m_newLetter f_m_newSum f_m_newFrom f_m_newTo f_m_newCode f_m_newArg f_m_stack f_m_worth f_m_isRefused f_m_least f_m_packPounds f_m_packOwner f_m_room f_m_givenTo f_m_canBe f_m_setPounds f_m_plainTime f_m_muleTime f_m_planTo f_m_march f_m_tired f_m_ranMinutes f_m_tiredAhead f_m_isReached f_m_toEnd f_m_upTo f_m_upNext f_m_byChanges f_m_bandPaces H.size i all (by omega) (by omega) (by omega) hr_m_weight hr_m_isLame hr_m_miles hr_m_isRefused (by omega) (by omega) hwf) (gi_V lwd_653 lwd_654 lwd_655 lwd_5 lwd_656) ⟨rfl, hd_X10_lays⟩ ⟨Nat.le_of_ble_eq_true rfl, Nat.le_of_ble_eq_true rfl⟩ rfl (Nat.le_of_ble_eq_true rfl) dX10_carried_25) (fun u_15 H locs hw hP hD hS => ?_)
      obtain ⟨zatW_17, zatL_18, zatT_19, zatH_20, zatM_21, zatI_22, zatQ_23, zworth_24, zisRefused_25, zleast_26⟩ := u_15
      try dsimp only at hw hP hD
      obtain ⟨p_27, p_28⟩ := hw
      refine lv_aload_n hx hb dX10_carried_28 rfl (lv_at hl 0 rfl) ?_
      refine lv_iload_n hx hb dX10_carried_29 rfl (lv_at hl 1 rfl) ?_
      refine lv_aload_n hx hb dX10_carried_30 rfl (lv_at hl 0 rfl) ?_
      refine xi hD hS hA (xV (As := []) (rest := [.int i, .ref (hm 0)]) hx hb hml hown hts hK hP hD hS hA NT_ok hN hAe hl.1 ⟨Nat.le_refl _, Nat.le_refl _⟩ 0 rfl rfl rfl (c_X10_everybody l D cy hm v_taped v_walkers v_loads v_pieces v_changeCosts v_planned v_isMarch v_clauseMany v_place v_end v_bad v_clauses v_codes v_open v_stacked v_isOver v_isBehind zatW_17 zatL_18 zatT_19 zatH_20 zatM_21 zatI_22 zatQ_23 v_packing v_packed v_goPace v_goMinutes v_spentAt v_ranChanges f_m_tape f_m_knee f_m_weight f_m_isLame f_m_loadWeight f_m_owner f_m_food f_m_miles f_m_slope f_m_clauseLetter f_m_sumFrom f_m_codeFrom f_m_codeTo f_m_code f_m_codeArg f_m_newLetter f_m_newSum f_m_newFrom f_m_newTo f_m_newCode f_m_newArg f_m_stack zworth_24 zisRefused_25 zleast_26 f_m_packPounds f_m_packOwner f_m_room f_m_givenTo f_m_canBe f_m_setPounds f_m_plainTime f_m_muleTime f_m_planTo f_m_march f_m_tired f_m_ranMinutes f_m_tiredAhead f_m_isReached f_m_toEnd f_m_upTo f_m_upNext f_m_byChanges f_m_bandPaces H.size (by omega)) (gi_V lwd_736 lwd_737 lwd_738 lwd_5 lwd_739) ⟨rfl, hd_X10_everybody⟩ ⟨Nat.le_of_ble_eq_true rfl, Nat.le_of_ble_eq_true rfl⟩ rfl (Nat.le_of_ble_eq_true rfl) dX10_carried_31) (fun r_30 u_29 H locs hw hP hD hS => ?_)
      try dsimp only at hw hP hD
      clear hw
      refine lv_iconst (v := 1) hx hb dX10_carried_34 (by decide) ?_
      have k_31 : (1 : Int32).toInt = 1 := by decide
      refine xv hD hS hA (xV (As := [.int i, .int r_30, .int 1]) (rest := []) hx hb hml hown hts hK hP hD hS hA NT_ok hN hAe hl.1 ⟨Nat.le_refl _, Nat.le_refl _⟩ 0 rfl rfl rfl (c_X10_packs l D cy hm v_taped v_walkers v_loads v_pieces v_changeCosts v_planned v_isMarch v_clauseMany v_place v_end v_bad v_clauses v_codes v_open v_stacked v_isOver v_isBehind zatW_17 zatL_18 zatT_19 zatH_20 zatM_21 zatI_22 zatQ_23 v_packing v_packed v_goPace v_goMinutes v_spentAt v_ranChanges f_m_tape f_m_knee f_m_weight f_m_isLame f_m_loadWeight f_m_owner f_m_food f_m_miles f_m_slope f_m_clauseLetter f_m_sumFrom f_m_codeFrom f_m_codeTo f_m_code f_m_codeArg f_m_newLetter f_m_newSum f_m_newFrom f_m_newTo f_m_newCode f_m_newArg f_m_stack zworth_24 zisRefused_25 zleast_26 f_m_packPounds f_m_packOwner f_m_room f_m_givenTo f_m_canBe f_m_setPounds f_m_plainTime f_m_muleTime f_m_planTo f_m_march f_m_tired f_m_ranMinutes f_m_tiredAhead f_m_isReached f_m_toEnd f_m_upTo f_m_upNext f_m_byChanges f_m_bandPaces H.size i r_30 1 (by omega) (by omega) hr_m_loadWeight hr_m_owner hr_m_food hr_m_packPounds hr_m_packOwner (by omega) (by omega)) (gi_V lwd_740 lwd_741 lwd_742 lwd_5 lwd_743) ⟨rfl, hd_X10_packs⟩ ⟨Nat.le_of_ble_eq_true rfl, Nat.le_of_ble_eq_true rfl⟩ rfl (Nat.le_of_ble_eq_true rfl) dX10_carried_35) (fun u_32 H locs hw hP hD hS => ?_)
      obtain ⟨zpacking_34, zpacked_35, zpackPounds_36, zpackOwner_37⟩ := u_32
      try dsimp only at hw hP hD
      obtain ⟨p_38, p_39, p_40, p_41⟩ := hw
      refine lv_aload_n hx hb dX10_carried_38 rfl (lv_at hl 0 rfl) ?_
      refine lv_iconst (v := (-1)) hx hb dX10_carried_39 (by decide) ?_
      have k_42 : ((-1) : Int32).toInt = (-1) := by decide
      refine xi hD hS hA (xV (As := [.int (-1)]) (rest := []) hx hb hml hown hts hK hP hD hS hA NT_ok hN hAe hl.1 ⟨Nat.le_refl _, Nat.le_refl _⟩ 0 rfl rfl rfl (c_X10_wholePace l D cy hm v_taped v_walkers v_loads v_pieces v_changeCosts v_planned v_isMarch v_clauseMany v_place v_end v_bad v_clauses v_codes v_open v_stacked v_isOver v_isBehind zatW_17 zatL_18 zatT_19 zatH_20 zatM_21 zatI_22 zatQ_23 zpacking_34 zpacked_35 v_goPace v_goMinutes v_spentAt v_ranChanges f_m_tape f_m_knee f_m_weight f_m_isLame f_m_loadWeight f_m_owner f_m_food f_m_miles f_m_slope f_m_clauseLetter f_m_sumFrom f_m_codeFrom f_m_codeTo f_m_code f_m_codeArg f_m_newLetter f_m_newSum f_m_newFrom f_m_newTo f_m_newCode f_m_newArg f_m_stack zworth_24 zisRefused_25 zleast_26 zpackPounds_36 zpackOwner_37 f_m_room f_m_givenTo f_m_canBe f_m_setPounds f_m_plainTime f_m_muleTime f_m_planTo f_m_march f_m_tired f_m_ranMinutes f_m_tiredAhead f_m_isReached f_m_toEnd f_m_upTo f_m_upNext f_m_byChanges f_m_bandPaces H.size (-1) (by omega) (by omega) p_40 p_41 hr_m_canBe) (gi_V lwd_753 lwd_754 lwd_755 lwd_5 lwd_756) ⟨rfl, hd_X10_wholePace⟩ ⟨Nat.le_of_ble_eq_true rfl, Nat.le_of_ble_eq_true rfl⟩ rfl (Nat.le_of_ble_eq_true rfl) dX10_carried_40) (fun r_44 u_43 H locs hw hP hD hS => ?_)
      obtain ⟨zroom_45, zgivenTo_46, zcanBe_47, zsetPounds_48⟩ := u_43
      try dsimp only at hw hP hD
      obtain ⟨p_49, p_50, p_51⟩ := hw
      refine lv_istore (lv' := [(4, .int r_44), (0, .ref (hm 0)), (1, .int i), (2, .int all), (3, .int what)]) hx hb dX10_carried_43 hl (by decide) rfl (fun ls hl => ?_)
      refine lv_iload hx hb dX10_carried_45 (lv_at hl 0 rfl) ?_
      refine lv_if_ne (tgt := 56) hx hb dX10_carried_47 (by decide) (fun c_52 => ?_) (fun c_52 => ?_)
      · have gc_52 : r_44.toInt ≠ 0 := i_ne (rfl : r_44.toInt = r_44.toInt) (by decide : (0 : Int32).toInt = 0) c_52
        refine lv_aload_n hx hb dX10_carried_56 rfl (lv_at hl 1 rfl) ?_
        refine lv_iload_n hx hb dX10_carried_57 rfl (lv_at hl 2 rfl) ?_
        refine lv_iload hx hb dX10_carried_58 (lv_at hl 0 rfl) ?_
        refine xi hD hS hA (xV (As := [.int i, .int r_44]) (rest := []) hx hb hml hown hts hK hP hD hS hA NT_ok hN hAe hl.1 ⟨Nat.le_refl _, Nat.le_refl _⟩ 0 rfl rfl rfl (c_X10_minutesOf l D cy hm v_taped v_walkers v_loads v_pieces v_changeCosts v_planned v_isMarch v_clauseMany v_place v_end v_bad v_clauses v_codes v_open v_stacked v_isOver v_isBehind zatW_17 zatL_18 zatT_19 zatH_20 zatM_21 zatI_22 zatQ_23 zpacking_34 zpacked_35 v_goPace v_goMinutes v_spentAt v_ranChanges f_m_tape f_m_knee f_m_weight f_m_isLame f_m_loadWeight f_m_owner f_m_food f_m_miles f_m_slope f_m_clauseLetter f_m_sumFrom f_m_codeFrom f_m_codeTo f_m_code f_m_codeArg f_m_newLetter f_m_newSum f_m_newFrom f_m_newTo f_m_newCode f_m_newArg f_m_stack zworth_24 zisRefused_25 zleast_26 zpackPounds_36 zpackOwner_37 zroom_45 zgivenTo_46 zcanBe_47 zsetPounds_48 f_m_plainTime f_m_muleTime f_m_planTo f_m_march f_m_tired f_m_ranMinutes f_m_tiredAhead f_m_isReached f_m_toEnd f_m_upTo f_m_upNext f_m_byChanges f_m_bandPaces H.size i r_44 hr_m_miles (by omega) (by omega)) (gi_V lwd_668 lwd_669 lwd_670 lwd_5 lwd_671) ⟨rfl, hd_X10_minutesOf⟩ ⟨Nat.le_of_ble_eq_true rfl, Nat.le_of_ble_eq_true rfl⟩ rfl (Nat.le_of_ble_eq_true rfl) dX10_carried_60) (fun r_54 u_53 H locs hw hP hD hS => ?_)
        try dsimp only at hw hP hD
        have p_55 := hw
        clear hw
        refine lv_istore (lv' := [(5, .int r_54), (4, .int r_44), (0, .ref (hm 0)), (1, .int i), (2, .int all), (3, .int what)]) hx hb dX10_carried_63 hl (by decide) rfl (fun ls hl => ?_)
        refine lv_iconst (v := (-1)) hx hb dX10_carried_65 (by decide) ?_
        refine lv_istore (lv' := [(6, .int (-1)), (5, .int r_54), (4, .int r_44), (0, .ref (hm 0)), (1, .int i), (2, .int all), (3, .int what)]) hx hb dX10_carried_66 hl (by decide) rfl (fun ls hl => ?_)
        refine lv_iconst (v := 0) hx hb dX10_carried_68 (by decide) ?_
        refine lv_istore (lv' := [(7, .int 0), (6, .int (-1)), (5, .int r_54), (4, .int r_44), (0, .ref (hm 0)), (1, .int i), (2, .int all), (3, .int what)]) hx hb dX10_carried_69 hl (by decide) rfl (fun ls hl => ?_)
        have L71_78 : ∀ (n : Nat) (f_67 : Nat → Int32) (f_68 : Nat → Int32) (f_69 : Nat → Int32) (f_70 : Nat → Int32) (f_71 : Nat → Int32) (f_72 : Nat → Int32) (l_73 : Int32) (l_74 : Int32) (l_75 : Int32) (w_76 : Int32) (w_77 : Int32), (rg (0) 1 f_67) → (rg (-1) 5 f_69) → (rg (0) 250 f_70) → (0 ≤ l_75.toInt ∧ l_75.toInt ≤ 6) → (0 ≤ w_76.toInt ∧ w_76.toInt ≤ 10) → 7 - l_75.toInt < n → ∀ (H : Heap) (locs : List Loc) (ls : Array Slot), va_P D vwCl (wMD cy hm v_taped v_walkers v_loads v_pieces v_changeCosts v_planned v_isMarch v_clauseMany v_place v_end v_bad v_clauses v_codes v_open v_stacked v_isOver v_isBehind zatW_17 zatL_18 zatT_19 zatH_20 zatM_21 zatI_22 zatQ_23 w_77 w_76 v_goPace v_goMinutes v_spentAt v_ranChanges f_m_tape f_m_knee f_m_weight f_m_isLame f_m_loadWeight f_m_owner f_m_food f_m_miles f_m_slope f_m_clauseLetter f_m_sumFrom f_m_codeFrom f_m_codeTo f_m_code f_m_codeArg f_m_newLetter f_m_newSum f_m_newFrom f_m_newTo f_m_newCode f_m_newArg f_m_stack zworth_24 zisRefused_25 zleast_26 f_70 f_69 f_71 f_68 f_67 f_72 f_m_plainTime f_m_muleTime f_m_planTo f_m_march f_m_tired f_m_ranMinutes f_m_tiredAhead f_m_isReached f_m_toEnd f_m_upTo f_m_upNext f_m_byChanges f_m_bandPaces) H → va_D A (wMD cy hm v_taped v_walkers v_loads v_pieces v_changeCosts v_planned v_isMarch v_clauseMany v_place v_end v_bad v_clauses v_codes v_open v_stacked v_isOver v_isBehind zatW_17 zatL_18 zatT_19 zatH_20 zatM_21 zatI_22 zatQ_23 w_77 w_76 v_goPace v_goMinutes v_spentAt v_ranChanges f_m_tape f_m_knee f_m_weight f_m_isLame f_m_loadWeight f_m_owner f_m_food f_m_miles f_m_slope f_m_clauseLetter f_m_sumFrom f_m_codeFrom f_m_codeTo f_m_code f_m_codeArg f_m_newLetter f_m_newSum f_m_newFrom f_m_newTo f_m_newCode f_m_newArg f_m_stack zworth_24 zisRefused_25 zleast_26 f_70 f_69 f_71 f_68 f_67 f_72 f_m_plainTime f_m_muleTime f_m_planTo f_m_march f_m_tired f_m_ranMinutes f_m_tiredAhead f_m_isReached f_m_toEnd f_m_upTo f_m_upNext f_m_byChanges f_m_bandPaces) → va_S A s.heap H locs → lv_has ls 9 [(7, .int l_75), (6, .int l_74), (5, .int l_73), (4, .int r_44), (0, .ref (hm 0)), (1, .int i), (2, .int all), (3, .int what)] → W p l e (gRm 8) s m args below meth c H locs 0 0 Q (F0 m 71 ls []) := by
          intro n
          induction n with
          | zero => intro f_67 f_68 f_69 f_70 f_71 f_72 l_73 l_74 l_75 w_76 w_77 hL71_78_0 hL71_78_1 hL71_78_2 hL71_78_3 hL71_78_4 hm; exact absurd hm (by omega)
          | succ n ih71_78 =>
            intro f_67 f_68 f_69 f_70 f_71 f_72 l_73 l_74 l_75 w_76 w_77 hL71_78_0 hL71_78_1 hL71_78_2 hL71_78_3 hL71_78_4 hmL71_78 H locs ls hP hD hS hl
            refine lv_iload hx hb dX10_carried_71 (lv_at hl 0 rfl) ?_
            refine lv_aload_n hx hb dX10_carried_73 rfl (lv_at hl 4 rfl) ?_
            refine gt_MD_MD_walkers hx hb hts hown hK hP lwd_221 dX10_carried_74 ?_
            refine lv_icmp_ge (tgt := 187) hx hb dX10_carried_77 (by decide) (fun c_79 => ?_) (fun c_79 => ?_)
            · have gc_79 : v_walkers.toInt ≤ l_75.toInt := i_le (rfl : v_walkers.toInt = v_walkers.toInt) (rfl : l_75.toInt = l_75.toInt) c_79
              refine lv_iload hx hb dX10_carried_187 (lv_at hl 2 rfl) ?_
              refine lv_ldcw hx hb hown (hts _ lwd_827) dX10_carried_189 ?_
              refine lv_icmp_ne (tgt := 200) hx hb dX10_carried_192 (by decide) (fun c_80 => ?_) (fun c_80 => ?_)
              · have gc_80 : l_73.toInt ≠ 1000000000 := i_ne (rfl : l_73.toInt = l_73.toInt) (by decide : (1000000000 : Int32).toInt = 1000000000) c_80
                refine lv_iload_n hx hb dX10_carried_200 rfl (lv_at hl 7 rfl) ?_
                refine lv_if_ne (tgt := 209) hx hb dX10_carried_201 (by decide) (fun c_81 => ?_) (fun c_81 => ?_)
                · have gc_81 : what.toInt ≠ 0 := i_ne (rfl : what.toInt = what.toInt) (by decide : (0 : Int32).toInt = 0) c_81
                  refine lv_iload hx hb dX10_carried_209 (lv_at hl 2 rfl) ?_
                  exact hrt l_73 zatW_17 zatL_18 zatT_19 zatH_20 zatM_21 zatI_22 zatQ_23 w_77 w_76 zworth_24 zisRefused_25 zleast_26 f_70 f_69 f_71 f_68 f_67 f_72 ⟨(by omega), (by omega), p_28, hL71_78_2, hL71_78_1, hL71_78_0⟩ hP hD hS rfl dX10_carried_211
                · have gc_81 : what.toInt = 0 := i_eq (rfl : what.toInt = what.toInt) (by decide : (0 : Int32).toInt = 0) c_81
                  refine lv_iload hx hb dX10_carried_204 (lv_at hl 1 rfl) ?_
                  refine lv_goto (tgt := 211) hx hb dX10_carried_206 (by decide) ?_
                  exact hrt l_74 zatW_17 zatL_18 zatT_19 zatH_20 zatM_21 zatI_22 zatQ_23 w_77 w_76 zworth_24 zisRefused_25 zleast_26 f_70 f_69 f_71 f_68 f_67 f_72 ⟨(by omega), (by omega), p_28, hL71_78_2, hL71_78_1, hL71_78_0⟩ hP hD hS rfl dX10_carried_211
              · have gc_80 : l_73.toInt = 1000000000 := i_eq (rfl : l_73.toInt = l_73.toInt) (by decide : (1000000000 : Int32).toInt = 1000000000) c_80
                refine lv_bipush (v := (-2)) hx hb dX10_carried_195 (by decide) ?_
                refine lv_goto (tgt := 211) hx hb dX10_carried_197 (by decide) ?_
                have k_82 : ((-2) : Int32).toInt = (-2) := by decide
                exact hrt (-2) zatW_17 zatL_18 zatT_19 zatH_20 zatM_21 zatI_22 zatQ_23 w_77 w_76 zworth_24 zisRefused_25 zleast_26 f_70 f_69 f_71 f_68 f_67 f_72 ⟨(by omega), (by omega), p_28, hL71_78_2, hL71_78_1, hL71_78_0⟩ hP hD hS rfl dX10_carried_211
            · have gc_79 : l_75.toInt < v_walkers.toInt := i_nle (rfl : v_walkers.toInt = v_walkers.toInt) (rfl : l_75.toInt = l_75.toInt) c_79
              refine lv_aload_n hx hb dX10_carried_80 rfl (lv_at hl 4 rfl) ?_
              refine gt_MD_MD_walkers hx hb hts hown hK hP lwd_221 dX10_carried_81 ?_
              refine lv_iconst (v := 1) hx hb dX10_carried_84 (by decide) ?_
              refine lv_icmp_le (tgt := 187) hx hb dX10_carried_85 (by decide) (fun c_83 => ?_) (fun c_83 => ?_)
              · have gc_83 : v_walkers.toInt ≤ 1 := i_le (rfl : v_walkers.toInt = v_walkers.toInt) (by decide : (1 : Int32).toInt = 1) c_83
                refine lv_iload hx hb dX10_carried_187 (lv_at hl 2 rfl) ?_
                refine lv_ldcw hx hb hown (hts _ lwd_827) dX10_carried_189 ?_
                refine lv_icmp_ne (tgt := 200) hx hb dX10_carried_192 (by decide) (fun c_84 => ?_) (fun c_84 => ?_)
                · have gc_84 : l_73.toInt ≠ 1000000000 := i_ne (rfl : l_73.toInt = l_73.toInt) (by decide : (1000000000 : Int32).toInt = 1000000000) c_84
                  refine lv_iload_n hx hb dX10_carried_200 rfl (lv_at hl 7 rfl) ?_
                  refine lv_if_ne (tgt := 209) hx hb dX10_carried_201 (by decide) (fun c_85 => ?_) (fun c_85 => ?_)
                  · have gc_85 : what.toInt ≠ 0 := i_ne (rfl : what.toInt = what.toInt) (by decide : (0 : Int32).toInt = 0) c_85
                    refine lv_iload hx hb dX10_carried_209 (lv_at hl 2 rfl) ?_
                    exact hrt l_73 zatW_17 zatL_18 zatT_19 zatH_20 zatM_21 zatI_22 zatQ_23 w_77 w_76 zworth_24 zisRefused_25 zleast_26 f_70 f_69 f_71 f_68 f_67 f_72 ⟨(by omega), (by omega), p_28, hL71_78_2, hL71_78_1, hL71_78_0⟩ hP hD hS rfl dX10_carried_211
                  · have gc_85 : what.toInt = 0 := i_eq (rfl : what.toInt = what.toInt) (by decide : (0 : Int32).toInt = 0) c_85
                    refine lv_iload hx hb dX10_carried_204 (lv_at hl 1 rfl) ?_
                    refine lv_goto (tgt := 211) hx hb dX10_carried_206 (by decide) ?_
                    exact hrt l_74 zatW_17 zatL_18 zatT_19 zatH_20 zatM_21 zatI_22 zatQ_23 w_77 w_76 zworth_24 zisRefused_25 zleast_26 f_70 f_69 f_71 f_68 f_67 f_72 ⟨(by omega), (by omega), p_28, hL71_78_2, hL71_78_1, hL71_78_0⟩ hP hD hS rfl dX10_carried_211
                · have gc_84 : l_73.toInt = 1000000000 := i_eq (rfl : l_73.toInt = l_73.toInt) (by decide : (1000000000 : Int32).toInt = 1000000000) c_84
                  refine lv_bipush (v := (-2)) hx hb dX10_carried_195 (by decide) ?_
                  refine lv_goto (tgt := 211) hx hb dX10_carried_197 (by decide) ?_
                  have k_86 : ((-2) : Int32).toInt = (-2) := by decide
                  exact hrt (-2) zatW_17 zatL_18 zatT_19 zatH_20 zatM_21 zatI_22 zatQ_23 w_77 w_76 zworth_24 zisRefused_25 zleast_26 f_70 f_69 f_71 f_68 f_67 f_72 ⟨(by omega), (by omega), p_28, hL71_78_2, hL71_78_1, hL71_78_0⟩ hP hD hS rfl dX10_carried_211
              · have gc_83 : 1 < v_walkers.toInt := i_nle (rfl : v_walkers.toInt = v_walkers.toInt) (by decide : (1 : Int32).toInt = 1) c_83
                refine lv_aload_n hx hb dX10_carried_88 rfl (lv_at hl 4 rfl) ?_
                refine lv_iload_n hx hb dX10_carried_89 rfl (lv_at hl 5 rfl) ?_
                refine lv_aload_n hx hb dX10_carried_90 rfl (lv_at hl 4 rfl) ?_
                refine xi hD hS hA (xV (As := []) (rest := [.int i, .ref (hm 0)]) hx hb hml hown hts hK hP hD hS hA NT_ok hN hAe hl.1 ⟨Nat.le_refl _, Nat.le_refl _⟩ 0 rfl rfl rfl (c_X10_everybody l D cy hm v_taped v_walkers v_loads v_pieces v_changeCosts v_planned v_isMarch v_clauseMany v_place v_end v_bad v_clauses v_codes v_open v_stacked v_isOver v_isBehind zatW_17 zatL_18 zatT_19 zatH_20 zatM_21 zatI_22 zatQ_23 w_77 w_76 v_goPace v_goMinutes v_spentAt v_ranChanges f_m_tape f_m_knee f_m_weight f_m_isLame f_m_loadWeight f_m_owner f_m_food f_m_miles f_m_slope f_m_clauseLetter f_m_sumFrom f_m_codeFrom f_m_codeTo f_m_code f_m_codeArg f_m_newLetter f_m_newSum f_m_newFrom f_m_newTo f_m_newCode f_m_newArg f_m_stack zworth_24 zisRefused_25 zleast_26 f_70 f_69 f_71 f_68 f_67 f_72 f_m_plainTime f_m_muleTime f_m_planTo f_m_march f_m_tired f_m_ranMinutes f_m_tiredAhead f_m_isReached f_m_toEnd f_m_upTo f_m_upNext f_m_byChanges f_m_bandPaces H.size (by omega)) (gi_V lwd_736 lwd_737 lwd_738 lwd_5 lwd_739) ⟨rfl, hd_X10_everybody⟩ ⟨Nat.le_of_ble_eq_true rfl, Nat.le_of_ble_eq_true rfl⟩ rfl (Nat.le_of_ble_eq_true rfl) dX10_carried_91) (fun r_88 u_87 H locs hw hP hD hS => ?_)
                try dsimp only at hw hP hD
                clear hw
                refine lv_iconst (v := 1) hx hb dX10_carried_94 (by decide) ?_
                refine lv_iload hx hb dX10_carried_95 (lv_at hl 0 rfl) ?_
                refine lv_ishl hx hb dX10_carried_97 ?_
                refine lv_topi (fun n_89 en_89 => ?_)
                have bn_89 := (i_sh1 en_89 (rfl : l_75.toInt = l_75.toInt) (by omega)).2
                refine lv_iconst (v := (-1)) hx hb dX10_carried_98 (by decide) ?_
                refine lv_ixor hx hb dX10_carried_99 ?_
                refine lv_topi (fun n_90 en_90 => ?_)
                refine lv_iand hx hb dX10_carried_100 ?_
                refine lv_topi (fun n_91 en_91 => ?_)
                refine lv_iconst (v := 1) hx hb dX10_carried_101 (by decide) ?_
                refine xv hD hS hA (xV (As := [.int i, .int n_91, .int 1]) (rest := []) hx hb hml hown hts hK hP hD hS hA NT_ok hN hAe hl.1 ⟨Nat.le_refl _, Nat.le_refl _⟩ 0 rfl rfl rfl (c_X10_packs l D cy hm v_taped v_walkers v_loads v_pieces v_changeCosts v_planned v_isMarch v_clauseMany v_place v_end v_bad v_clauses v_codes v_open v_stacked v_isOver v_isBehind zatW_17 zatL_18 zatT_19 zatH_20 zatM_21 zatI_22 zatQ_23 w_77 w_76 v_goPace v_goMinutes v_spentAt v_ranChanges f_m_tape f_m_knee f_m_weight f_m_isLame f_m_loadWeight f_m_owner f_m_food f_m_miles f_m_slope f_m_clauseLetter f_m_sumFrom f_m_codeFrom f_m_codeTo f_m_code f_m_codeArg f_m_newLetter f_m_newSum f_m_newFrom f_m_newTo f_m_newCode f_m_newArg f_m_stack zworth_24 zisRefused_25 zleast_26 f_70 f_69 f_71 f_68 f_67 f_72 f_m_plainTime f_m_muleTime f_m_planTo f_m_march f_m_tired f_m_ranMinutes f_m_tiredAhead f_m_isReached f_m_toEnd f_m_upTo f_m_upNext f_m_byChanges f_m_bandPaces H.size i n_91 1 (by omega) (by omega) hr_m_loadWeight hr_m_owner hr_m_food hL71_78_2 hL71_78_1 (by omega) (by omega)) (gi_V lwd_740 lwd_741 lwd_742 lwd_5 lwd_743) ⟨rfl, hd_X10_packs⟩ ⟨Nat.le_of_ble_eq_true rfl, Nat.le_of_ble_eq_true rfl⟩ rfl (Nat.le_of_ble_eq_true rfl) dX10_carried_102) (fun u_92 H locs hw hP hD hS => ?_)
                obtain ⟨zpacking_94, zpacked_95, zpackPounds_96, zpackOwner_97⟩ := u_92
                try dsimp only at hw hP hD
                obtain ⟨p_98, p_99, p_100, p_101⟩ := hw
                refine lv_aload_n hx hb dX10_carried_105 rfl (lv_at hl 4 rfl) ?_
                refine gt_MD_MD_packPounds hx hb hts hown hK hP lwd_181 dX10_carried_106 ?_
                refine lv_aload_n hx hb dX10_carried_109 rfl (lv_at hl 4 rfl) ?_
                refine gt_MD_MD_packed hx hb hts hown hK hP lwd_745 dX10_carried_110 ?_
                refine lv_aload_n hx hb dX10_carried_113 rfl (lv_at hl 4 rfl) ?_
                refine gt_MD_MD_weight hx hb hts hown hK hP lwd_158 dX10_carried_114 ?_
                refine lv_iload hx hb dX10_carried_117 (lv_at hl 0 rfl) ?_
                refine al_m_weight hx hb hK hP hr_m_weight (i_in (rfl : l_75.toInt = l_75.toInt) (by omega) (by omega)) dX10_carried_119 (fun n_102 en_102 bn_102 => ?_)
                refine as_m_packPounds (x := n_102) hx hb hK hP hD hS p_100 (i_in (rfl : zpacked_95.toInt = zpacked_95.toInt) (by omega) (by omega)) (by omega) dX10_carried_120 (fun f_103 ef_103 rf_103 H locs hP hD hS => ?_)
                refine lv_aload_n hx hb dX10_carried_121 rfl (lv_at hl 4 rfl) ?_
                refine gt_MD_MD_packOwner hx hb hts hown hK hP lwd_182 dX10_carried_122 ?_
                refine lv_aload_n hx hb dX10_carried_125 rfl (lv_at hl 4 rfl) ?_
                refine gt_MD_MD_packed hx hb hts hown hK hP lwd_745 dX10_carried_126 ?_
                refine lv_iconst (v := (-1)) hx hb dX10_carried_129 (by decide) ?_
                refine as_m_packOwner (x := (-1)) hx hb hK hP hD hS p_101 (i_in (rfl : zpacked_95.toInt = zpacked_95.toInt) (by omega) (by omega)) (by decide) dX10_carried_130 (fun f_104 ef_104 rf_104 H locs hP hD hS => ?_)
                refine lv_aload_n hx hb dX10_carried_131 rfl (lv_at hl 4 rfl) ?_
                refine lv_dup hx hb dX10_carried_132 rfl ?_
                refine gt_MD_MD_packed hx hb hts hown hK hP lwd_745 dX10_carried_133 ?_
                refine lv_iconst (v := 1) hx hb dX10_carried_136 (by decide) ?_
                refine lv_iadd hx hb dX10_carried_137 ?_
                refine lv_topi (fun n_105 en_105 => ?_)
                have tn_105 : n_105.toInt = zpacked_95.toInt + 1 := i_add en_105 (rfl : zpacked_95.toInt = zpacked_95.toInt) (by decide : (1 : Int32).toInt = 1) (by omega) (by omega)
                refine pt_MD_MD_packed (x := n_105) hx hb hts hown hK hP hD hS lwd_745 dX10_carried_138 (fun H locs hP hD hS => ?_)
                refine lv_aload_n hx hb dX10_carried_141 rfl (lv_at hl 4 rfl) ?_
                refine lv_iconst (v := (-1)) hx hb dX10_carried_142 (by decide) ?_
                refine xi hD hS hA (xV (As := [.int (-1)]) (rest := []) hx hb hml hown hts hK hP hD hS hA NT_ok hN hAe hl.1 ⟨Nat.le_refl _, Nat.le_refl _⟩ 0 rfl rfl rfl (c_X10_wholePace l D cy hm v_taped v_walkers v_loads v_pieces v_changeCosts v_planned v_isMarch v_clauseMany v_place v_end v_bad v_clauses v_codes v_open v_stacked v_isOver v_isBehind zatW_17 zatL_18 zatT_19 zatH_20 zatM_21 zatI_22 zatQ_23 zpacking_94 n_105 v_goPace v_goMinutes v_spentAt v_ranChanges f_m_tape f_m_knee f_m_weight f_m_isLame f_m_loadWeight f_m_owner f_m_food f_m_miles f_m_slope f_m_clauseLetter f_m_sumFrom f_m_codeFrom f_m_codeTo f_m_code f_m_codeArg f_m_newLetter f_m_newSum f_m_newFrom f_m_newTo f_m_newCode f_m_newArg f_m_stack zworth_24 zisRefused_25 zleast_26 f_103 f_104 f_71 f_68 f_67 f_72 f_m_plainTime f_m_muleTime f_m_planTo f_m_march f_m_tired f_m_ranMinutes f_m_tiredAhead f_m_isReached f_m_toEnd f_m_upTo f_m_upNext f_m_byChanges f_m_bandPaces H.size (-1) (by omega) (by omega) rf_103 rf_104 hL71_78_0) (gi_V lwd_753 lwd_754 lwd_755 lwd_5 lwd_756) ⟨rfl, hd_X10_wholePace⟩ ⟨Nat.le_of_ble_eq_true rfl, Nat.le_of_ble_eq_true rfl⟩ rfl (Nat.le_of_ble_eq_true rfl) dX10_carried_143) (fun r_107 u_106 H locs hw hP hD hS => ?_)
                obtain ⟨zroom_108, zgivenTo_109, zcanBe_110, zsetPounds_111⟩ := u_106
                try dsimp only at hw hP hD
                obtain ⟨p_112, p_113, p_114⟩ := hw
                refine lv_istore (lv' := [(8, .int r_107), (7, .int l_75), (6, .int l_74), (5, .int l_73), (4, .int r_44), (0, .ref (hm 0)), (1, .int i), (2, .int all), (3, .int what)]) hx hb dX10_carried_146 hl (by decide) rfl (fun ls hl => ?_)
                refine lv_iload hx hb dX10_carried_148 (lv_at hl 0 rfl) ?_
                refine lv_if_eq (tgt := 181) hx hb dX10_carried_150 (by decide) (fun c_115 => ?_) (fun c_115 => ?_)
                · have gc_115 : r_107.toInt = 0 := i_eq (rfl : r_107.toInt = r_107.toInt) (by decide : (0 : Int32).toInt = 0) c_115
                  obtain ⟨n_116, en_116⟩ : ∃ y : Int32, y = l_75 + 1 := ⟨_, rfl⟩
                  have tn_116 : n_116.toInt = l_75.toInt + 1 := i_add en_116 (rfl : l_75.toInt = l_75.toInt) (by decide : (1 : Int32).toInt = 1) (by omega) (by omega)
                  refine lv_iinc (v := n_116) (lv' := [(7, .int n_116), (8, .int r_107), (6, .int l_74), (5, .int l_73), (4, .int r_44), (0, .ref (hm 0)), (1, .int i), (2, .int all), (3, .int what)]) hx hb dX10_carried_181 hl (k := 1) rfl (by rw [en_116]; rfl) (by decide) rfl (fun ls hl => ?_)
                  refine lv_goto (tgt := 71) hx hb dX10_carried_184 (by decide) ?_
                  exact ih71_78 zcanBe_110 zgivenTo_109 f_104 f_103 zroom_108 zsetPounds_111 l_73 l_74 n_116 n_105 zpacking_94 p_114 rf_104 rf_103 (by omega) (by omega) (by omega) _ _ _ hP hD hS (lv_sub hl [0, 2, 3, 4, 5, 6, 7, 8] rfl)
                · have gc_115 : r_107.toInt ≠ 0 := i_ne (rfl : r_107.toInt = r_107.toInt) (by decide : (0 : Int32).toInt = 0) c_115
                  refine lv_aload_n hx hb dX10_carried_153 rfl (lv_at hl 5 rfl) ?_
                  refine lv_iload_n hx hb dX10_carried_154 rfl (lv_at hl 6 rfl) ?_
                  refine lv_iload hx hb dX10_carried_155 (lv_at hl 0 rfl) ?_
                  refine xi hD hS hA (xV (As := [.int i, .int r_107]) (rest := []) hx hb hml hown hts hK hP hD hS hA NT_ok hN hAe hl.1 ⟨Nat.le_refl _, Nat.le_refl _⟩ 0 rfl rfl rfl (c_X10_minutesOf l D cy hm v_taped v_walkers v_loads v_pieces v_changeCosts v_planned v_isMarch v_clauseMany v_place v_end v_bad v_clauses v_codes v_open v_stacked v_isOver v_isBehind zatW_17 zatL_18 zatT_19 zatH_20 zatM_21 zatI_22 zatQ_23 zpacking_94 n_105 v_goPace v_goMinutes v_spentAt v_ranChanges f_m_tape f_m_knee f_m_weight f_m_isLame f_m_loadWeight f_m_owner f_m_food f_m_miles f_m_slope f_m_clauseLetter f_m_sumFrom f_m_codeFrom f_m_codeTo f_m_code f_m_codeArg f_m_newLetter f_m_newSum f_m_newFrom f_m_newTo f_m_newCode f_m_newArg f_m_stack zworth_24 zisRefused_25 zleast_26 f_103 f_104 zroom_108 zgivenTo_109 zcanBe_110 zsetPounds_111 f_m_plainTime f_m_muleTime f_m_planTo f_m_march f_m_tired f_m_ranMinutes f_m_tiredAhead f_m_isReached f_m_toEnd f_m_upTo f_m_upNext f_m_byChanges f_m_bandPaces H.size i r_107 hr_m_miles (by omega) (by omega)) (gi_V lwd_668 lwd_669 lwd_670 lwd_5 lwd_671) ⟨rfl, hd_X10_minutesOf⟩ ⟨Nat.le_of_ble_eq_true rfl, Nat.le_of_ble_eq_true rfl⟩ rfl (Nat.le_of_ble_eq_true rfl) dX10_carried_157) (fun r_118 u_117 H locs hw hP hD hS => ?_)
                  try dsimp only at hw hP hD
                  have p_119 := hw
                  clear hw
                  refine lv_iload hx hb dX10_carried_160 (lv_at hl 3 rfl) ?_
                  refine lv_icmp_lt (tgt := 168) hx hb dX10_carried_162 (by decide) (fun c_120 => ?_) (fun c_120 => ?_)
                  · have gc_120 : r_118.toInt < l_73.toInt := i_lt (rfl : r_118.toInt = r_118.toInt) (rfl : l_73.toInt = l_73.toInt) c_120
                    refine lv_aload_n hx hb dX10_carried_168 rfl (lv_at hl 5 rfl) ?_
                    refine lv_iload_n hx hb dX10_carried_169 rfl (lv_at hl 6 rfl) ?_
                    refine lv_iload hx hb dX10_carried_170 (lv_at hl 0 rfl) ?_
                    refine xi hD hS hA (xV (As := [.int i, .int r_107]) (rest := []) hx hb hml hown hts hK hP hD hS hA NT_ok hN hAe hl.1 ⟨Nat.le_refl _, Nat.le_refl _⟩ 0 rfl rfl rfl (c_X10_minutesOf l D cy hm v_taped v_walkers v_loads v_pieces v_changeCosts v_planned v_isMarch v_clauseMany v_place v_end v_bad v_clauses v_codes v_open v_stacked v_isOver v_isBehind zatW_17 zatL_18 zatT_19 zatH_20 zatM_21 zatI_22 zatQ_23 zpacking_94 n_105 v_goPace v_goMinutes v_spentAt v_ranChanges f_m_tape f_m_knee f_m_weight f_m_isLame f_m_loadWeight f_m_owner f_m_food f_m_miles f_m_slope f_m_clauseLetter f_m_sumFrom f_m_codeFrom f_m_codeTo f_m_code f_m_codeArg f_m_newLetter f_m_newSum f_m_newFrom f_m_newTo f_m_newCode f_m_newArg f_m_stack zworth_24 zisRefused_25 zleast_26 f_103 f_104 zroom_108 zgivenTo_109 zcanBe_110 zsetPounds_111 f_m_plainTime f_m_muleTime f_m_planTo f_m_march f_m_tired f_m_ranMinutes f_m_tiredAhead f_m_isReached f_m_toEnd f_m_upTo f_m_upNext f_m_byChanges f_m_bandPaces H.size i r_107 hr_m_miles (by omega) (by omega)) (gi_V lwd_668 lwd_669 lwd_670 lwd_5 lwd_671) ⟨rfl, hd_X10_minutesOf⟩ ⟨Nat.le_of_ble_eq_true rfl, Nat.le_of_ble_eq_true rfl⟩ rfl (Nat.le_of_ble_eq_true rfl) dX10_carried_172) (fun r_122 u_121 H locs hw hP hD hS => ?_)
                    try dsimp only at hw hP hD
                    have p_123 := hw
                    clear hw
                    refine lv_istore (lv' := [(5, .int r_122), (8, .int r_107), (7, .int l_75), (6, .int l_74), (4, .int r_44), (0, .ref (hm 0)), (1, .int i), (2, .int all), (3, .int what)]) hx hb dX10_carried_175 hl (by decide) rfl (fun ls hl => ?_)
                    refine lv_iload hx hb dX10_carried_177 (lv_at hl 2 rfl) ?_
                    refine lv_istore (lv' := [(6, .int l_75), (5, .int r_122), (8, .int r_107), (7, .int l_75), (4, .int r_44), (0, .ref (hm 0)), (1, .int i), (2, .int all), (3, .int what)]) hx hb dX10_carried_179 hl (by decide) rfl (fun ls hl => ?_)
                    obtain ⟨n_124, en_124⟩ : ∃ y : Int32, y = l_75 + 1 := ⟨_, rfl⟩
                    have tn_124 : n_124.toInt = l_75.toInt + 1 := i_add en_124 (rfl : l_75.toInt = l_75.toInt) (by decide : (1 : Int32).toInt = 1) (by omega) (by omega)
                    refine lv_iinc (v := n_124) (lv' := [(7, .int n_124), (6, .int l_75), (5, .int r_122), (8, .int r_107), (4, .int r_44), (0, .ref (hm 0)), (1, .int i), (2, .int all), (3, .int what)]) hx hb dX10_carried_181 hl (k := 3) rfl (by rw [en_124]; rfl) (by decide) rfl (fun ls hl => ?_)
                    refine lv_goto (tgt := 71) hx hb dX10_carried_184 (by decide) ?_
                    exact ih71_78 zcanBe_110 zgivenTo_109 f_104 f_103 zroom_108 zsetPounds_111 r_122 l_75 n_124 n_105 zpacking_94 p_114 rf_104 rf_103 (by omega) (by omega) (by omega) _ _ _ hP hD hS (lv_sub hl [0, 1, 2, 4, 5, 6, 7, 8] rfl)
                  · have gc_120 : l_73.toInt ≤ r_118.toInt := i_nlt (rfl : r_118.toInt = r_118.toInt) (rfl : l_73.toInt = l_73.toInt) c_120
                    refine lv_goto (tgt := 181) hx hb dX10_carried_165 (by decide) ?_
                    obtain ⟨n_125, en_125⟩ : ∃ y : Int32, y = l_75 + 1 := ⟨_, rfl⟩
                    have tn_125 : n_125.toInt = l_75.toInt + 1 := i_add en_125 (rfl : l_75.toInt = l_75.toInt) (by decide : (1 : Int32).toInt = 1) (by omega) (by omega)
                    refine lv_iinc (v := n_125) (lv' := [(7, .int n_125), (8, .int r_107), (6, .int l_74), (5, .int l_73), (4, .int r_44), (0, .ref (hm 0)), (1, .int i), (2, .int all), (3, .int what)]) hx hb dX10_carried_181 hl (k := 1) rfl (by rw [en_125]; rfl) (by decide) rfl (fun ls hl => ?_)
                    refine lv_goto (tgt := 71) hx hb dX10_carried_184 (by decide) ?_
                    exact ih71_78 zcanBe_110 zgivenTo_109 f_104 f_103 zroom_108 zsetPounds_111 l_73 l_74 n_125 n_105 zpacking_94 p_114 rf_104 rf_103 (by omega) (by omega) (by omega) _ _ _ hP hD hS (lv_sub hl [0, 2, 3, 4, 5, 6, 7, 8] rfl)
        have k_126 : ((-1) : Int32).toInt = (-1) := by decide
        have k_127 : (0 : Int32).toInt = 0 := by decide
        exact L71_78 8589934592 zcanBe_47 zgivenTo_46 zpackOwner_37 zpackPounds_36 zroom_45 zsetPounds_48 r_54 (-1) 0 zpacked_35 zpacking_34 p_51 p_41 p_40 (by omega) (by omega) (by omega) _ _ _ hP hD hS (lv_sub hl [0, 1, 2, 3, 4, 5, 6, 7] rfl)
      · have gc_52 : r_44.toInt = 0 := i_eq (rfl : r_44.toInt = r_44.toInt) (by decide : (0 : Int32).toInt = 0) c_52
        refine lv_ldcw hx hb hown (hts _ lwd_827) dX10_carried_50 ?_
        refine lv_goto (tgt := 63) hx hb dX10_carried_53 (by decide) ?_
        refine lv_istore (lv' := [(5, .int 1000000000), (4, .int r_44), (0, .ref (hm 0)), (1, .int i), (2, .int all), (3, .int what)]) hx hb dX10_carried_63 hl (by decide) rfl (fun ls hl => ?_)
        refine lv_iconst (v := (-1)) hx hb dX10_carried_65 (by decide) ?_
        refine lv_istore (lv' := [(6, .int (-1)), (5, .int 1000000000), (4, .int r_44), (0, .ref (hm 0)), (1, .int i), (2, .int all), (3, .int what)]) hx hb dX10_carried_66 hl (by decide) rfl (fun ls hl => ?_)
        refine lv_iconst (v := 0) hx hb dX10_carried_68 (by decide) ?_
        refine lv_istore (lv' := [(7, .int 0), (6, .int (-1)), (5, .int 1000000000), (4, .int r_44), (0, .ref (hm 0)), (1, .int i), (2, .int all), (3, .int what)]) hx hb dX10_carried_69 hl (by decide) rfl (fun ls hl => ?_)
        have L71_150 : ∀ (n : Nat) (f_139 : Nat → Int32) (f_140 : Nat → Int32) (f_141 : Nat → Int32) (f_142 : Nat → Int32) (f_143 : Nat → Int32) (f_144 : Nat → Int32) (l_145 : Int32) (l_146 : Int32) (l_147 : Int32) (w_148 : Int32) (w_149 : Int32), (rg (0) 1 f_139) → (rg (-1) 5 f_141) → (rg (0) 250 f_142) → (0 ≤ l_147.toInt ∧ l_147.toInt ≤ 6) → (0 ≤ w_148.toInt ∧ w_148.toInt ≤ 10) → 7 - l_147.toInt < n → ∀ (H : Heap) (locs : List Loc) (ls : Array Slot), va_P D vwCl (wMD cy hm v_taped v_walkers v_loads v_pieces v_changeCosts v_planned v_isMarch v_clauseMany v_place v_end v_bad v_clauses v_codes v_open v_stacked v_isOver v_isBehind zatW_17 zatL_18 zatT_19 zatH_20 zatM_21 zatI_22 zatQ_23 w_149 w_148 v_goPace v_goMinutes v_spentAt v_ranChanges f_m_tape f_m_knee f_m_weight f_m_isLame f_m_loadWeight f_m_owner f_m_food f_m_miles f_m_slope f_m_clauseLetter f_m_sumFrom f_m_codeFrom f_m_codeTo f_m_code f_m_codeArg f_m_newLetter f_m_newSum f_m_newFrom f_m_newTo f_m_newCode f_m_newArg f_m_stack zworth_24 zisRefused_25 zleast_26 f_142 f_141 f_143 f_140 f_139 f_144 f_m_plainTime f_m_muleTime f_m_planTo f_m_march f_m_tired f_m_ranMinutes f_m_tiredAhead f_m_isReached f_m_toEnd f_m_upTo f_m_upNext f_m_byChanges f_m_bandPaces) H → va_D A (wMD cy hm v_taped v_walkers v_loads v_pieces v_changeCosts v_planned v_isMarch v_clauseMany v_place v_end v_bad v_clauses v_codes v_open v_stacked v_isOver v_isBehind zatW_17 zatL_18 zatT_19 zatH_20 zatM_21 zatI_22 zatQ_23 w_149 w_148 v_goPace v_goMinutes v_spentAt v_ranChanges f_m_tape f_m_knee f_m_weight f_m_isLame f_m_loadWeight f_m_owner f_m_food f_m_miles f_m_slope f_m_clauseLetter f_m_sumFrom f_m_codeFrom f_m_codeTo f_m_code f_m_codeArg f_m_newLetter f_m_newSum f_m_newFrom f_m_newTo f_m_newCode f_m_newArg f_m_stack zworth_24 zisRefused_25 zleast_26 f_142 f_141 f_143 f_140 f_139 f_144 f_m_plainTime f_m_muleTime f_m_planTo f_m_march f_m_tired f_m_ranMinutes f_m_tiredAhead f_m_isReached f_m_toEnd f_m_upTo f_m_upNext f_m_byChanges f_m_bandPaces) → va_S A s.heap H locs → lv_has ls 9 [(7, .int l_147), (6, .int l_146), (5, .int l_145), (4, .int r_44), (0, .ref (hm 0)), (1, .int i), (2, .int all), (3, .int what)] → W p l e (gRm 8) s m args below meth c H locs 0 0 Q (F0 m 71 ls []) := by
          intro n
          induction n with
          | zero => intro f_139 f_140 f_141 f_142 f_143 f_144 l_145 l_146 l_147 w_148 w_149 hL71_150_0 hL71_150_1 hL71_150_2 hL71_150_3 hL71_150_4 hm; exact absurd hm (by omega)
          | succ n ih71_150 =>
            intro f_139 f_140 f_141 f_142 f_143 f_144 l_145 l_146 l_147 w_148 w_149 hL71_150_0 hL71_150_1 hL71_150_2 hL71_150_3 hL71_150_4 hmL71_150 H locs ls hP hD hS hl
            refine lv_iload hx hb dX10_carried_71 (lv_at hl 0 rfl) ?_
            refine lv_aload_n hx hb dX10_carried_73 rfl (lv_at hl 4 rfl) ?_
            refine gt_MD_MD_walkers hx hb hts hown hK hP lwd_221 dX10_carried_74 ?_
            refine lv_icmp_ge (tgt := 187) hx hb dX10_carried_77 (by decide) (fun c_151 => ?_) (fun c_151 => ?_)
            · have gc_151 : v_walkers.toInt ≤ l_147.toInt := i_le (rfl : v_walkers.toInt = v_walkers.toInt) (rfl : l_147.toInt = l_147.toInt) c_151
              refine lv_iload hx hb dX10_carried_187 (lv_at hl 2 rfl) ?_
              refine lv_ldcw hx hb hown (hts _ lwd_827) dX10_carried_189 ?_
              refine lv_icmp_ne (tgt := 200) hx hb dX10_carried_192 (by decide) (fun c_152 => ?_) (fun c_152 => ?_)
              · have gc_152 : l_145.toInt ≠ 1000000000 := i_ne (rfl : l_145.toInt = l_145.toInt) (by decide : (1000000000 : Int32).toInt = 1000000000) c_152
                refine lv_iload_n hx hb dX10_carried_200 rfl (lv_at hl 7 rfl) ?_
                refine lv_if_ne (tgt := 209) hx hb dX10_carried_201 (by decide) (fun c_153 => ?_) (fun c_153 => ?_)
                · have gc_153 : what.toInt ≠ 0 := i_ne (rfl : what.toInt = what.toInt) (by decide : (0 : Int32).toInt = 0) c_153
                  refine lv_iload hx hb dX10_carried_209 (lv_at hl 2 rfl) ?_
                  exact hrt l_145 zatW_17 zatL_18 zatT_19 zatH_20 zatM_21 zatI_22 zatQ_23 w_149 w_148 zworth_24 zisRefused_25 zleast_26 f_142 f_141 f_143 f_140 f_139 f_144 ⟨(by omega), (by omega), p_28, hL71_150_2, hL71_150_1, hL71_150_0⟩ hP hD hS rfl dX10_carried_211
                · have gc_153 : what.toInt = 0 := i_eq (rfl : what.toInt = what.toInt) (by decide : (0 : Int32).toInt = 0) c_153
                  refine lv_iload hx hb dX10_carried_204 (lv_at hl 1 rfl) ?_
                  refine lv_goto (tgt := 211) hx hb dX10_carried_206 (by decide) ?_
                  exact hrt l_146 zatW_17 zatL_18 zatT_19 zatH_20 zatM_21 zatI_22 zatQ_23 w_149 w_148 zworth_24 zisRefused_25 zleast_26 f_142 f_141 f_143 f_140 f_139 f_144 ⟨(by omega), (by omega), p_28, hL71_150_2, hL71_150_1, hL71_150_0⟩ hP hD hS rfl dX10_carried_211
              · have gc_152 : l_145.toInt = 1000000000 := i_eq (rfl : l_145.toInt = l_145.toInt) (by decide : (1000000000 : Int32).toInt = 1000000000) c_152
                refine lv_bipush (v := (-2)) hx hb dX10_carried_195 (by decide) ?_
                refine lv_goto (tgt := 211) hx hb dX10_carried_197 (by decide) ?_
                have k_154 : ((-2) : Int32).toInt = (-2) := by decide
                exact hrt (-2) zatW_17 zatL_18 zatT_19 zatH_20 zatM_21 zatI_22 zatQ_23 w_149 w_148 zworth_24 zisRefused_25 zleast_26 f_142 f_141 f_143 f_140 f_139 f_144 ⟨(by omega), (by omega), p_28, hL71_150_2, hL71_150_1, hL71_150_0⟩ hP hD hS rfl dX10_carried_211
            · have gc_151 : l_147.toInt < v_walkers.toInt := i_nle (rfl : v_walkers.toInt = v_walkers.toInt) (rfl : l_147.toInt = l_147.toInt) c_151
              refine lv_aload_n hx hb dX10_carried_80 rfl (lv_at hl 4 rfl) ?_
              refine gt_MD_MD_walkers hx hb hts hown hK hP lwd_221 dX10_carried_81 ?_
              refine lv_iconst (v := 1) hx hb dX10_carried_84 (by decide) ?_
              refine lv_icmp_le (tgt := 187) hx hb dX10_carried_85 (by decide) (fun c_155 => ?_) (fun c_155 => ?_)
              · have gc_155 : v_walkers.toInt ≤ 1 := i_le (rfl : v_walkers.toInt = v_walkers.toInt) (by decide : (1 : Int32).toInt = 1) c_155
                refine lv_iload hx hb dX10_carried_187 (lv_at hl 2 rfl) ?_
                refine lv_ldcw hx hb hown (hts _ lwd_827) dX10_carried_189 ?_
                refine lv_icmp_ne (tgt := 200) hx hb dX10_carried_192 (by decide) (fun c_156 => ?_) (fun c_156 => ?_)
                · have gc_156 : l_145.toInt ≠ 1000000000 := i_ne (rfl : l_145.toInt = l_145.toInt) (by decide : (1000000000 : Int32).toInt = 1000000000) c_156
                  refine lv_iload_n hx hb dX10_carried_200 rfl (lv_at hl 7 rfl) ?_
                  refine lv_if_ne (tgt := 209) hx hb dX10_carried_201 (by decide) (fun c_157 => ?_) (fun c_157 => ?_)
                  · have gc_157 : what.toInt ≠ 0 := i_ne (rfl : what.toInt = what.toInt) (by decide : (0 : Int32).toInt = 0) c_157
                    refine lv_iload hx hb dX10_carried_209 (lv_at hl 2 rfl) ?_
                    exact hrt l_145 zatW_17 zatL_18 zatT_19 zatH_20 zatM_21 zatI_22 zatQ_23 w_149 w_148 zworth_24 zisRefused_25 zleast_26 f_142 f_141 f_143 f_140 f_139 f_144 ⟨(by omega), (by omega), p_28, hL71_150_2, hL71_150_1, hL71_150_0⟩ hP hD hS rfl dX10_carried_211
                  · have gc_157 : what.toInt = 0 := i_eq (rfl : what.toInt = what.toInt) (by decide : (0 : Int32).toInt = 0) c_157
                    refine lv_iload hx hb dX10_carried_204 (lv_at hl 1 rfl) ?_
                    refine lv_goto (tgt := 211) hx hb dX10_carried_206 (by decide) ?_
                    exact hrt l_146 zatW_17 zatL_18 zatT_19 zatH_20 zatM_21 zatI_22 zatQ_23 w_149 w_148 zworth_24 zisRefused_25 zleast_26 f_142 f_141 f_143 f_140 f_139 f_144 ⟨(by omega), (by omega), p_28, hL71_150_2, hL71_150_1, hL71_150_0⟩ hP hD hS rfl dX10_carried_211
                · have gc_156 : l_145.toInt = 1000000000 := i_eq (rfl : l_145.toInt = l_145.toInt) (by decide : (1000000000 : Int32).toInt = 1000000000) c_156
                  refine lv_bipush (v := (-2)) hx hb dX10_carried_195 (by decide) ?_
                  refine lv_goto (tgt := 211) hx hb dX10_carried_197 (by decide) ?_
                  have k_158 : ((-2) : Int32).toInt = (-2) := by decide
                  exact hrt (-2) zatW_17 zatL_18 zatT_19 zatH_20 zatM_21 zatI_22 zatQ_23 w_149 w_148 zworth_24 zisRefused_25 zleast_26 f_142 f_141 f_143 f_140 f_139 f_144 ⟨(by omega), (by omega), p_28, hL71_150_2, hL71_150_1, hL71_150_0⟩ hP hD hS rfl dX10_carried_211
              · have gc_155 : 1 < v_walkers.toInt := i_nle (rfl : v_walkers.toInt = v_walkers.toInt) (by decide : (1 : Int32).toInt = 1) c_155
                refine lv_aload_n hx hb dX10_carried_88 rfl (lv_at hl 4 rfl) ?_
                refine lv_iload_n hx hb dX10_carried_89 rfl (lv_at hl 5 rfl) ?_
                refine lv_aload_n hx hb dX10_carried_90 rfl (lv_at hl 4 rfl) ?_
                refine xi hD hS hA (xV (As := []) (rest := [.int i, .ref (hm 0)]) hx hb hml hown hts hK hP hD hS hA NT_ok hN hAe hl.1 ⟨Nat.le_refl _, Nat.le_refl _⟩ 0 rfl rfl rfl (c_X10_everybody l D cy hm v_taped v_walkers v_loads v_pieces v_changeCosts v_planned v_isMarch v_clauseMany v_place v_end v_bad v_clauses v_codes v_open v_stacked v_isOver v_isBehind zatW_17 zatL_18 zatT_19 zatH_20 zatM_21 zatI_22 zatQ_23 w_149 w_148 v_goPace v_goMinutes v_spentAt v_ranChanges f_m_tape f_m_knee f_m_weight f_m_isLame f_m_loadWeight f_m_owner f_m_food f_m_miles f_m_slope f_m_clauseLetter f_m_sumFrom f_m_codeFrom f_m_codeTo f_m_code f_m_codeArg f_m_newLetter f_m_newSum f_m_newFrom f_m_newTo f_m_newCode f_m_newArg f_m_stack zworth_24 zisRefused_25 zleast_26 f_142 f_141 f_143 f_140 f_139 f_144 f_m_plainTime f_m_muleTime f_m_planTo f_m_march f_m_tired f_m_ranMinutes f_m_tiredAhead f_m_isReached f_m_toEnd f_m_upTo f_m_upNext f_m_byChanges f_m_bandPaces H.size (by omega)) (gi_V lwd_736 lwd_737 lwd_738 lwd_5 lwd_739) ⟨rfl, hd_X10_everybody⟩ ⟨Nat.le_of_ble_eq_true rfl, Nat.le_of_ble_eq_true rfl⟩ rfl (Nat.le_of_ble_eq_true rfl) dX10_carried_91) (fun r_160 u_159 H locs hw hP hD hS => ?_)
                try dsimp only at hw hP hD
                clear hw
                refine lv_iconst (v := 1) hx hb dX10_carried_94 (by decide) ?_
                refine lv_iload hx hb dX10_carried_95 (lv_at hl 0 rfl) ?_
                refine lv_ishl hx hb dX10_carried_97 ?_
                refine lv_topi (fun n_161 en_161 => ?_)
                have bn_161 := (i_sh1 en_161 (rfl : l_147.toInt = l_147.toInt) (by omega)).2
                refine lv_iconst (v := (-1)) hx hb dX10_carried_98 (by decide) ?_
                refine lv_ixor hx hb dX10_carried_99 ?_
                refine lv_topi (fun n_162 en_162 => ?_)
                refine lv_iand hx hb dX10_carried_100 ?_
                refine lv_topi (fun n_163 en_163 => ?_)
                refine lv_iconst (v := 1) hx hb dX10_carried_101 (by decide) ?_
                refine xv hD hS hA (xV (As := [.int i, .int n_163, .int 1]) (rest := []) hx hb hml hown hts hK hP hD hS hA NT_ok hN hAe hl.1 ⟨Nat.le_refl _, Nat.le_refl _⟩ 0 rfl rfl rfl (c_X10_packs l D cy hm v_taped v_walkers v_loads v_pieces v_changeCosts v_planned v_isMarch v_clauseMany v_place v_end v_bad v_clauses v_codes v_open v_stacked v_isOver v_isBehind zatW_17 zatL_18 zatT_19 zatH_20 zatM_21 zatI_22 zatQ_23 w_149 w_148 v_goPace v_goMinutes v_spentAt v_ranChanges f_m_tape f_m_knee f_m_weight f_m_isLame f_m_loadWeight f_m_owner f_m_food f_m_miles f_m_slope f_m_clauseLetter f_m_sumFrom f_m_codeFrom f_m_codeTo f_m_code f_m_codeArg f_m_newLetter f_m_newSum f_m_newFrom f_m_newTo f_m_newCode f_m_newArg f_m_stack zworth_24 zisRefused_25 zleast_26 f_142 f_141 f_143 f_140 f_139 f_144 f_m_plainTime f_m_muleTime f_m_planTo f_m_march f_m_tired f_m_ranMinutes f_m_tiredAhead f_m_isReached f_m_toEnd f_m_upTo f_m_upNext f_m_byChanges f_m_bandPaces H.size i n_163 1 (by omega) (by omega) hr_m_loadWeight hr_m_owner hr_m_food hL71_150_2 hL71_150_1 (by omega) (by omega)) (gi_V lwd_740 lwd_741 lwd_742 lwd_5 lwd_743) ⟨rfl, hd_X10_packs⟩ ⟨Nat.le_of_ble_eq_true rfl, Nat.le_of_ble_eq_true rfl⟩ rfl (Nat.le_of_ble_eq_true rfl) dX10_carried_102) (fun u_164 H locs hw hP hD hS => ?_)
                obtain ⟨zpacking_166, zpacked_167, zpackPounds_168, zpackOwner_169⟩ := u_164
                try dsimp only at hw hP hD
                obtain ⟨p_170, p_171, p_172, p_173⟩ := hw
                refine lv_aload_n hx hb dX10_carried_105 rfl (lv_at hl 4 rfl) ?_
                refine gt_MD_MD_packPounds hx hb hts hown hK hP lwd_181 dX10_carried_106 ?_
                refine lv_aload_n hx hb dX10_carried_109 rfl (lv_at hl 4 rfl) ?_
                refine gt_MD_MD_packed hx hb hts hown hK hP lwd_745 dX10_carried_110 ?_
                refine lv_aload_n hx hb dX10_carried_113 rfl (lv_at hl 4 rfl) ?_
                refine gt_MD_MD_weight hx hb hts hown hK hP lwd_158 dX10_carried_114 ?_
                refine lv_iload hx hb dX10_carried_117 (lv_at hl 0 rfl) ?_
                refine al_m_weight hx hb hK hP hr_m_weight (i_in (rfl : l_147.toInt = l_147.toInt) (by omega) (by omega)) dX10_carried_119 (fun n_174 en_174 bn_174 => ?_)
                refine as_m_packPounds (x := n_174) hx hb hK hP hD hS p_172 (i_in (rfl : zpacked_167.toInt = zpacked_167.toInt) (by omega) (by omega)) (by omega) dX10_carried_120 (fun f_175 ef_175 rf_175 H locs hP hD hS => ?_)
                refine lv_aload_n hx hb dX10_carried_121 rfl (lv_at hl 4 rfl) ?_
                refine gt_MD_MD_packOwner hx hb hts hown hK hP lwd_182 dX10_carried_122 ?_
                refine lv_aload_n hx hb dX10_carried_125 rfl (lv_at hl 4 rfl) ?_
                refine gt_MD_MD_packed hx hb hts hown hK hP lwd_745 dX10_carried_126 ?_
                refine lv_iconst (v := (-1)) hx hb dX10_carried_129 (by decide) ?_
                refine as_m_packOwner (x := (-1)) hx hb hK hP hD hS p_173 (i_in (rfl : zpacked_167.toInt = zpacked_167.toInt) (by omega) (by omega)) (by decide) dX10_carried_130 (fun f_176 ef_176 rf_176 H locs hP hD hS => ?_)
                refine lv_aload_n hx hb dX10_carried_131 rfl (lv_at hl 4 rfl) ?_
                refine lv_dup hx hb dX10_carried_132 rfl ?_
                refine gt_MD_MD_packed hx hb hts hown hK hP lwd_745 dX10_carried_133 ?_
                refine lv_iconst (v := 1) hx hb dX10_carried_136 (by decide) ?_
                refine lv_iadd hx hb dX10_carried_137 ?_
                refine lv_topi (fun n_177 en_177 => ?_)
                have tn_177 : n_177.toInt = zpacked_167.toInt + 1 := i_add en_177 (rfl : zpacked_167.toInt = zpacked_167.toInt) (by decide : (1 : Int32).toInt = 1) (by omega) (by omega)
                refine pt_MD_MD_packed (x := n_177) hx hb hts hown hK hP hD hS lwd_745 dX10_carried_138 (fun H locs hP hD hS => ?_)
                refine lv_aload_n hx hb dX10_carried_141 rfl (lv_at hl 4 rfl) ?_
                refine lv_iconst (v := (-1)) hx hb dX10_carried_142 (by decide) ?_
                refine xi hD hS hA (xV (As := [.int (-1)]) (rest := []) hx hb hml hown hts hK hP hD hS hA NT_ok hN hAe hl.1 ⟨Nat.le_refl _, Nat.le_refl _⟩ 0 rfl rfl rfl (c_X10_wholePace l D cy hm v_taped v_walkers v_loads v_pieces v_changeCosts v_planned v_isMarch v_clauseMany v_place v_end v_bad v_clauses v_codes v_open v_stacked v_isOver v_isBehind zatW_17 zatL_18 zatT_19 zatH_20 zatM_21 zatI_22 zatQ_23 zpacking_166 n_177 v_goPace v_goMinutes v_spentAt v_ranChanges f_m_tape f_m_knee f_m_weight f_m_isLame f_m_loadWeight f_m_owner f_m_food f_m_miles f_m_slope f_m_clauseLetter f_m_sumFrom f_m_codeFrom f_m_codeTo f_m_code f_m_codeArg f_m_newLetter f_m_newSum f_m_newFrom f_m_newTo f_m_newCode f_m_newArg f_m_stack zworth_24 zisRefused_25 zleast_26 f_175 f_176 f_143 f_140 f_139 f_144 f_m_plainTime f_m_muleTime f_m_planTo f_m_march f_m_tired f_m_ranMinutes f_m_tiredAhead f_m_isReached f_m_toEnd f_m_upTo f_m_upNext f_m_byChanges f_m_bandPaces H.size (-1) (by omega) (by omega) rf_175 rf_176 hL71_150_0) (gi_V lwd_753 lwd_754 lwd_755 lwd_5 lwd_756) ⟨rfl, hd_X10_wholePace⟩ ⟨Nat.le_of_ble_eq_true rfl, Nat.le_of_ble_eq_true rfl⟩ rfl (Nat.le_of_ble_eq_true rfl) dX10_carried_143) (fun r_179 u_178 H locs hw hP hD hS => ?_)
                obtain ⟨zroom_180, zgivenTo_181, zcanBe_182, zsetPounds_183⟩ := u_178
                try dsimp only at hw hP hD
                obtain ⟨p_184, p_185, p_186⟩ := hw
                refine lv_istore (lv' := [(8, .int r_179), (7, .int l_147), (6, .int l_146), (5, .int l_145), (4, .int r_44), (0, .ref (hm 0)), (1, .int i), (2, .int all), (3, .int what)]) hx hb dX10_carried_146 hl (by decide) rfl (fun ls hl => ?_)
                refine lv_iload hx hb dX10_carried_148 (lv_at hl 0 rfl) ?_
                refine lv_if_eq (tgt := 181) hx hb dX10_carried_150 (by decide) (fun c_187 => ?_) (fun c_187 => ?_)
                · have gc_187 : r_179.toInt = 0 := i_eq (rfl : r_179.toInt = r_179.toInt) (by decide : (0 : Int32).toInt = 0) c_187
                  obtain ⟨n_188, en_188⟩ : ∃ y : Int32, y = l_147 + 1 := ⟨_, rfl⟩
                  have tn_188 : n_188.toInt = l_147.toInt + 1 := i_add en_188 (rfl : l_147.toInt = l_147.toInt) (by decide : (1 : Int32).toInt = 1) (by omega) (by omega)
                  refine lv_iinc (v := n_188) (lv' := [(7, .int n_188), (8, .int r_179), (6, .int l_146), (5, .int l_145), (4, .int r_44), (0, .ref (hm 0)), (1, .int i), (2, .int all), (3, .int what)]) hx hb dX10_carried_181 hl (k := 1) rfl (by rw [en_188]; rfl) (by decide) rfl (fun ls hl => ?_)
                  refine lv_goto (tgt := 71) hx hb dX10_carried_184 (by decide) ?_
                  exact ih71_150 zcanBe_182 zgivenTo_181 f_176 f_175 zroom_180 zsetPounds_183 l_145 l_146 n_188 n_177 zpacking_166 p_186 rf_176 rf_175 (by omega) (by omega) (by omega) _ _ _ hP hD hS (lv_sub hl [0, 2, 3, 4, 5, 6, 7, 8] rfl)
                · have gc_187 : r_179.toInt ≠ 0 := i_ne (rfl : r_179.toInt = r_179.toInt) (by decide : (0 : Int32).toInt = 0) c_187
                  refine lv_aload_n hx hb dX10_carried_153 rfl (lv_at hl 5 rfl) ?_
                  refine lv_iload_n hx hb dX10_carried_154 rfl (lv_at hl 6 rfl) ?_
                  refine lv_iload hx hb dX10_carried_155 (lv_at hl 0 rfl) ?_
                  refine xi hD hS hA (xV (As := [.int i, .int r_179]) (rest := []) hx hb hml hown hts hK hP hD hS hA NT_ok hN hAe hl.1 ⟨Nat.le_refl _, Nat.le_refl _⟩ 0 rfl rfl rfl (c_X10_minutesOf l D cy hm v_taped v_walkers v_loads v_pieces v_changeCosts v_planned v_isMarch v_clauseMany v_place v_end v_bad v_clauses v_codes v_open v_stacked v_isOver v_isBehind zatW_17 zatL_18 zatT_19 zatH_20 zatM_21 zatI_22 zatQ_23 zpacking_166 n_177 v_goPace v_goMinutes v_spentAt v_ranChanges f_m_tape f_m_knee f_m_weight f_m_isLame f_m_loadWeight f_m_owner f_m_food f_m_miles f_m_slope f_m_clauseLetter f_m_sumFrom f_m_codeFrom f_m_codeTo f_m_code f_m_codeArg f_m_newLetter f_m_newSum f_m_newFrom f_m_newTo f_m_newCode f_m_newArg f_m_stack zworth_24 zisRefused_25 zleast_26 f_175 f_176 zroom_180 zgivenTo_181 zcanBe_182 zsetPounds_183 f_m_plainTime f_m_muleTime f_m_planTo f_m_march f_m_tired f_m_ranMinutes f_m_tiredAhead f_m_isReached f_m_toEnd f_m_upTo f_m_upNext f_m_byChanges f_m_bandPaces H.size i r_179 hr_m_miles (by omega) (by omega)) (gi_V lwd_668 lwd_669 lwd_670 lwd_5 lwd_671) ⟨rfl, hd_X10_minutesOf⟩ ⟨Nat.le_of_ble_eq_true rfl, Nat.le_of_ble_eq_true rfl⟩ rfl (Nat.le_of_ble_eq_true rfl) dX10_carried_157) (fun r_190 u_189 H locs hw hP hD hS => ?_)
                  try dsimp only at hw hP hD
                  have p_191 := hw
                  clear hw
                  refine lv_iload hx hb dX10_carried_160 (lv_at hl 3 rfl) ?_
                  refine lv_icmp_lt (tgt := 168) hx hb dX10_carried_162 (by decide) (fun c_192 => ?_) (fun c_192 => ?_)
                  · have gc_192 : r_190.toInt < l_145.toInt := i_lt (rfl : r_190.toInt = r_190.toInt) (rfl : l_145.toInt = l_145.toInt) c_192
                    refine lv_aload_n hx hb dX10_carried_168 rfl (lv_at hl 5 rfl) ?_
                    refine lv_iload_n hx hb dX10_carried_169 rfl (lv_at hl 6 rfl) ?_
                    refine lv_iload hx hb dX10_carried_170 (lv_at hl 0 rfl) ?_
                    refine xi hD hS hA (xV (As := [.int i, .int r_179]) (rest := []) hx hb hml hown hts hK hP hD hS hA NT_ok hN hAe hl.1 ⟨Nat.le_refl _, Nat.le_refl _⟩ 0 rfl rfl rfl (c_X10_minutesOf l D cy hm v_taped v_walkers v_loads v_pieces v_changeCosts v_planned v_isMarch v_clauseMany v_place v_end v_bad v_clauses v_codes v_open v_stacked v_isOver v_isBehind zatW_17 zatL_18 zatT_19 zatH_20 zatM_21 zatI_22 zatQ_23 zpacking_166 n_177 v_goPace v_goMinutes v_spentAt v_ranChanges f_m_tape f_m_knee f_m_weight f_m_isLame f_m_loadWeight f_m_owner f_m_food f_m_miles f_m_slope f_m_clauseLetter f_m_sumFrom f_m_codeFrom f_m_codeTo f_m_code f_m_codeArg f_m_newLetter f_m_newSum f_m_newFrom f_m_newTo f_m_newCode f_m_newArg f_m_stack zworth_24 zisRefused_25 zleast_26 f_175 f_176 zroom_180 zgivenTo_181 zcanBe_182 zsetPounds_183 f_m_plainTime f_m_muleTime f_m_planTo f_m_march f_m_tired f_m_ranMinutes f_m_tiredAhead f_m_isReached f_m_toEnd f_m_upTo f_m_upNext f_m_byChanges f_m_bandPaces H.size i r_179 hr_m_miles (by omega) (by omega)) (gi_V lwd_668 lwd_669 lwd_670 lwd_5 lwd_671) ⟨rfl, hd_X10_minutesOf⟩ ⟨Nat.le_of_ble_eq_true rfl, Nat.le_of_ble_eq_true rfl⟩ rfl (Nat.le_of_ble_eq_true rfl) dX10_carried_172) (fun r_194 u_193 H locs hw hP hD hS => ?_)
                    try dsimp only at hw hP hD
                    have p_195 := hw
                    clear hw
                    refine lv_istore (lv' := [(5, .int r_194), (8, .int r_179), (7, .int l_147), (6, .int l_146), (4, .int r_44), (0, .ref (hm 0)), (1, .int i), (2, .int all), (3, .int what)]) hx hb dX10_carried_175 hl (by decide) rfl (fun ls hl => ?_)
                    refine lv_iload hx hb dX10_carried_177 (lv_at hl 2 rfl) ?_
                    refine lv_istore (lv' := [(6, .int l_147), (5, .int r_194), (8, .int r_179), (7, .int l_147), (4, .int r_44), (0, .ref (hm 0)), (1, .int i), (2, .int all), (3, .int what)]) hx hb dX10_carried_179 hl (by decide) rfl (fun ls hl => ?_)
                    obtain ⟨n_196, en_196⟩ : ∃ y : Int32, y = l_147 + 1 := ⟨_, rfl⟩
                    have tn_196 : n_196.toInt = l_147.toInt + 1 := i_add en_196 (rfl : l_147.toInt = l_147.toInt) (by decide : (1 : Int32).toInt = 1) (by omega) (by omega)
                    refine lv_iinc (v := n_196) (lv' := [(7, .int n_196), (6, .int l_147), (5, .int r_194), (8, .int r_179), (4, .int r_44), (0, .ref (hm 0)), (1, .int i), (2, .int all), (3, .int what)]) hx hb dX10_carried_181 hl (k := 3) rfl (by rw [en_196]; rfl) (by decide) rfl (fun ls hl => ?_)
                    refine lv_goto (tgt := 71) hx hb dX10_carried_184 (by decide) ?_
                    exact ih71_150 zcanBe_182 zgivenTo_181 f_176 f_175 zroom_180 zsetPounds_183 r_194 l_147 n_196 n_177 zpacking_166 p_186 rf_176 rf_175 (by omega) (by omega) (by omega) _ _ _ hP hD hS (lv_sub hl [0, 1, 2, 4, 5, 6, 7, 8] rfl)
                  · have gc_192 : l_145.toInt ≤ r_190.toInt := i_nlt (rfl : r_190.toInt = r_190.toInt) (rfl : l_145.toInt = l_145.toInt) c_192
                    refine lv_goto (tgt := 181) hx hb dX10_carried_165 (by decide) ?_
                    obtain ⟨n_197, en_197⟩ : ∃ y : Int32, y = l_147 + 1 := ⟨_, rfl⟩
                    have tn_197 : n_197.toInt = l_147.toInt + 1 := i_add en_197 (rfl : l_147.toInt = l_147.toInt) (by decide : (1 : Int32).toInt = 1) (by omega) (by omega)
                    refine lv_iinc (v := n_197) (lv' := [(7, .int n_197), (8, .int r_179), (6, .int l_146), (5, .int l_145), (4, .int r_44), (0, .ref (hm 0)), (1, .int i), (2, .int all), (3, .int what)]) hx hb dX10_carried_181 hl (k := 1) rfl (by rw [en_197]; rfl) (by decide) rfl (fun ls hl => ?_)
                    refine lv_goto (tgt := 71) hx hb dX10_carried_184 (by decide) ?_
                    exact ih71_150 zcanBe_182 zgivenTo_181 f_176 f_175 zroom_180 zsetPounds_183 l_145 l_146 n_197 n_177 zpacking_166 p_186 rf_176 rf_175 (by omega) (by omega) (by omega) _ _ _ hP hD hS (lv_sub hl [0, 2, 3, 4, 5, 6, 7, 8] rfl)
        have k_198 : (1000000000 : Int32).toInt = 1000000000 := by decide
        have k_199 : ((-1) : Int32).toInt = (-1) := by decide
        have k_200 : (0 : Int32).toInt = 0 := by decide
        exact L71_150 8589934592 zcanBe_47 zgivenTo_46 zpackOwner_37 zpackPounds_36 zroom_45 zsetPounds_48 1000000000 (-1) 0 zpacked_35 zpacking_34 p_51 p_41 p_40 (by omega) (by omega) (by omega) _ _ _ hP hD hS (lv_sub hl [0, 1, 2, 3, 4, 5, 6, 7] rfl)
    · have gc_14 : r_11.toInt = 0 := i_eq (rfl : r_11.toInt = r_11.toInt) (by decide : (0 : Int32).toInt = 0) c_14
      refine lv_bipush (v := (-3)) hx hb dX10_carried_19 (by decide) ?_
      have k_201 : ((-3) : Int32).toInt = (-3) := by decide
      exact hrt (-3) v_atW v_atL v_atT v_atH v_atM v_atI v_atQ v_packing v_packed f_m_worth f_m_isRefused f_m_least f_m_packPounds f_m_packOwner f_m_room f_m_givenTo f_m_canBe f_m_setPounds ⟨(by omega), (by omega), hr_m_isRefused, hr_m_packPounds, hr_m_packOwner, hr_m_canBe⟩ hP hD hS rfl dX10_carried_21
set_option maxHeartbeats 16000000 in
set_option maxRecDepth 100000 in
theorem c_X10_partsTime (l : Launch) (D : va_G) (cy : Nat → ClassId) (hm : Nat → Nat) (v_taped v_walkers v_loads v_pieces v_changeCosts v_planned v_isMarch v_clauseMany v_place v_end v_bad v_clauses v_codes v_open v_stacked v_isOver v_isBehind v_atW v_atL v_atT v_atH v_atM v_atI v_atQ v_packing v_packed v_goPace v_goMinutes v_spentAt v_ranChanges : Int32) (f_m_tape f_m_knee f_m_weight f_m_isLame f_m_loadWeight f_m_owner f_m_food f_m_miles f_m_slope f_m_clauseLetter f_m_sumFrom f_m_codeFrom f_m_codeTo f_m_code f_m_codeArg f_m_newLetter f_m_newSum f_m_newFrom f_m_newTo f_m_newCode f_m_newArg f_m_stack f_m_worth f_m_isRefused f_m_least f_m_packPounds f_m_packOwner f_m_room f_m_givenTo f_m_canBe f_m_setPounds f_m_plainTime f_m_muleTime f_m_planTo f_m_march f_m_tired f_m_ranMinutes f_m_tiredAhead f_m_isReached f_m_toEnd f_m_upTo f_m_upNext f_m_byChanges f_m_bandPaces : Nat → Int32) (sz : Nat) (i : Int32) (pd : Int32) (hb_v_walkers : 0 ≤ v_walkers.toInt ∧ v_walkers.toInt ≤ 6) (hr_m_miles : rg (0) 20 f_m_miles) (ha_i : 0 ≤ i.toInt ∧ i.toInt ≤ 9) : gMi l yX10_partsTime cX10_partsTime 4 .int 4 [.ref (hm 0), .int i, .int pd] D cy (wMD cy hm v_taped v_walkers v_loads v_pieces v_changeCosts v_planned v_isMarch v_clauseMany v_place v_end v_bad v_clauses v_codes v_open v_stacked v_isOver v_isBehind v_atW v_atL v_atT v_atH v_atM v_atI v_atQ v_packing v_packed v_goPace v_goMinutes v_spentAt v_ranChanges f_m_tape f_m_knee f_m_weight f_m_isLame f_m_loadWeight f_m_owner f_m_food f_m_miles f_m_slope f_m_clauseLetter f_m_sumFrom f_m_codeFrom f_m_codeTo f_m_code f_m_codeArg f_m_newLetter f_m_newSum f_m_newFrom f_m_newTo f_m_newCode f_m_newArg f_m_stack f_m_worth f_m_isRefused f_m_least f_m_packPounds f_m_packOwner f_m_room f_m_givenTo f_m_canBe f_m_setPounds f_m_plainTime f_m_muleTime f_m_planTo f_m_march f_m_tired f_m_ranMinutes f_m_tiredAhead f_m_isReached f_m_toEnd f_m_upTo f_m_upNext f_m_byChanges f_m_bandPaces) NT sz (fun (r : Int32) (u : Unit) => True) (fun u => wMD cy hm v_taped v_walkers v_loads v_pieces v_changeCosts v_planned v_isMarch v_clauseMany v_place v_end v_bad v_clauses v_codes v_open v_stacked v_isOver v_isBehind v_atW v_atL v_atT v_atH v_atM v_atI v_atQ v_packing v_packed v_goPace v_goMinutes v_spentAt v_ranChanges f_m_tape f_m_knee f_m_weight f_m_isLame f_m_loadWeight f_m_owner f_m_food f_m_miles f_m_slope f_m_clauseLetter f_m_sumFrom f_m_codeFrom f_m_codeTo f_m_code f_m_codeArg f_m_newLetter f_m_newSum f_m_newFrom f_m_newTo f_m_newCode f_m_newArg f_m_stack f_m_worth f_m_isRefused f_m_least f_m_packPounds f_m_packOwner f_m_room f_m_givenTo f_m_canBe f_m_setPounds f_m_plainTime f_m_muleTime f_m_planTo f_m_march f_m_tired f_m_ranMinutes f_m_tiredAhead f_m_isReached f_m_toEnd f_m_upTo f_m_upNext f_m_byChanges f_m_bandPaces) := by
  refine gMi_in (by decide) (Nat.le_of_ble_eq_true rfl) ?_
  intro p e s m args below meth c A ls Q hx hb hml hts hown hsz hP hK hD hN hAe hA hS hl hret
  subst hsz
  have hl : lv_has ls 4 [(0, .ref (hm 0)), (1, .int i), (2, .int pd)] := hl
  have hrt := fun (r : Int32)   {H : Heap} {locs : List Loc} {pc : Nat} {ls : Array Slot} => hret r () (H := H) (locs := locs) (pc := pc) (ls := ls) trivial
  clear hret
  refine lv_aload_n hx hb dX10_partsTime_0 rfl (lv_at hl 0 rfl) ?_
  refine lv_iload_n hx hb dX10_partsTime_1 rfl (lv_at hl 2 rfl) ?_
  refine xi hD hS hA (xV (As := [.int pd]) (rest := []) hx hb hml hown hts hK hP hD hS hA NT_ok hN hAe hl.1 ⟨Nat.le_refl _, Nat.le_refl _⟩ 0 rfl rfl rfl (c_X10_partsPace l D cy hm v_taped v_walkers v_loads v_pieces v_changeCosts v_planned v_isMarch v_clauseMany v_place v_end v_bad v_clauses v_codes v_open v_stacked v_isOver v_isBehind v_atW v_atL v_atT v_atH v_atM v_atI v_atQ v_packing v_packed v_goPace v_goMinutes v_spentAt v_ranChanges f_m_tape f_m_knee f_m_weight f_m_isLame f_m_loadWeight f_m_owner f_m_food f_m_miles f_m_slope f_m_clauseLetter f_m_sumFrom f_m_codeFrom f_m_codeTo f_m_code f_m_codeArg f_m_newLetter f_m_newSum f_m_newFrom f_m_newTo f_m_newCode f_m_newArg f_m_stack f_m_worth f_m_isRefused f_m_least f_m_packPounds f_m_packOwner f_m_room f_m_givenTo f_m_canBe f_m_setPounds f_m_plainTime f_m_muleTime f_m_planTo f_m_march f_m_tired f_m_ranMinutes f_m_tiredAhead f_m_isReached f_m_toEnd f_m_upTo f_m_upNext f_m_byChanges f_m_bandPaces s.heap.size pd (by omega)) (gi_V lwd_660 lwd_661 lwd_662 lwd_5 lwd_663) ⟨rfl, hd_X10_partsPace⟩ ⟨Nat.le_of_ble_eq_true rfl, Nat.le_of_ble_eq_true rfl⟩ rfl (Nat.le_of_ble_eq_true rfl) dX10_partsTime_2) (fun r_2 u_1 H locs hw hP hD hS => ?_)
  try dsimp only at hw hP hD
  have p_3 := hw
  clear hw
  refine lv_istore_n (lv' := [(3, .int r_2), (0, .ref (hm 0)), (1, .int i), (2, .int pd)]) hx hb dX10_partsTime_5 rfl hl (by decide) rfl (fun ls hl => ?_)
  refine lv_iload_n hx hb dX10_partsTime_6 rfl (lv_at hl 0 rfl) ?_
  refine lv_if_ne (tgt := 16) hx hb dX10_partsTime_7 (by decide) (fun c_4 => ?_) (fun c_4 => ?_)
  · have gc_4 : r_2.toInt ≠ 0 := i_ne (rfl : r_2.toInt = r_2.toInt) (by decide : (0 : Int32).toInt = 0) c_4
    refine lv_aload_n hx hb dX10_partsTime_16 rfl (lv_at hl 1 rfl) ?_
    refine lv_iload_n hx hb dX10_partsTime_17 rfl (lv_at hl 2 rfl) ?_
    refine lv_iload_n hx hb dX10_partsTime_18 rfl (lv_at hl 0 rfl) ?_
    refine xi hD hS hA (xV (As := [.int i, .int r_2]) (rest := []) hx hb hml hown hts hK hP hD hS hA NT_ok hN hAe hl.1 ⟨Nat.le_refl _, Nat.le_refl _⟩ 0 rfl rfl rfl (c_X10_minutesOf l D cy hm v_taped v_walkers v_loads v_pieces v_changeCosts v_planned v_isMarch v_clauseMany v_place v_end v_bad v_clauses v_codes v_open v_stacked v_isOver v_isBehind v_atW v_atL v_atT v_atH v_atM v_atI v_atQ v_packing v_packed v_goPace v_goMinutes v_spentAt v_ranChanges f_m_tape f_m_knee f_m_weight f_m_isLame f_m_loadWeight f_m_owner f_m_food f_m_miles f_m_slope f_m_clauseLetter f_m_sumFrom f_m_codeFrom f_m_codeTo f_m_code f_m_codeArg f_m_newLetter f_m_newSum f_m_newFrom f_m_newTo f_m_newCode f_m_newArg f_m_stack f_m_worth f_m_isRefused f_m_least f_m_packPounds f_m_packOwner f_m_room f_m_givenTo f_m_canBe f_m_setPounds f_m_plainTime f_m_muleTime f_m_planTo f_m_march f_m_tired f_m_ranMinutes f_m_tiredAhead f_m_isReached f_m_toEnd f_m_upTo f_m_upNext f_m_byChanges f_m_bandPaces H.size i r_2 hr_m_miles (by omega) (by omega)) (gi_V lwd_668 lwd_669 lwd_670 lwd_5 lwd_671) ⟨rfl, hd_X10_minutesOf⟩ ⟨Nat.le_of_ble_eq_true rfl, Nat.le_of_ble_eq_true rfl⟩ rfl (Nat.le_of_ble_eq_true rfl) dX10_partsTime_19) (fun r_6 u_5 H locs hw hP hD hS => ?_)
    try dsimp only at hw hP hD
    have p_7 := hw
    clear hw
    exact hrt r_6   hP hD hS rfl dX10_partsTime_22
  · have gc_4 : r_2.toInt = 0 := i_eq (rfl : r_2.toInt = r_2.toInt) (by decide : (0 : Int32).toInt = 0) c_4
    refine lv_ldcw hx hb hown (hts _ lwd_827) dX10_partsTime_10 ?_
    refine lv_goto (tgt := 22) hx hb dX10_partsTime_13 (by decide) ?_
    have k_8 : (1000000000 : Int32).toInt = 1000000000 := by decide
    exact hrt 1000000000   hP hD hS rfl dX10_partsTime_22
set_option maxHeartbeats 16000000 in
set_option maxRecDepth 100000 in
theorem c_X10_mule (l : Launch) (D : va_G) (cy : Nat → ClassId) (hm : Nat → Nat) (v_taped v_walkers v_loads v_pieces v_changeCosts v_planned v_isMarch v_clauseMany v_place v_end v_bad v_clauses v_codes v_open v_stacked v_isOver v_isBehind v_atW v_atL v_atT v_atH v_atM v_atI v_atQ v_packing v_packed v_goPace v_goMinutes v_spentAt v_ranChanges : Int32) (f_m_tape f_m_knee f_m_weight f_m_isLame f_m_loadWeight f_m_owner f_m_food f_m_miles f_m_slope f_m_clauseLetter f_m_sumFrom f_m_codeFrom f_m_codeTo f_m_code f_m_codeArg f_m_newLetter f_m_newSum f_m_newFrom f_m_newTo f_m_newCode f_m_newArg f_m_stack f_m_worth f_m_isRefused f_m_least f_m_packPounds f_m_packOwner f_m_room f_m_givenTo f_m_canBe f_m_setPounds f_m_plainTime f_m_muleTime f_m_planTo f_m_march f_m_tired f_m_ranMinutes f_m_tiredAhead f_m_isReached f_m_toEnd f_m_upTo f_m_upNext f_m_byChanges f_m_bandPaces : Nat → Int32) (sz : Nat) (most : Int32) (dd : Int32) (all : Int32) (what : Int32) (hb_v_walkers : 0 ≤ v_walkers.toInt ∧ v_walkers.toInt ≤ 6) (hb_v_loads : 0 ≤ v_loads.toInt ∧ v_loads.toInt ≤ 9) (hb_v_pieces : 0 ≤ v_pieces.toInt ∧ v_pieces.toInt ≤ 10) (hb_v_clauseMany : 0 ≤ v_clauseMany.toInt ∧ v_clauseMany.toInt ≤ 14) (hb_v_atW : 0 ≤ v_atW.toInt ∧ v_atW.toInt ≤ 5) (hr_m_weight : rg (0) 250 f_m_weight) (hr_m_isLame : rg (0) 1 f_m_isLame) (hr_m_loadWeight : rg (0) 120 f_m_loadWeight) (hr_m_food : rg (0) 20 f_m_food) (hr_m_miles : rg (0) 20 f_m_miles) (hr_m_isRefused : rg (0) 1 f_m_isRefused) (hwf : wfC v_clauseMany f_m_sumFrom f_m_codeFrom f_m_codeTo f_m_code) : gMi l yX10_mule cX10_mule 12 .int 8 [.ref (hm 0), .int most, .int dd, .int all, .int what] D cy (wMD cy hm v_taped v_walkers v_loads v_pieces v_changeCosts v_planned v_isMarch v_clauseMany v_place v_end v_bad v_clauses v_codes v_open v_stacked v_isOver v_isBehind v_atW v_atL v_atT v_atH v_atM v_atI v_atQ v_packing v_packed v_goPace v_goMinutes v_spentAt v_ranChanges f_m_tape f_m_knee f_m_weight f_m_isLame f_m_loadWeight f_m_owner f_m_food f_m_miles f_m_slope f_m_clauseLetter f_m_sumFrom f_m_codeFrom f_m_codeTo f_m_code f_m_codeArg f_m_newLetter f_m_newSum f_m_newFrom f_m_newTo f_m_newCode f_m_newArg f_m_stack f_m_worth f_m_isRefused f_m_least f_m_packPounds f_m_packOwner f_m_room f_m_givenTo f_m_canBe f_m_setPounds f_m_plainTime f_m_muleTime f_m_planTo f_m_march f_m_tired f_m_ranMinutes f_m_tiredAhead f_m_isReached f_m_toEnd f_m_upTo f_m_upNext f_m_byChanges f_m_bandPaces) NT sz (fun (r : Int32) (u : Int32 × Int32 × Int32 × Int32 × Int32 × Int32 × Int32 × (Nat → Int32) × (Nat → Int32) × (Nat → Int32) × (Nat → Int32) × (Nat → Int32)) => (0 ≤ (u.1).toInt ∧ (u.1).toInt ≤ 5) ∧ (rg (0) 1 (u.2.2.2.2.2.2.2.2.1))) (fun u => wMD cy hm v_taped v_walkers v_loads v_pieces v_changeCosts v_planned v_isMarch v_clauseMany v_place v_end v_bad v_clauses v_codes v_open v_stacked v_isOver v_isBehind (u.1) (u.2.1) (u.2.2.1) (u.2.2.2.1) (u.2.2.2.2.1) (u.2.2.2.2.2.1) (u.2.2.2.2.2.2.1) v_packing v_packed v_goPace v_goMinutes v_spentAt v_ranChanges f_m_tape f_m_knee f_m_weight f_m_isLame f_m_loadWeight f_m_owner f_m_food f_m_miles f_m_slope f_m_clauseLetter f_m_sumFrom f_m_codeFrom f_m_codeTo f_m_code f_m_codeArg f_m_newLetter f_m_newSum f_m_newFrom f_m_newTo f_m_newCode f_m_newArg f_m_stack (u.2.2.2.2.2.2.2.1) (u.2.2.2.2.2.2.2.2.1) (u.2.2.2.2.2.2.2.2.2.1) f_m_packPounds f_m_packOwner f_m_room f_m_givenTo f_m_canBe f_m_setPounds (u.2.2.2.2.2.2.2.2.2.2.1) (u.2.2.2.2.2.2.2.2.2.2.2) f_m_planTo f_m_march f_m_tired f_m_ranMinutes f_m_tiredAhead f_m_isReached f_m_toEnd f_m_upTo f_m_upNext f_m_byChanges f_m_bandPaces) := by
  refine gMi_in (by decide) (Nat.le_of_ble_eq_true rfl) ?_
  intro p e s m args below meth c A ls Q hx hb hml hts hown hsz hP hK hD hN hAe hA hS hl hret
  subst hsz
  have hl : lv_has ls 12 [(0, .ref (hm 0)), (1, .int most), (2, .int dd), (3, .int all), (4, .int what)] := hl
  have hrt := fun (r : Int32) (v_atW' : Int32) (v_atL' : Int32) (v_atT' : Int32) (v_atH' : Int32) (v_atM' : Int32) (v_atI' : Int32) (v_atQ' : Int32) (f_m_worth' : Nat → Int32) (f_m_isRefused' : Nat → Int32) (f_m_least' : Nat → Int32) (f_m_plainTime' : Nat → Int32) (f_m_muleTime' : Nat → Int32) (hp : (0 ≤ v_atW'.toInt ∧ v_atW'.toInt ≤ 5) ∧ (rg (0) 1 f_m_isRefused')) {H : Heap} {locs : List Loc} {pc : Nat} {ls : Array Slot} => hret r (v_atW', v_atL', v_atT', v_atH', v_atM', v_atI', v_atQ', f_m_worth', f_m_isRefused', f_m_least', f_m_plainTime', f_m_muleTime') (H := H) (locs := locs) (pc := pc) (ls := ls) hp
  clear hret
  refine lv_iload_n hx hb dX10_mule_0 rfl (lv_at hl 1 rfl) ?_
  refine lv_i2l (v := most.toInt64) hx hb dX10_mule_1 rfl ?_
  have hl_1 : most.toInt64.toInt = most.toInt := i_l (rfl : most.toInt = most.toInt)
  refine lv_lconst (v := 1) hx hb dX10_mule_2 (by decide) ?_
  refine lv_ldc2 hx hb hown (hts _ lwd_889) dX10_mule_3 ?_
  have k_2 : (1 : Int64).toInt = 1 := by decide
  have k_3 : (500 : Int64).toInt = 500 := by decide
  refine xi hD hS hA (xS (As := [.long most.toInt64, .long 1, .long 500]) (rest := []) hx hb hml hown hts hK hP hD hS hA NT_ok hN hAe hl.1 ⟨Nat.le_refl _, Nat.le_refl _⟩ (c_X10_lies l D cy hm v_taped v_walkers v_loads v_pieces v_changeCosts v_planned v_isMarch v_clauseMany v_place v_end v_bad v_clauses v_codes v_open v_stacked v_isOver v_isBehind v_atW v_atL v_atT v_atH v_atM v_atI v_atQ v_packing v_packed v_goPace v_goMinutes v_spentAt v_ranChanges f_m_tape f_m_knee f_m_weight f_m_isLame f_m_loadWeight f_m_owner f_m_food f_m_miles f_m_slope f_m_clauseLetter f_m_sumFrom f_m_codeFrom f_m_codeTo f_m_code f_m_codeArg f_m_newLetter f_m_newSum f_m_newFrom f_m_newTo f_m_newCode f_m_newArg f_m_stack f_m_worth f_m_isRefused f_m_least f_m_packPounds f_m_packOwner f_m_room f_m_givenTo f_m_canBe f_m_setPounds f_m_plainTime f_m_muleTime f_m_planTo f_m_march f_m_tired f_m_ranMinutes f_m_tiredAhead f_m_isReached f_m_toEnd f_m_upTo f_m_upNext f_m_byChanges f_m_bandPaces s.heap.size most.toInt64 1 500) (gi_S lwd_226 lwd_227 lwd_5 lwd_228) hd_X10_lies ⟨Nat.le_of_ble_eq_true rfl, Nat.le_of_ble_eq_true rfl⟩ rfl (Nat.le_of_ble_eq_true rfl) dX10_mule_6) (fun r_5 u_4 H locs hw hP hD hS => ?_)
  try dsimp only at hw hP hD
  obtain ⟨p_6, p_7⟩ := hw
  refine lv_if_eq (tgt := 51) hx hb dX10_mule_9 (by decide) (fun c_8 => ?_) (fun c_8 => ?_)
  · have gc_8 : r_5.toInt = 0 := i_eq (rfl : r_5.toInt = r_5.toInt) (by decide : (0 : Int32).toInt = 0) c_8
    refine lv_iconst (v := (-1)) hx hb dX10_mule_51 (by decide) ?_
    have k_9 : ((-1) : Int32).toInt = (-1) := by decide
    exact hrt (-1) v_atW v_atL v_atT v_atH v_atM v_atI v_atQ f_m_worth f_m_isRefused f_m_least f_m_plainTime f_m_muleTime ⟨(by omega), hr_m_isRefused⟩ hP hD hS rfl dX10_mule_52
  · have gc_8 : r_5.toInt ≠ 0 := i_ne (rfl : r_5.toInt = r_5.toInt) (by decide : (0 : Int32).toInt = 0) c_8
    refine lv_iload_n hx hb dX10_mule_12 rfl (lv_at hl 2 rfl) ?_
    refine lv_i2l (v := dd.toInt64) hx hb dX10_mule_13 rfl ?_
    have hl_10 : dd.toInt64.toInt = dd.toInt := i_l (rfl : dd.toInt = dd.toInt)
    refine lv_lconst (v := 1) hx hb dX10_mule_14 (by decide) ?_
    refine lv_aload_n hx hb dX10_mule_15 rfl (lv_at hl 0 rfl) ?_
    refine gt_MD_MD_pieces hx hb hts hown hK hP lwd_265 dX10_mule_16 ?_
    refine lv_i2l (v := v_pieces.toInt64) hx hb dX10_mule_19 rfl ?_
    have hl_11 : v_pieces.toInt64.toInt = v_pieces.toInt := i_l (rfl : v_pieces.toInt = v_pieces.toInt)
    refine xi hD hS hA (xS (As := [.long dd.toInt64, .long 1, .long v_pieces.toInt64]) (rest := []) hx hb hml hown hts hK hP hD hS hA NT_ok hN hAe hl.1 ⟨Nat.le_refl _, Nat.le_refl _⟩ (c_X10_lies l D cy hm v_taped v_walkers v_loads v_pieces v_changeCosts v_planned v_isMarch v_clauseMany v_place v_end v_bad v_clauses v_codes v_open v_stacked v_isOver v_isBehind v_atW v_atL v_atT v_atH v_atM v_atI v_atQ v_packing v_packed v_goPace v_goMinutes v_spentAt v_ranChanges f_m_tape f_m_knee f_m_weight f_m_isLame f_m_loadWeight f_m_owner f_m_food f_m_miles f_m_slope f_m_clauseLetter f_m_sumFrom f_m_codeFrom f_m_codeTo f_m_code f_m_codeArg f_m_newLetter f_m_newSum f_m_newFrom f_m_newTo f_m_newCode f_m_newArg f_m_stack f_m_worth f_m_isRefused f_m_least f_m_packPounds f_m_packOwner f_m_room f_m_givenTo f_m_canBe f_m_setPounds f_m_plainTime f_m_muleTime f_m_planTo f_m_march f_m_tired f_m_ranMinutes f_m_tiredAhead f_m_isReached f_m_toEnd f_m_upTo f_m_upNext f_m_byChanges f_m_bandPaces H.size dd.toInt64 1 v_pieces.toInt64) (gi_S lwd_226 lwd_227 lwd_5 lwd_228) hd_X10_lies ⟨Nat.le_of_ble_eq_true rfl, Nat.le_of_ble_eq_true rfl⟩ rfl (Nat.le_of_ble_eq_true rfl) dX10_mule_20) (fun r_13 u_12 H locs hw hP hD hS => ?_)
    try dsimp only at hw hP hD
    obtain ⟨p_14, p_15⟩ := hw
    refine lv_if_eq (tgt := 51) hx hb dX10_mule_23 (by decide) (fun c_16 => ?_) (fun c_16 => ?_)
    · have gc_16 : r_13.toInt = 0 := i_eq (rfl : r_13.toInt = r_13.toInt) (by decide : (0 : Int32).toInt = 0) c_16
      refine lv_iconst (v := (-1)) hx hb dX10_mule_51 (by decide) ?_
      have k_17 : ((-1) : Int32).toInt = (-1) := by decide
      exact hrt (-1) v_atW v_atL v_atT v_atH v_atM v_atI v_atQ f_m_worth f_m_isRefused f_m_least f_m_plainTime f_m_muleTime ⟨(by omega), hr_m_isRefused⟩ hP hD hS rfl dX10_mule_52
    · have gc_16 : r_13.toInt ≠ 0 := i_ne (rfl : r_13.toInt = r_13.toInt) (by decide : (0 : Int32).toInt = 0) c_16
      refine lv_iload_n hx hb dX10_mule_26 rfl (lv_at hl 3 rfl) ?_
      refine xi hD hS hA (xS (As := [.int all]) (rest := []) hx hb hml hown hts hK hP hD hS hA NT_ok hN hAe hl.1 ⟨Nat.le_refl _, Nat.le_refl _⟩ (c_X10_isTiredness l D cy hm v_taped v_walkers v_loads v_pieces v_changeCosts v_planned v_isMarch v_clauseMany v_place v_end v_bad v_clauses v_codes v_open v_stacked v_isOver v_isBehind v_atW v_atL v_atT v_atH v_atM v_atI v_atQ v_packing v_packed v_goPace v_goMinutes v_spentAt v_ranChanges f_m_tape f_m_knee f_m_weight f_m_isLame f_m_loadWeight f_m_owner f_m_food f_m_miles f_m_slope f_m_clauseLetter f_m_sumFrom f_m_codeFrom f_m_codeTo f_m_code f_m_codeArg f_m_newLetter f_m_newSum f_m_newFrom f_m_newTo f_m_newCode f_m_newArg f_m_stack f_m_worth f_m_isRefused f_m_least f_m_packPounds f_m_packOwner f_m_room f_m_givenTo f_m_canBe f_m_setPounds f_m_plainTime f_m_muleTime f_m_planTo f_m_march f_m_tired f_m_ranMinutes f_m_tiredAhead f_m_isReached f_m_toEnd f_m_upTo f_m_upNext f_m_byChanges f_m_bandPaces H.size all) (gi_S lwd_649 lwd_650 lwd_5 lwd_651) hd_X10_isTiredness ⟨Nat.le_of_ble_eq_true rfl, Nat.le_of_ble_eq_true rfl⟩ rfl (Nat.le_of_ble_eq_true rfl) dX10_mule_27) (fun r_19 u_18 H locs hw hP hD hS => ?_)
      try dsimp only at hw hP hD
      obtain ⟨p_20, p_21⟩ := hw
      refine lv_if_eq (tgt := 51) hx hb dX10_mule_30 (by decide) (fun c_22 => ?_) (fun c_22 => ?_)
      · have gc_22 : r_19.toInt = 0 := i_eq (rfl : r_19.toInt = r_19.toInt) (by decide : (0 : Int32).toInt = 0) c_22
        refine lv_iconst (v := (-1)) hx hb dX10_mule_51 (by decide) ?_
        have k_23 : ((-1) : Int32).toInt = (-1) := by decide
        exact hrt (-1) v_atW v_atL v_atT v_atH v_atM v_atI v_atQ f_m_worth f_m_isRefused f_m_least f_m_plainTime f_m_muleTime ⟨(by omega), hr_m_isRefused⟩ hP hD hS rfl dX10_mule_52
      · have gc_22 : r_19.toInt ≠ 0 := i_ne (rfl : r_19.toInt = r_19.toInt) (by decide : (0 : Int32).toInt = 0) c_22
        refine lv_aload_n hx hb dX10_mule_33 rfl (lv_at hl 0 rfl) ?_
        refine gt_MD_MD_walkers hx hb hts hown hK hP lwd_221 dX10_mule_34 ?_
        refine lv_if_eq (tgt := 51) hx hb dX10_mule_37 (by decide) (fun c_24 => ?_) (fun c_24 => ?_)
        · have gc_24 : v_walkers.toInt = 0 := i_eq (rfl : v_walkers.toInt = v_walkers.toInt) (by decide : (0 : Int32).toInt = 0) c_24
          refine lv_iconst (v := (-1)) hx hb dX10_mule_51 (by decide) ?_
          have k_25 : ((-1) : Int32).toInt = (-1) := by decide
          exact hrt (-1) v_atW v_atL v_atT v_atH v_atM v_atI v_atQ f_m_worth f_m_isRefused f_m_least f_m_plainTime f_m_muleTime ⟨(by omega), hr_m_isRefused⟩ hP hD hS rfl dX10_mule_52
        · have gc_24 : v_walkers.toInt ≠ 0 := i_ne (rfl : v_walkers.toInt = v_walkers.toInt) (by decide : (0 : Int32).toInt = 0) c_24
          refine lv_iload hx hb dX10_mule_40 (lv_at hl 4 rfl) ?_
          refine lv_i2l (v := what.toInt64) hx hb dX10_mule_42 rfl ?_
          have hl_26 : what.toInt64.toInt = what.toInt := i_l (rfl : what.toInt = what.toInt)
          refine lv_lconst (v := 0) hx hb dX10_mule_43 (by decide) ?_
          refine lv_lconst (v := 1) hx hb dX10_mule_44 (by decide) ?_
          have k_27 : (0 : Int64).toInt = 0 := by decide
          refine xi hD hS hA (xS (As := [.long what.toInt64, .long 0, .long 1]) (rest := []) hx hb hml hown hts hK hP hD hS hA NT_ok hN hAe hl.1 ⟨Nat.le_refl _, Nat.le_refl _⟩ (c_X10_lies l D cy hm v_taped v_walkers v_loads v_pieces v_changeCosts v_planned v_isMarch v_clauseMany v_place v_end v_bad v_clauses v_codes v_open v_stacked v_isOver v_isBehind v_atW v_atL v_atT v_atH v_atM v_atI v_atQ v_packing v_packed v_goPace v_goMinutes v_spentAt v_ranChanges f_m_tape f_m_knee f_m_weight f_m_isLame f_m_loadWeight f_m_owner f_m_food f_m_miles f_m_slope f_m_clauseLetter f_m_sumFrom f_m_codeFrom f_m_codeTo f_m_code f_m_codeArg f_m_newLetter f_m_newSum f_m_newFrom f_m_newTo f_m_newCode f_m_newArg f_m_stack f_m_worth f_m_isRefused f_m_least f_m_packPounds f_m_packOwner f_m_room f_m_givenTo f_m_canBe f_m_setPounds f_m_plainTime f_m_muleTime f_m_planTo f_m_march f_m_tired f_m_ranMinutes f_m_tiredAhead f_m_isReached f_m_toEnd f_m_upTo f_m_upNext f_m_byChanges f_m_bandPaces H.size what.toInt64 0 1) (gi_S lwd_226 lwd_227 lwd_5 lwd_228) hd_X10_lies ⟨Nat.le_of_ble_eq_true rfl, Nat.le_of_ble_eq_true rfl⟩ rfl (Nat.le_of_ble_eq_true rfl) dX10_mule_45) (fun r_29 u_28 H locs hw hP hD hS => ?_)
          try dsimp only at hw hP hD
          obtain ⟨p_30, p_31⟩ := hw
          refine lv_if_ne (tgt := 53) hx hb dX10_mule_48 (by decide) (fun c_32 => ?_) (fun c_32 => ?_)
          · have gc_32 : r_29.toInt ≠ 0 := i_ne (rfl : r_29.toInt = r_29.toInt) (by decide : (0 : Int32).toInt = 0) c_32
            refine lv_iconst (v := 0) hx hb dX10_mule_53 (by decide) ?_
            refine lv_istore (lv' := [(5, .int 0), (0, .ref (hm 0)), (1, .int most), (2, .int dd), (3, .int all), (4, .int what)]) hx hb dX10_mule_54 hl (by decide) rfl (fun ls hl => ?_)
            have L56_59 : ∀ (n : Nat) (f_46 : Nat → Int32) (f_47 : Nat → Int32) (f_48 : Nat → Int32) (f_49 : Nat → Int32) (f_50 : Nat → Int32) (l_51 : Int32) (w_52 : Int32) (w_53 : Int32) (w_54 : Int32) (w_55 : Int32) (w_56 : Int32) (w_57 : Int32) (w_58 : Int32), (rg (0) 1 f_46) → (0 ≤ l_51.toInt ∧ l_51.toInt ≤ 10) → (0 ≤ w_58.toInt ∧ w_58.toInt ≤ 5) → 11 - l_51.toInt < n → ∀ (H : Heap) (locs : List Loc) (ls : Array Slot), va_P D vwCl (wMD cy hm v_taped v_walkers v_loads v_pieces v_changeCosts v_planned v_isMarch v_clauseMany v_place v_end v_bad v_clauses v_codes v_open v_stacked v_isOver v_isBehind w_58 w_54 w_57 w_52 w_55 w_53 w_56 v_packing v_packed v_goPace v_goMinutes v_spentAt v_ranChanges f_m_tape f_m_knee f_m_weight f_m_isLame f_m_loadWeight f_m_owner f_m_food f_m_miles f_m_slope f_m_clauseLetter f_m_sumFrom f_m_codeFrom f_m_codeTo f_m_code f_m_codeArg f_m_newLetter f_m_newSum f_m_newFrom f_m_newTo f_m_newCode f_m_newArg f_m_stack f_50 f_46 f_47 f_m_packPounds f_m_packOwner f_m_room f_m_givenTo f_m_canBe f_m_setPounds f_49 f_48 f_m_planTo f_m_march f_m_tired f_m_ranMinutes f_m_tiredAhead f_m_isReached f_m_toEnd f_m_upTo f_m_upNext f_m_byChanges f_m_bandPaces) H → va_D A (wMD cy hm v_taped v_walkers v_loads v_pieces v_changeCosts v_planned v_isMarch v_clauseMany v_place v_end v_bad v_clauses v_codes v_open v_stacked v_isOver v_isBehind w_58 w_54 w_57 w_52 w_55 w_53 w_56 v_packing v_packed v_goPace v_goMinutes v_spentAt v_ranChanges f_m_tape f_m_knee f_m_weight f_m_isLame f_m_loadWeight f_m_owner f_m_food f_m_miles f_m_slope f_m_clauseLetter f_m_sumFrom f_m_codeFrom f_m_codeTo f_m_code f_m_codeArg f_m_newLetter f_m_newSum f_m_newFrom f_m_newTo f_m_newCode f_m_newArg f_m_stack f_50 f_46 f_47 f_m_packPounds f_m_packOwner f_m_room f_m_givenTo f_m_canBe f_m_setPounds f_49 f_48 f_m_planTo f_m_march f_m_tired f_m_ranMinutes f_m_tiredAhead f_m_isReached f_m_toEnd f_m_upTo f_m_upNext f_m_byChanges f_m_bandPaces) → va_S A s.heap H locs → lv_has ls 12 [(5, .int l_51), (0, .ref (hm 0)), (1, .int most), (2, .int dd), (3, .int all), (4, .int what)] → W p l e (gRm 8) s m args below meth c H locs 0 0 Q (F0 m 56 ls []) := by
              intro n
              induction n with
              | zero => intro f_46 f_47 f_48 f_49 f_50 l_51 w_52 w_53 w_54 w_55 w_56 w_57 w_58 hL56_59_0 hL56_59_1 hL56_59_2 hm; exact absurd hm (by omega)
              | succ n ih56_59 =>
                intro f_46 f_47 f_48 f_49 f_50 l_51 w_52 w_53 w_54 w_55 w_56 w_57 w_58 hL56_59_0 hL56_59_1 hL56_59_2 hmL56_59 H locs ls hP hD hS hl
                refine lv_iload hx hb dX10_mule_56 (lv_at hl 0 rfl) ?_
                refine lv_aload_n hx hb dX10_mule_58 rfl (lv_at hl 1 rfl) ?_
                refine gt_MD_MD_pieces hx hb hts hown hK hP lwd_265 dX10_mule_59 ?_
                refine lv_icmp_ge (tgt := 128) hx hb dX10_mule_62 (by decide) (fun c_60 => ?_) (fun c_60 => ?_)
                · have gc_60 : v_pieces.toInt ≤ l_51.toInt := i_le (rfl : v_pieces.toInt = v_pieces.toInt) (rfl : l_51.toInt = l_51.toInt) c_60
                  refine lv_iconst (v := (-1)) hx hb dX10_mule_128 (by decide) ?_
                  refine lv_istore (lv' := [(5, .int (-1)), (0, .ref (hm 0)), (1, .int most), (2, .int dd), (3, .int all), (4, .int what)]) hx hb dX10_mule_129 hl (by decide) rfl (fun ls hl => ?_)
                  refine lv_ldc2 hx hb hown (hts _ lwd_890) dX10_mule_131 ?_
                  refine lv_lstore (lv' := [(6, .long 1000000000), (5, .int (-1)), (0, .ref (hm 0)), (1, .int most), (2, .int dd), (3, .int all), (4, .int what)]) hx hb dX10_mule_134 hl (by decide) rfl (fun ls hl => ?_)
                  refine lv_iconst (v := 0) hx hb dX10_mule_136 (by decide) ?_
                  refine lv_istore (lv' := [(8, .int 0), (6, .long 1000000000), (5, .int (-1)), (0, .ref (hm 0)), (1, .int most), (2, .int dd), (3, .int all), (4, .int what)]) hx hb dX10_mule_137 hl (by decide) rfl (fun ls hl => ?_)
                  have L139_67 : ∀ (n : Nat) (l_64 : Int32) (l_65 : Int64) (l_66 : Int32), (0 ≤ l_66.toInt ∧ l_66.toInt ≤ 10) → 11 - l_66.toInt < n → ∀ (H : Heap) (locs : List Loc) (ls : Array Slot), va_P D vwCl (wMD cy hm v_taped v_walkers v_loads v_pieces v_changeCosts v_planned v_isMarch v_clauseMany v_place v_end v_bad v_clauses v_codes v_open v_stacked v_isOver v_isBehind w_58 w_54 w_57 w_52 w_55 w_53 w_56 v_packing v_packed v_goPace v_goMinutes v_spentAt v_ranChanges f_m_tape f_m_knee f_m_weight f_m_isLame f_m_loadWeight f_m_owner f_m_food f_m_miles f_m_slope f_m_clauseLetter f_m_sumFrom f_m_codeFrom f_m_codeTo f_m_code f_m_codeArg f_m_newLetter f_m_newSum f_m_newFrom f_m_newTo f_m_newCode f_m_newArg f_m_stack f_50 f_46 f_47 f_m_packPounds f_m_packOwner f_m_room f_m_givenTo f_m_canBe f_m_setPounds f_49 f_48 f_m_planTo f_m_march f_m_tired f_m_ranMinutes f_m_tiredAhead f_m_isReached f_m_toEnd f_m_upTo f_m_upNext f_m_byChanges f_m_bandPaces) H → va_D A (wMD cy hm v_taped v_walkers v_loads v_pieces v_changeCosts v_planned v_isMarch v_clauseMany v_place v_end v_bad v_clauses v_codes v_open v_stacked v_isOver v_isBehind w_58 w_54 w_57 w_52 w_55 w_53 w_56 v_packing v_packed v_goPace v_goMinutes v_spentAt v_ranChanges f_m_tape f_m_knee f_m_weight f_m_isLame f_m_loadWeight f_m_owner f_m_food f_m_miles f_m_slope f_m_clauseLetter f_m_sumFrom f_m_codeFrom f_m_codeTo f_m_code f_m_codeArg f_m_newLetter f_m_newSum f_m_newFrom f_m_newTo f_m_newCode f_m_newArg f_m_stack f_50 f_46 f_47 f_m_packPounds f_m_packOwner f_m_room f_m_givenTo f_m_canBe f_m_setPounds f_49 f_48 f_m_planTo f_m_march f_m_tired f_m_ranMinutes f_m_tiredAhead f_m_isReached f_m_toEnd f_m_upTo f_m_upNext f_m_byChanges f_m_bandPaces) → va_S A s.heap H locs → lv_has ls 12 [(8, .int l_66), (6, .long l_65), (5, .int l_64), (0, .ref (hm 0)), (1, .int most), (2, .int dd), (3, .int all), (4, .int what)] → W p l e (gRm 8) s m args below meth c H locs 0 0 Q (F0 m 139 ls []) := by
                    intro n
                    induction n with
                    | zero => intro l_64 l_65 l_66 hL139_67_0 hm; exact absurd hm (by omega)
                    | succ n ih139_67 =>
                      intro l_64 l_65 l_66 hL139_67_0 hmL139_67 H locs ls hP hD hS hl
                      refine lv_iload hx hb dX10_mule_139 (lv_at hl 0 rfl) ?_
                      refine lv_iload_n hx hb dX10_mule_141 rfl (lv_at hl 5 rfl) ?_
                      refine lv_iadd hx hb dX10_mule_142 ?_
                      have hb_68 := And.intro (i_bot dd) (i_top dd)
                      refine lv_topi (fun n_69 en_69 => ?_)
                      have tn_69 : n_69.toInt = l_66.toInt + dd.toInt := i_add en_69 (rfl : l_66.toInt = l_66.toInt) (rfl : dd.toInt = dd.toInt) (by omega) (by omega)
                      refine lv_aload_n hx hb dX10_mule_143 rfl (lv_at hl 3 rfl) ?_
                      refine gt_MD_MD_pieces hx hb hts hown hK hP lwd_265 dX10_mule_144 ?_
                      refine lv_icmp_gt (tgt := 236) hx hb dX10_mule_147 (by decide) (fun c_70 => ?_) (fun c_70 => ?_)
                      · have gc_70 : v_pieces.toInt < l_66.toInt + dd.toInt := i_lt (rfl : v_pieces.toInt = v_pieces.toInt) tn_69 c_70
                        refine lv_iload hx hb dX10_mule_236 (lv_at hl 2 rfl) ?_
                        refine lv_iconst (v := (-1)) hx hb dX10_mule_238 (by decide) ?_
                        refine lv_icmp_ne (tgt := 247) hx hb dX10_mule_239 (by decide) (fun c_71 => ?_) (fun c_71 => ?_)
                        · have gc_71 : l_64.toInt ≠ (-1) := i_ne (rfl : l_64.toInt = l_64.toInt) (by decide : ((-1) : Int32).toInt = (-1)) c_71
                          refine lv_iload hx hb dX10_mule_247 (lv_at hl 7 rfl) ?_
                          refine lv_if_ne (tgt := 257) hx hb dX10_mule_249 (by decide) (fun c_72 => ?_) (fun c_72 => ?_)
                          · have gc_72 : what.toInt ≠ 0 := i_ne (rfl : what.toInt = what.toInt) (by decide : (0 : Int32).toInt = 0) c_72
                            refine lv_lload hx hb dX10_mule_257 (lv_at hl 1 rfl) ?_
                            obtain ⟨n_73, en_73⟩ : ∃ y : Int32, y = l_65.toInt32 := ⟨_, rfl⟩
                            refine lv_l2i (v := n_73) hx hb dX10_mule_259 en_73.symm ?_
                            exact hrt n_73 w_58 w_54 w_57 w_52 w_55 w_53 w_56 f_50 f_46 f_47 f_49 f_48 ⟨(by omega), hL56_59_0⟩ hP hD hS rfl dX10_mule_260
                          · have gc_72 : what.toInt = 0 := i_eq (rfl : what.toInt = what.toInt) (by decide : (0 : Int32).toInt = 0) c_72
                            refine lv_iload hx hb dX10_mule_252 (lv_at hl 2 rfl) ?_
                            refine lv_goto (tgt := 260) hx hb dX10_mule_254 (by decide) ?_
                            exact hrt l_64 w_58 w_54 w_57 w_52 w_55 w_53 w_56 f_50 f_46 f_47 f_49 f_48 ⟨(by omega), hL56_59_0⟩ hP hD hS rfl dX10_mule_260
                        · have gc_71 : l_64.toInt = (-1) := i_eq (rfl : l_64.toInt = l_64.toInt) (by decide : ((-1) : Int32).toInt = (-1)) c_71
                          refine lv_bipush (v := (-2)) hx hb dX10_mule_242 (by decide) ?_
                          refine lv_goto (tgt := 260) hx hb dX10_mule_244 (by decide) ?_
                          have k_74 : ((-2) : Int32).toInt = (-2) := by decide
                          exact hrt (-2) w_58 w_54 w_57 w_52 w_55 w_53 w_56 f_50 f_46 f_47 f_49 f_48 ⟨(by omega), hL56_59_0⟩ hP hD hS rfl dX10_mule_260
                      · have gc_70 : l_66.toInt + dd.toInt ≤ v_pieces.toInt := i_nlt (rfl : v_pieces.toInt = v_pieces.toInt) tn_69 c_70
                        refine lv_lconst (v := 0) hx hb dX10_mule_150 (by decide) ?_
                        refine lv_lstore (lv' := [(9, .long 0), (8, .int l_66), (6, .long l_65), (5, .int l_64), (0, .ref (hm 0)), (1, .int most), (2, .int dd), (3, .int all), (4, .int what)]) hx hb dX10_mule_151 hl (by decide) rfl (fun ls hl => ?_)
                        refine lv_iconst (v := 0) hx hb dX10_mule_153 (by decide) ?_
                        refine lv_istore (lv' := [(11, .int 0), (9, .long 0), (8, .int l_66), (6, .long l_65), (5, .int l_64), (0, .ref (hm 0)), (1, .int most), (2, .int dd), (3, .int all), (4, .int what)]) hx hb dX10_mule_154 hl (by decide) rfl (fun ls hl => ?_)
                        have L156_79 : ∀ (n : Nat) (l_77 : Int32) (l_78 : Int64), (0 ≤ l_77.toInt ∧ l_77.toInt ≤ 10) → 11 - l_77.toInt < n → ∀ (H : Heap) (locs : List Loc) (ls : Array Slot), va_P D vwCl (wMD cy hm v_taped v_walkers v_loads v_pieces v_changeCosts v_planned v_isMarch v_clauseMany v_place v_end v_bad v_clauses v_codes v_open v_stacked v_isOver v_isBehind w_58 w_54 w_57 w_52 w_55 w_53 w_56 v_packing v_packed v_goPace v_goMinutes v_spentAt v_ranChanges f_m_tape f_m_knee f_m_weight f_m_isLame f_m_loadWeight f_m_owner f_m_food f_m_miles f_m_slope f_m_clauseLetter f_m_sumFrom f_m_codeFrom f_m_codeTo f_m_code f_m_codeArg f_m_newLetter f_m_newSum f_m_newFrom f_m_newTo f_m_newCode f_m_newArg f_m_stack f_50 f_46 f_47 f_m_packPounds f_m_packOwner f_m_room f_m_givenTo f_m_canBe f_m_setPounds f_49 f_48 f_m_planTo f_m_march f_m_tired f_m_ranMinutes f_m_tiredAhead f_m_isReached f_m_toEnd f_m_upTo f_m_upNext f_m_byChanges f_m_bandPaces) H → va_D A (wMD cy hm v_taped v_walkers v_loads v_pieces v_changeCosts v_planned v_isMarch v_clauseMany v_place v_end v_bad v_clauses v_codes v_open v_stacked v_isOver v_isBehind w_58 w_54 w_57 w_52 w_55 w_53 w_56 v_packing v_packed v_goPace v_goMinutes v_spentAt v_ranChanges f_m_tape f_m_knee f_m_weight f_m_isLame f_m_loadWeight f_m_owner f_m_food f_m_miles f_m_slope f_m_clauseLetter f_m_sumFrom f_m_codeFrom f_m_codeTo f_m_code f_m_codeArg f_m_newLetter f_m_newSum f_m_newFrom f_m_newTo f_m_newCode f_m_newArg f_m_stack f_50 f_46 f_47 f_m_packPounds f_m_packOwner f_m_room f_m_givenTo f_m_canBe f_m_setPounds f_49 f_48 f_m_planTo f_m_march f_m_tired f_m_ranMinutes f_m_tiredAhead f_m_isReached f_m_toEnd f_m_upTo f_m_upNext f_m_byChanges f_m_bandPaces) → va_S A s.heap H locs → lv_has ls 12 [(11, .int l_77), (9, .long l_78), (8, .int l_66), (6, .long l_65), (5, .int l_64), (0, .ref (hm 0)), (1, .int most), (2, .int dd), (3, .int all), (4, .int what)] → W p l e (gRm 8) s m args below meth c H locs 0 0 Q (F0 m 156 ls []) := by
                          intro n
                          induction n with
                          | zero => intro l_77 l_78 hL156_79_0 hm; exact absurd hm (by omega)
                          | succ n ih156_79 =>
                            intro l_77 l_78 hL156_79_0 hmL156_79 H locs ls hP hD hS hl
                            refine lv_iload hx hb dX10_mule_156 (lv_at hl 0 rfl) ?_
                            refine lv_aload_n hx hb dX10_mule_158 rfl (lv_at hl 5 rfl) ?_
                            refine gt_MD_MD_pieces hx hb hts hown hK hP lwd_265 dX10_mule_159 ?_
                            refine lv_icmp_ge (tgt := 211) hx hb dX10_mule_162 (by decide) (fun c_80 => ?_) (fun c_80 => ?_)
                            · have gc_80 : v_pieces.toInt ≤ l_77.toInt := i_le (rfl : v_pieces.toInt = v_pieces.toInt) (rfl : l_77.toInt = l_77.toInt) c_80
                              refine lv_lload hx hb dX10_mule_211 (lv_at hl 1 rfl) ?_
                              refine lv_lload hx hb dX10_mule_213 (lv_at hl 3 rfl) ?_
                              refine W.lcmp hx hb dX10_mule_215 ?_
                              refine lv_topi (fun n_81 en_81 => ?_)
                              have tn_81 := l_cmp en_81 (rfl : l_78.toInt = l_78.toInt) (rfl : l_65.toInt = l_65.toInt)
                              refine lv_if_lt (tgt := 222) hx hb dX10_mule_216 (by decide) (fun c_82 => ?_) (fun c_82 => ?_)
                              · have gc_82 : n_81.toInt < 0 := i_lt (rfl : n_81.toInt = n_81.toInt) (by decide : (0 : Int32).toInt = 0) c_82
                                refine lv_iload hx hb dX10_mule_222 (lv_at hl 2 rfl) ?_
                                refine lv_istore (lv' := [(5, .int l_66), (11, .int l_77), (9, .long l_78), (8, .int l_66), (6, .long l_65), (0, .ref (hm 0)), (1, .int most), (2, .int dd), (3, .int all), (4, .int what)]) hx hb dX10_mule_224 hl (by decide) rfl (fun ls hl => ?_)
                                refine lv_lload hx hb dX10_mule_226 (lv_at hl 2 rfl) ?_
                                refine lv_lstore (lv' := [(6, .long l_78), (5, .int l_66), (11, .int l_77), (9, .long l_78), (8, .int l_66), (0, .ref (hm 0)), (1, .int most), (2, .int dd), (3, .int all), (4, .int what)]) hx hb dX10_mule_228 hl (by decide) rfl (fun ls hl => ?_)
                                obtain ⟨n_83, en_83⟩ : ∃ y : Int32, y = l_66 + 1 := ⟨_, rfl⟩
                                have tn_83 : n_83.toInt = l_66.toInt + 1 := i_add en_83 (rfl : l_66.toInt = l_66.toInt) (by decide : (1 : Int32).toInt = 1) (by omega) (by omega)
                                refine lv_iinc (v := n_83) (lv' := [(8, .int n_83), (6, .long l_78), (5, .int l_66), (11, .int l_77), (9, .long l_78), (0, .ref (hm 0)), (1, .int most), (2, .int dd), (3, .int all), (4, .int what)]) hx hb dX10_mule_230 hl (k := 4) rfl (by rw [en_83]; rfl) (by decide) rfl (fun ls hl => ?_)
                                refine lv_goto (tgt := 139) hx hb dX10_mule_233 (by decide) ?_
                                exact ih139_67 l_66 l_78 n_83 (by omega) (by omega) _ _ _ hP hD hS (lv_sub hl [0, 1, 2, 5, 6, 7, 8, 9] rfl)
                              · have gc_82 : 0 ≤ n_81.toInt := i_nlt (rfl : n_81.toInt = n_81.toInt) (by decide : (0 : Int32).toInt = 0) c_82
                                refine lv_goto (tgt := 230) hx hb dX10_mule_219 (by decide) ?_
                                obtain ⟨n_84, en_84⟩ : ∃ y : Int32, y = l_66 + 1 := ⟨_, rfl⟩
                                have tn_84 : n_84.toInt = l_66.toInt + 1 := i_add en_84 (rfl : l_66.toInt = l_66.toInt) (by decide : (1 : Int32).toInt = 1) (by omega) (by omega)
                                refine lv_iinc (v := n_84) (lv' := [(8, .int n_84), (11, .int l_77), (9, .long l_78), (6, .long l_65), (5, .int l_64), (0, .ref (hm 0)), (1, .int most), (2, .int dd), (3, .int all), (4, .int what)]) hx hb dX10_mule_230 hl (k := 2) rfl (by rw [en_84]; rfl) (by decide) rfl (fun ls hl => ?_)
                                refine lv_goto (tgt := 139) hx hb dX10_mule_233 (by decide) ?_
                                exact ih139_67 l_64 l_65 n_84 (by omega) (by omega) _ _ _ hP hD hS (lv_sub hl [0, 3, 4, 5, 6, 7, 8, 9] rfl)
                            · have gc_80 : l_77.toInt < v_pieces.toInt := i_nle (rfl : v_pieces.toInt = v_pieces.toInt) (rfl : l_77.toInt = l_77.toInt) c_80
                              refine lv_lload hx hb dX10_mule_165 (lv_at hl 1 rfl) ?_
                              refine lv_iload hx hb dX10_mule_167 (lv_at hl 0 rfl) ?_
                              refine lv_iload hx hb dX10_mule_169 (lv_at hl 2 rfl) ?_
                              refine lv_icmp_lt (tgt := 194) hx hb dX10_mule_171 (by decide) (fun c_85 => ?_) (fun c_85 => ?_)
                              · have gc_85 : l_77.toInt < l_66.toInt := i_lt (rfl : l_77.toInt = l_77.toInt) (rfl : l_66.toInt = l_66.toInt) c_85
                                refine lv_aload_n hx hb dX10_mule_194 rfl (lv_at hl 5 rfl) ?_
                                refine gt_MD_MD_plainTime hx hb hts hown hK hP lwd_187 dX10_mule_195 ?_
                                refine lv_iload hx hb dX10_mule_198 (lv_at hl 0 rfl) ?_
                                refine al_m_plainTime hx hb hK hP (i_in (rfl : l_77.toInt = l_77.toInt) (by omega) (by omega)) dX10_mule_200 (fun n_86 en_86 => ?_)
                                refine lv_i2l (v := n_86.toInt64) hx hb dX10_mule_201 rfl ?_
                                have hl_87 : n_86.toInt64.toInt = n_86.toInt := i_l (rfl : n_86.toInt = n_86.toInt)
                                refine lv_ladd hx hb dX10_mule_202 ?_
                                refine lv_topl (fun n_88 en_88 => ?_)
                                refine lv_lstore (lv' := [(9, .long n_88), (11, .int l_77), (8, .int l_66), (6, .long l_65), (5, .int l_64), (0, .ref (hm 0)), (1, .int most), (2, .int dd), (3, .int all), (4, .int what)]) hx hb dX10_mule_203 hl (by decide) rfl (fun ls hl => ?_)
                                obtain ⟨n_89, en_89⟩ : ∃ y : Int32, y = l_77 + 1 := ⟨_, rfl⟩
                                have tn_89 : n_89.toInt = l_77.toInt + 1 := i_add en_89 (rfl : l_77.toInt = l_77.toInt) (by decide : (1 : Int32).toInt = 1) (by omega) (by omega)
                                refine lv_iinc (v := n_89) (lv' := [(11, .int n_89), (9, .long n_88), (8, .int l_66), (6, .long l_65), (5, .int l_64), (0, .ref (hm 0)), (1, .int most), (2, .int dd), (3, .int all), (4, .int what)]) hx hb dX10_mule_205 hl (k := 1) rfl (by rw [en_89]; rfl) (by decide) rfl (fun ls hl => ?_)
                                refine lv_goto (tgt := 156) hx hb dX10_mule_208 (by decide) ?_
                                exact ih156_79 n_89 n_88 (by omega) (by omega) _ _ _ hP hD hS (lv_sub hl [0, 1, 2, 3, 4, 5, 6, 7, 8, 9] rfl)
                              · have gc_85 : l_66.toInt ≤ l_77.toInt := i_nlt (rfl : l_77.toInt = l_77.toInt) (rfl : l_66.toInt = l_66.toInt) c_85
                                refine lv_iload hx hb dX10_mule_174 (lv_at hl 0 rfl) ?_
                                refine lv_iload hx hb dX10_mule_176 (lv_at hl 2 rfl) ?_
                                refine lv_iload_n hx hb dX10_mule_178 rfl (lv_at hl 7 rfl) ?_
                                refine lv_iadd hx hb dX10_mule_179 ?_
                                refine lv_topi (fun n_90 en_90 => ?_)
                                refine lv_icmp_ge (tgt := 194) hx hb dX10_mule_180 (by decide) (fun c_91 => ?_) (fun c_91 => ?_)
                                · have gc_91 : n_90.toInt ≤ l_77.toInt := i_le (rfl : n_90.toInt = n_90.toInt) (rfl : l_77.toInt = l_77.toInt) c_91
                                  refine lv_aload_n hx hb dX10_mule_194 rfl (lv_at hl 5 rfl) ?_
                                  refine gt_MD_MD_plainTime hx hb hts hown hK hP lwd_187 dX10_mule_195 ?_
                                  refine lv_iload hx hb dX10_mule_198 (lv_at hl 0 rfl) ?_
                                  refine al_m_plainTime hx hb hK hP (i_in (rfl : l_77.toInt = l_77.toInt) (by omega) (by omega)) dX10_mule_200 (fun n_92 en_92 => ?_)
                                  refine lv_i2l (v := n_92.toInt64) hx hb dX10_mule_201 rfl ?_
                                  have hl_93 : n_92.toInt64.toInt = n_92.toInt := i_l (rfl : n_92.toInt = n_92.toInt)
                                  refine lv_ladd hx hb dX10_mule_202 ?_
                                  refine lv_topl (fun n_94 en_94 => ?_)
                                  refine lv_lstore (lv' := [(9, .long n_94), (11, .int l_77), (8, .int l_66), (6, .long l_65), (5, .int l_64), (0, .ref (hm 0)), (1, .int most), (2, .int dd), (3, .int all), (4, .int what)]) hx hb dX10_mule_203 hl (by decide) rfl (fun ls hl => ?_)
                                  obtain ⟨n_95, en_95⟩ : ∃ y : Int32, y = l_77 + 1 := ⟨_, rfl⟩
                                  have tn_95 : n_95.toInt = l_77.toInt + 1 := i_add en_95 (rfl : l_77.toInt = l_77.toInt) (by decide : (1 : Int32).toInt = 1) (by omega) (by omega)
                                  refine lv_iinc (v := n_95) (lv' := [(11, .int n_95), (9, .long n_94), (8, .int l_66), (6, .long l_65), (5, .int l_64), (0, .ref (hm 0)), (1, .int most), (2, .int dd), (3, .int all), (4, .int what)]) hx hb dX10_mule_205 hl (k := 1) rfl (by rw [en_95]; rfl) (by decide) rfl (fun ls hl => ?_)
                                  refine lv_goto (tgt := 156) hx hb dX10_mule_208 (by decide) ?_
                                  exact ih156_79 n_95 n_94 (by omega) (by omega) _ _ _ hP hD hS (lv_sub hl [0, 1, 2, 3, 4, 5, 6, 7, 8, 9] rfl)
                                · have gc_91 : l_77.toInt < n_90.toInt := i_nle (rfl : n_90.toInt = n_90.toInt) (rfl : l_77.toInt = l_77.toInt) c_91
                                  refine lv_aload_n hx hb dX10_mule_183 rfl (lv_at hl 5 rfl) ?_
                                  refine gt_MD_MD_muleTime hx hb hts hown hK hP lwd_188 dX10_mule_184 ?_
                                  refine lv_iload hx hb dX10_mule_187 (lv_at hl 0 rfl) ?_
                                  refine al_m_muleTime hx hb hK hP (i_in (rfl : l_77.toInt = l_77.toInt) (by omega) (by omega)) dX10_mule_189 (fun n_96 en_96 => ?_)
                                  refine lv_i2l (v := n_96.toInt64) hx hb dX10_mule_190 rfl ?_
                                  have hl_97 : n_96.toInt64.toInt = n_96.toInt := i_l (rfl : n_96.toInt = n_96.toInt)
                                  refine lv_goto (tgt := 202) hx hb dX10_mule_191 (by decide) ?_
                                  refine lv_ladd hx hb dX10_mule_202 ?_
                                  refine lv_topl (fun n_98 en_98 => ?_)
                                  refine lv_lstore (lv' := [(9, .long n_98), (11, .int l_77), (8, .int l_66), (6, .long l_65), (5, .int l_64), (0, .ref (hm 0)), (1, .int most), (2, .int dd), (3, .int all), (4, .int what)]) hx hb dX10_mule_203 hl (by decide) rfl (fun ls hl => ?_)
                                  obtain ⟨n_99, en_99⟩ : ∃ y : Int32, y = l_77 + 1 := ⟨_, rfl⟩
                                  have tn_99 : n_99.toInt = l_77.toInt + 1 := i_add en_99 (rfl : l_77.toInt = l_77.toInt) (by decide : (1 : Int32).toInt = 1) (by omega) (by omega)
                                  refine lv_iinc (v := n_99) (lv' := [(11, .int n_99), (9, .long n_98), (8, .int l_66), (6, .long l_65), (5, .int l_64), (0, .ref (hm 0)), (1, .int most), (2, .int dd), (3, .int all), (4, .int what)]) hx hb dX10_mule_205 hl (k := 1) rfl (by rw [en_99]; rfl) (by decide) rfl (fun ls hl => ?_)
                                  refine lv_goto (tgt := 156) hx hb dX10_mule_208 (by decide) ?_
                                  exact ih156_79 n_99 n_98 (by omega) (by omega) _ _ _ hP hD hS (lv_sub hl [0, 1, 2, 3, 4, 5, 6, 7, 8, 9] rfl)
                        have k_100 : (0 : Int32).toInt = 0 := by decide
                        have k_101 : (0 : Int64).toInt = 0 := by decide
                        exact L156_79 8589934592 0 0 (by omega) (by omega) _ _ _ hP hD hS (lv_sub hl [0, 1, 2, 3, 4, 5, 6, 7, 8, 9] rfl)
                  have k_102 : ((-1) : Int32).toInt = (-1) := by decide
                  have k_103 : (1000000000 : Int64).toInt = 1000000000 := by decide
                  have k_104 : (0 : Int32).toInt = 0 := by decide
                  exact L139_67 8589934592 (-1) 1000000000 0 (by omega) (by omega) _ _ _ hP hD hS (lv_sub hl [0, 1, 2, 3, 4, 5, 6, 7] rfl)
                · have gc_60 : l_51.toInt < v_pieces.toInt := i_nle (rfl : v_pieces.toInt = v_pieces.toInt) (rfl : l_51.toInt = l_51.toInt) c_60
                  refine lv_aload_n hx hb dX10_mule_65 rfl (lv_at hl 1 rfl) ?_
                  refine lv_iload hx hb dX10_mule_66 (lv_at hl 0 rfl) ?_
                  refine lv_iload_n hx hb dX10_mule_68 rfl (lv_at hl 4 rfl) ?_
                  refine xv hD hS hA (xV (As := [.int l_51, .int all]) (rest := []) hx hb hml hown hts hK hP hD hS hA NT_ok hN hAe hl.1 ⟨Nat.le_refl _, Nat.le_refl _⟩ 0 rfl rfl rfl (c_X10_lays l D cy hm v_taped v_walkers v_loads v_pieces v_changeCosts v_planned v_isMarch v_clauseMany v_place v_end v_bad v_clauses v_codes v_open v_stacked v_isOver v_isBehind w_58 w_54 w_57 w_52 w_55 w_53 w_56 v_packing v_packed v_goPace v_goMinutes v_spentAt v_ranChanges f_m_tape f_m_knee f_m_weight f_m_isLame f_m_loadWeight f_m_owner f_m_food f_m_miles f_m_slope f_m_clauseLetter f_m_sumFrom f_m_codeFrom f_m_codeTo f_m_code f_m_codeArg f_m_newLetter f_m_newSum f_m_newFrom f_m_newTo f_m_newCode f_m_newArg f_m_stack f_50 f_46 f_47 f_m_packPounds f_m_packOwner f_m_room f_m_givenTo f_m_canBe f_m_setPounds f_49 f_48 f_m_planTo f_m_march f_m_tired f_m_ranMinutes f_m_tiredAhead f_m_isReached f_m_toEnd f_m_upTo f_m_upNext f_m_byChanges f_m_bandPaces H.size l_51 all (by omega) (by omega) (by omega) hr_m_weight hr_m_isLame hr_m_miles hL56_59_0 (by omega) (by omega) hwf) (gi_V lwd_653 lwd_654 lwd_655 lwd_5 lwd_656) ⟨rfl, hd_X10_lays⟩ ⟨Nat.le_of_ble_eq_true rfl, Nat.le_of_ble_eq_true rfl⟩ rfl (Nat.le_of_ble_eq_true rfl) dX10_mule_69) (fun u_105 H locs hw hP hD hS => ?_)
                  obtain ⟨zatW_107, zatL_108, zatT_109, zatH_110, zatM_111, zatI_112, zatQ_113, zworth_114, zisRefused_115, zleast_116⟩ := u_105
                  try dsimp only at hw hP hD
                  obtain ⟨p_117, p_118⟩ := hw
                  refine lv_aload_n hx hb dX10_mule_72 rfl (lv_at hl 1 rfl) ?_
                  refine lv_iload hx hb dX10_mule_73 (lv_at hl 0 rfl) ?_
                  refine xi hD hS hA (xV (As := [.int l_51]) (rest := []) hx hb hml hown hts hK hP hD hS hA NT_ok hN hAe hl.1 ⟨Nat.le_refl _, Nat.le_refl _⟩ 0 rfl rfl rfl (c_X10_allPounds l D cy hm v_taped v_walkers v_loads v_pieces v_changeCosts v_planned v_isMarch v_clauseMany v_place v_end v_bad v_clauses v_codes v_open v_stacked v_isOver v_isBehind zatW_107 zatL_108 zatT_109 zatH_110 zatM_111 zatI_112 zatQ_113 v_packing v_packed v_goPace v_goMinutes v_spentAt v_ranChanges f_m_tape f_m_knee f_m_weight f_m_isLame f_m_loadWeight f_m_owner f_m_food f_m_miles f_m_slope f_m_clauseLetter f_m_sumFrom f_m_codeFrom f_m_codeTo f_m_code f_m_codeArg f_m_newLetter f_m_newSum f_m_newFrom f_m_newTo f_m_newCode f_m_newArg f_m_stack zworth_114 zisRefused_115 zleast_116 f_m_packPounds f_m_packOwner f_m_room f_m_givenTo f_m_canBe f_m_setPounds f_49 f_48 f_m_planTo f_m_march f_m_tired f_m_ranMinutes f_m_tiredAhead f_m_isReached f_m_toEnd f_m_upTo f_m_upNext f_m_byChanges f_m_bandPaces H.size l_51 (by omega) hr_m_loadWeight hr_m_food (by omega)) (gi_V lwd_853 lwd_854 lwd_855 lwd_5 lwd_856) ⟨rfl, hd_X10_allPounds⟩ ⟨Nat.le_of_ble_eq_true rfl, Nat.le_of_ble_eq_true rfl⟩ rfl (Nat.le_of_ble_eq_true rfl) dX10_mule_75) (fun r_120 u_119 H locs hw hP hD hS => ?_)
                  try dsimp only at hw hP hD
                  clear hw
                  refine lv_istore (lv' := [(6, .int r_120), (5, .int l_51), (0, .ref (hm 0)), (1, .int most), (2, .int dd), (3, .int all), (4, .int what)]) hx hb dX10_mule_78 hl (by decide) rfl (fun ls hl => ?_)
                  refine lv_aload_n hx hb dX10_mule_80 rfl (lv_at hl 2 rfl) ?_
                  refine gt_MD_MD_plainTime hx hb hts hown hK hP lwd_187 dX10_mule_81 ?_
                  refine lv_iload hx hb dX10_mule_84 (lv_at hl 1 rfl) ?_
                  refine lv_aload_n hx hb dX10_mule_86 rfl (lv_at hl 2 rfl) ?_
                  refine lv_iload hx hb dX10_mule_87 (lv_at hl 1 rfl) ?_
                  refine lv_iload hx hb dX10_mule_89 (lv_at hl 0 rfl) ?_
                  refine xi hD hS hA (xV (As := [.int l_51, .int r_120]) (rest := [.int l_51, .ref (hm 32)]) hx hb hml hown hts hK hP hD hS hA NT_ok hN hAe hl.1 ⟨Nat.le_refl _, Nat.le_refl _⟩ 0 rfl rfl rfl (c_X10_partsTime l D cy hm v_taped v_walkers v_loads v_pieces v_changeCosts v_planned v_isMarch v_clauseMany v_place v_end v_bad v_clauses v_codes v_open v_stacked v_isOver v_isBehind zatW_107 zatL_108 zatT_109 zatH_110 zatM_111 zatI_112 zatQ_113 v_packing v_packed v_goPace v_goMinutes v_spentAt v_ranChanges f_m_tape f_m_knee f_m_weight f_m_isLame f_m_loadWeight f_m_owner f_m_food f_m_miles f_m_slope f_m_clauseLetter f_m_sumFrom f_m_codeFrom f_m_codeTo f_m_code f_m_codeArg f_m_newLetter f_m_newSum f_m_newFrom f_m_newTo f_m_newCode f_m_newArg f_m_stack zworth_114 zisRefused_115 zleast_116 f_m_packPounds f_m_packOwner f_m_room f_m_givenTo f_m_canBe f_m_setPounds f_49 f_48 f_m_planTo f_m_march f_m_tired f_m_ranMinutes f_m_tiredAhead f_m_isReached f_m_toEnd f_m_upTo f_m_upNext f_m_byChanges f_m_bandPaces H.size l_51 r_120 (by omega) hr_m_miles (by omega)) (gi_V lwd_891 lwd_892 lwd_893 lwd_5 lwd_894) ⟨rfl, hd_X10_partsTime⟩ ⟨Nat.le_of_ble_eq_true rfl, Nat.le_of_ble_eq_true rfl⟩ rfl (Nat.le_of_ble_eq_true rfl) dX10_mule_91) (fun r_122 u_121 H locs hw hP hD hS => ?_)
                  try dsimp only at hw hP hD
                  clear hw
                  refine as_m_plainTime (x := r_122) hx hb hK hP hD hS (i_in (rfl : l_51.toInt = l_51.toInt) (by omega) (by omega)) dX10_mule_94 (fun f_123 ef_123 H locs hP hD hS => ?_)
                  refine lv_aload_n hx hb dX10_mule_95 rfl (lv_at hl 2 rfl) ?_
                  refine gt_MD_MD_muleTime hx hb hts hown hK hP lwd_188 dX10_mule_96 ?_
                  refine lv_iload hx hb dX10_mule_99 (lv_at hl 1 rfl) ?_
                  refine lv_aload_n hx hb dX10_mule_101 rfl (lv_at hl 2 rfl) ?_
                  refine lv_iload hx hb dX10_mule_102 (lv_at hl 1 rfl) ?_
                  refine lv_iload hx hb dX10_mule_104 (lv_at hl 0 rfl) ?_
                  refine lv_iload_n hx hb dX10_mule_106 rfl (lv_at hl 3 rfl) ?_
                  refine lv_icmp_ge (tgt := 114) hx hb dX10_mule_107 (by decide) (fun c_124 => ?_) (fun c_124 => ?_)
                  · have gc_124 : most.toInt ≤ r_120.toInt := i_le (rfl : most.toInt = most.toInt) (rfl : r_120.toInt = r_120.toInt) c_124
                    refine lv_iload hx hb dX10_mule_114 (lv_at hl 0 rfl) ?_
                    refine lv_iload_n hx hb dX10_mule_116 rfl (lv_at hl 3 rfl) ?_
                    refine lv_isub hx hb dX10_mule_117 ?_
                    refine lv_topi (fun n_125 en_125 => ?_)
                    refine xi hD hS hA (xV (As := [.int l_51, .int n_125]) (rest := [.int l_51, .ref (hm 33)]) hx hb hml hown hts hK hP hD hS hA NT_ok hN hAe hl.1 ⟨Nat.le_refl _, Nat.le_refl _⟩ 0 rfl rfl rfl (c_X10_partsTime l D cy hm v_taped v_walkers v_loads v_pieces v_changeCosts v_planned v_isMarch v_clauseMany v_place v_end v_bad v_clauses v_codes v_open v_stacked v_isOver v_isBehind zatW_107 zatL_108 zatT_109 zatH_110 zatM_111 zatI_112 zatQ_113 v_packing v_packed v_goPace v_goMinutes v_spentAt v_ranChanges f_m_tape f_m_knee f_m_weight f_m_isLame f_m_loadWeight f_m_owner f_m_food f_m_miles f_m_slope f_m_clauseLetter f_m_sumFrom f_m_codeFrom f_m_codeTo f_m_code f_m_codeArg f_m_newLetter f_m_newSum f_m_newFrom f_m_newTo f_m_newCode f_m_newArg f_m_stack zworth_114 zisRefused_115 zleast_116 f_m_packPounds f_m_packOwner f_m_room f_m_givenTo f_m_canBe f_m_setPounds f_123 f_48 f_m_planTo f_m_march f_m_tired f_m_ranMinutes f_m_tiredAhead f_m_isReached f_m_toEnd f_m_upTo f_m_upNext f_m_byChanges f_m_bandPaces H.size l_51 n_125 (by omega) hr_m_miles (by omega)) (gi_V lwd_891 lwd_892 lwd_893 lwd_5 lwd_894) ⟨rfl, hd_X10_partsTime⟩ ⟨Nat.le_of_ble_eq_true rfl, Nat.le_of_ble_eq_true rfl⟩ rfl (Nat.le_of_ble_eq_true rfl) dX10_mule_118) (fun r_127 u_126 H locs hw hP hD hS => ?_)
                    try dsimp only at hw hP hD
                    clear hw
                    refine as_m_muleTime (x := r_127) hx hb hK hP hD hS (i_in (rfl : l_51.toInt = l_51.toInt) (by omega) (by omega)) dX10_mule_121 (fun f_128 ef_128 H locs hP hD hS => ?_)
                    obtain ⟨n_129, en_129⟩ : ∃ y : Int32, y = l_51 + 1 := ⟨_, rfl⟩
                    have tn_129 : n_129.toInt = l_51.toInt + 1 := i_add en_129 (rfl : l_51.toInt = l_51.toInt) (by decide : (1 : Int32).toInt = 1) (by omega) (by omega)
                    refine lv_iinc (v := n_129) (lv' := [(5, .int n_129), (6, .int r_120), (0, .ref (hm 0)), (1, .int most), (2, .int dd), (3, .int all), (4, .int what)]) hx hb dX10_mule_122 hl (k := 1) rfl (by rw [en_129]; rfl) (by decide) rfl (fun ls hl => ?_)
                    refine lv_goto (tgt := 56) hx hb dX10_mule_125 (by decide) ?_
                    exact ih56_59 zisRefused_115 zleast_116 f_128 f_123 zworth_114 n_129 zatH_110 zatI_112 zatL_108 zatM_111 zatQ_113 zatT_109 zatW_107 p_118 (by omega) (by omega) (by omega) _ _ _ hP hD hS (lv_sub hl [0, 2, 3, 4, 5, 6] rfl)
                  · have gc_124 : r_120.toInt < most.toInt := i_nle (rfl : most.toInt = most.toInt) (rfl : r_120.toInt = r_120.toInt) c_124
                    refine lv_iconst (v := 0) hx hb dX10_mule_110 (by decide) ?_
                    refine lv_goto (tgt := 118) hx hb dX10_mule_111 (by decide) ?_
                    have k_130 : (0 : Int32).toInt = 0 := by decide
                    refine xi hD hS hA (xV (As := [.int l_51, .int 0]) (rest := [.int l_51, .ref (hm 33)]) hx hb hml hown hts hK hP hD hS hA NT_ok hN hAe hl.1 ⟨Nat.le_refl _, Nat.le_refl _⟩ 0 rfl rfl rfl (c_X10_partsTime l D cy hm v_taped v_walkers v_loads v_pieces v_changeCosts v_planned v_isMarch v_clauseMany v_place v_end v_bad v_clauses v_codes v_open v_stacked v_isOver v_isBehind zatW_107 zatL_108 zatT_109 zatH_110 zatM_111 zatI_112 zatQ_113 v_packing v_packed v_goPace v_goMinutes v_spentAt v_ranChanges f_m_tape f_m_knee f_m_weight f_m_isLame f_m_loadWeight f_m_owner f_m_food f_m_miles f_m_slope f_m_clauseLetter f_m_sumFrom f_m_codeFrom f_m_codeTo f_m_code f_m_codeArg f_m_newLetter f_m_newSum f_m_newFrom f_m_newTo f_m_newCode f_m_newArg f_m_stack zworth_114 zisRefused_115 zleast_116 f_m_packPounds f_m_packOwner f_m_room f_m_givenTo f_m_canBe f_m_setPounds f_123 f_48 f_m_planTo f_m_march f_m_tired f_m_ranMinutes f_m_tiredAhead f_m_isReached f_m_toEnd f_m_upTo f_m_upNext f_m_byChanges f_m_bandPaces H.size l_51 0 (by omega) hr_m_miles (by omega)) (gi_V lwd_891 lwd_892 lwd_893 lwd_5 lwd_894) ⟨rfl, hd_X10_partsTime⟩ ⟨Nat.le_of_ble_eq_true rfl, Nat.le_of_ble_eq_true rfl⟩ rfl (Nat.le_of_ble_eq_true rfl) dX10_mule_118) (fun r_132 u_131 H locs hw hP hD hS => ?_)
                    try dsimp only at hw hP hD
                    clear hw
                    refine as_m_muleTime (x := r_132) hx hb hK hP hD hS (i_in (rfl : l_51.toInt = l_51.toInt) (by omega) (by omega)) dX10_mule_121 (fun f_133 ef_133 H locs hP hD hS => ?_)
                    obtain ⟨n_134, en_134⟩ : ∃ y : Int32, y = l_51 + 1 := ⟨_, rfl⟩
                    have tn_134 : n_134.toInt = l_51.toInt + 1 := i_add en_134 (rfl : l_51.toInt = l_51.toInt) (by decide : (1 : Int32).toInt = 1) (by omega) (by omega)
                    refine lv_iinc (v := n_134) (lv' := [(5, .int n_134), (6, .int r_120), (0, .ref (hm 0)), (1, .int most), (2, .int dd), (3, .int all), (4, .int what)]) hx hb dX10_mule_122 hl (k := 1) rfl (by rw [en_134]; rfl) (by decide) rfl (fun ls hl => ?_)
                    refine lv_goto (tgt := 56) hx hb dX10_mule_125 (by decide) ?_
                    exact ih56_59 zisRefused_115 zleast_116 f_133 f_123 zworth_114 n_134 zatH_110 zatI_112 zatL_108 zatM_111 zatQ_113 zatT_109 zatW_107 p_118 (by omega) (by omega) (by omega) _ _ _ hP hD hS (lv_sub hl [0, 2, 3, 4, 5, 6] rfl)
            have k_135 : (0 : Int32).toInt = 0 := by decide
            exact L56_59 8589934592 f_m_isRefused f_m_least f_m_muleTime f_m_plainTime f_m_worth 0 v_atH v_atI v_atL v_atM v_atQ v_atT v_atW hr_m_isRefused (by omega) (by omega) (by omega) _ _ _ hP hD hS (lv_sub hl [0, 1, 2, 3, 4, 5] rfl)
          · have gc_32 : r_29.toInt = 0 := i_eq (rfl : r_29.toInt = r_29.toInt) (by decide : (0 : Int32).toInt = 0) c_32
            refine lv_iconst (v := (-1)) hx hb dX10_mule_51 (by decide) ?_
            have k_136 : ((-1) : Int32).toInt = (-1) := by decide
            exact hrt (-1) v_atW v_atL v_atT v_atH v_atM v_atI v_atQ f_m_worth f_m_isRefused f_m_least f_m_plainTime f_m_muleTime ⟨(by omega), hr_m_isRefused⟩ hP hD hS rfl dX10_mule_52
set_option maxHeartbeats 16000000 in
set_option maxRecDepth 100000 in
theorem c_X10_plan (l : Launch) (D : va_G) (cy : Nat → ClassId) (hm : Nat → Nat) (v_taped v_walkers v_loads v_pieces v_changeCosts v_planned v_isMarch v_clauseMany v_place v_end v_bad v_clauses v_codes v_open v_stacked v_isOver v_isBehind v_atW v_atL v_atT v_atH v_atM v_atI v_atQ v_packing v_packed v_goPace v_goMinutes v_spentAt v_ranChanges : Int32) (f_m_tape f_m_knee f_m_weight f_m_isLame f_m_loadWeight f_m_owner f_m_food f_m_miles f_m_slope f_m_clauseLetter f_m_sumFrom f_m_codeFrom f_m_codeTo f_m_code f_m_codeArg f_m_newLetter f_m_newSum f_m_newFrom f_m_newTo f_m_newCode f_m_newArg f_m_stack f_m_worth f_m_isRefused f_m_least f_m_packPounds f_m_packOwner f_m_room f_m_givenTo f_m_canBe f_m_setPounds f_m_plainTime f_m_muleTime f_m_planTo f_m_march f_m_tired f_m_ranMinutes f_m_tiredAhead f_m_isReached f_m_toEnd f_m_upTo f_m_upNext f_m_byChanges f_m_bandPaces : Nat → Int32) (sz : Nat) (k : Int32) (hb_v_taped : 0 ≤ v_taped.toInt ∧ v_taped.toInt ≤ 220) (hb_v_walkers : 0 ≤ v_walkers.toInt ∧ v_walkers.toInt ≤ 6) (hb_v_loads : 0 ≤ v_loads.toInt ∧ v_loads.toInt ≤ 9) (hb_v_isMarch : 0 ≤ v_isMarch.toInt ∧ v_isMarch.toInt ≤ 1) (hr_m_tape : rg (-128) 127 f_m_tape) (hr_m_owner : rg (-1) 5 f_m_owner) : gMi l yX10_plan cX10_plan 3 .boolean 3 [.ref (hm 0), .int k] D cy (wMD cy hm v_taped v_walkers v_loads v_pieces v_changeCosts v_planned v_isMarch v_clauseMany v_place v_end v_bad v_clauses v_codes v_open v_stacked v_isOver v_isBehind v_atW v_atL v_atT v_atH v_atM v_atI v_atQ v_packing v_packed v_goPace v_goMinutes v_spentAt v_ranChanges f_m_tape f_m_knee f_m_weight f_m_isLame f_m_loadWeight f_m_owner f_m_food f_m_miles f_m_slope f_m_clauseLetter f_m_sumFrom f_m_codeFrom f_m_codeTo f_m_code f_m_codeArg f_m_newLetter f_m_newSum f_m_newFrom f_m_newTo f_m_newCode f_m_newArg f_m_stack f_m_worth f_m_isRefused f_m_least f_m_packPounds f_m_packOwner f_m_room f_m_givenTo f_m_canBe f_m_setPounds f_m_plainTime f_m_muleTime f_m_planTo f_m_march f_m_tired f_m_ranMinutes f_m_tiredAhead f_m_isReached f_m_toEnd f_m_upTo f_m_upNext f_m_byChanges f_m_bandPaces) NT sz (fun (r : Int32) (u : Int32 × Int32 × Int32 × (Nat → Int32)) => (0 ≤ r.toInt ∧ r.toInt ≤ 1) ∧ ((u.2.2.1).toInt = 0 ∨ (u.2.2.1).toInt = v_isMarch.toInt) ∧ (0 ≤ (u.1).toInt ∧ (u.1).toInt ≤ 220) ∧ (0 ≤ (u.2.2.1).toInt ∧ (u.2.2.1).toInt ≤ 1)) (fun u => wMD cy hm (u.1) v_walkers v_loads v_pieces v_changeCosts (u.2.1) (u.2.2.1) v_clauseMany v_place v_end v_bad v_clauses v_codes v_open v_stacked v_isOver v_isBehind v_atW v_atL v_atT v_atH v_atM v_atI v_atQ v_packing v_packed v_goPace v_goMinutes v_spentAt v_ranChanges f_m_tape f_m_knee f_m_weight f_m_isLame f_m_loadWeight f_m_owner f_m_food f_m_miles f_m_slope f_m_clauseLetter f_m_sumFrom f_m_codeFrom f_m_codeTo f_m_code f_m_codeArg f_m_newLetter f_m_newSum f_m_newFrom f_m_newTo f_m_newCode f_m_newArg f_m_stack f_m_worth f_m_isRefused f_m_least f_m_packPounds f_m_packOwner f_m_room f_m_givenTo f_m_canBe f_m_setPounds f_m_plainTime f_m_muleTime (u.2.2.2) f_m_march f_m_tired f_m_ranMinutes f_m_tiredAhead f_m_isReached f_m_toEnd f_m_upTo f_m_upNext f_m_byChanges f_m_bandPaces) := by
  refine gMi_in (by decide) (Nat.le_of_ble_eq_true rfl) ?_
  intro p e s m args below meth c A ls Q hx hb hml hts hown hsz hP hK hD hN hAe hA hS hl hret
  subst hsz
  have hl : lv_has ls 3 [(0, .ref (hm 0)), (1, .int k)] := hl
  have hrt := fun (r : Int32) (v_taped' : Int32) (v_planned' : Int32) (v_isMarch' : Int32) (f_m_planTo' : Nat → Int32) (hp : (0 ≤ r.toInt ∧ r.toInt ≤ 1) ∧ (v_isMarch'.toInt = 0 ∨ v_isMarch'.toInt = v_isMarch.toInt) ∧ (0 ≤ v_taped'.toInt ∧ v_taped'.toInt ≤ 220) ∧ (0 ≤ v_isMarch'.toInt ∧ v_isMarch'.toInt ≤ 1)) {H : Heap} {locs : List Loc} {pc : Nat} {ls : Array Slot} => hret r (v_taped', v_planned', v_isMarch', f_m_planTo') (H := H) (locs := locs) (pc := pc) (ls := ls) hp
  clear hret
  refine lv_iload_n hx hb dX10_plan_0 rfl (lv_at hl 1 rfl) ?_
  refine lv_i2l (v := k.toInt64) hx hb dX10_plan_1 rfl ?_
  have hl_1 : k.toInt64.toInt = k.toInt := i_l (rfl : k.toInt = k.toInt)
  refine lv_lconst (v := 0) hx hb dX10_plan_2 (by decide) ?_
  refine lv_ldc2 hx hb hown (hts _ lwd_548) dX10_plan_3 ?_
  have k_2 : (0 : Int64).toInt = 0 := by decide
  have k_3 : (5 : Int64).toInt = 5 := by decide
  refine xi hD hS hA (xS (As := [.long k.toInt64, .long 0, .long 5]) (rest := []) hx hb hml hown hts hK hP hD hS hA NT_ok hN hAe hl.1 ⟨Nat.le_refl _, Nat.le_refl _⟩ (c_X10_lies l D cy hm v_taped v_walkers v_loads v_pieces v_changeCosts v_planned v_isMarch v_clauseMany v_place v_end v_bad v_clauses v_codes v_open v_stacked v_isOver v_isBehind v_atW v_atL v_atT v_atH v_atM v_atI v_atQ v_packing v_packed v_goPace v_goMinutes v_spentAt v_ranChanges f_m_tape f_m_knee f_m_weight f_m_isLame f_m_loadWeight f_m_owner f_m_food f_m_miles f_m_slope f_m_clauseLetter f_m_sumFrom f_m_codeFrom f_m_codeTo f_m_code f_m_codeArg f_m_newLetter f_m_newSum f_m_newFrom f_m_newTo f_m_newCode f_m_newArg f_m_stack f_m_worth f_m_isRefused f_m_least f_m_packPounds f_m_packOwner f_m_room f_m_givenTo f_m_canBe f_m_setPounds f_m_plainTime f_m_muleTime f_m_planTo f_m_march f_m_tired f_m_ranMinutes f_m_tiredAhead f_m_isReached f_m_toEnd f_m_upTo f_m_upNext f_m_byChanges f_m_bandPaces s.heap.size k.toInt64 0 5) (gi_S lwd_226 lwd_227 lwd_5 lwd_228) hd_X10_lies ⟨Nat.le_of_ble_eq_true rfl, Nat.le_of_ble_eq_true rfl⟩ rfl (Nat.le_of_ble_eq_true rfl) dX10_plan_6) (fun r_5 u_4 H locs hw hP hD hS => ?_)
  try dsimp only at hw hP hD
  obtain ⟨p_6, p_7⟩ := hw
  refine lv_if_eq (tgt := 23) hx hb dX10_plan_9 (by decide) (fun c_8 => ?_) (fun c_8 => ?_)
  · have gc_8 : r_5.toInt = 0 := i_eq (rfl : r_5.toInt = r_5.toInt) (by decide : (0 : Int32).toInt = 0) c_8
    refine lv_iconst (v := 0) hx hb dX10_plan_23 (by decide) ?_
    have k_9 : (0 : Int32).toInt = 0 := by decide
    exact hrt 0 v_taped v_planned v_isMarch f_m_planTo ⟨(by omega), (by omega), (by omega), (by omega)⟩ hP hD hS rfl dX10_plan_24
  · have gc_8 : r_5.toInt ≠ 0 := i_ne (rfl : r_5.toInt = r_5.toInt) (by decide : (0 : Int32).toInt = 0) c_8
    refine lv_aload_n hx hb dX10_plan_12 rfl (lv_at hl 0 rfl) ?_
    refine gt_MD_MD_taped hx hb hts hown hK hP lwd_298 dX10_plan_13 ?_
    refine lv_aload_n hx hb dX10_plan_16 rfl (lv_at hl 0 rfl) ?_
    refine gt_MD_MD_loads hx hb hts hown hK hP lwd_247 dX10_plan_17 ?_
    refine lv_icmp_ge (tgt := 25) hx hb dX10_plan_20 (by decide) (fun c_10 => ?_) (fun c_10 => ?_)
    · have gc_10 : v_loads.toInt ≤ v_taped.toInt := i_le (rfl : v_loads.toInt = v_loads.toInt) (rfl : v_taped.toInt = v_taped.toInt) c_10
      refine lv_aload_n hx hb dX10_plan_25 rfl (lv_at hl 0 rfl) ?_
      refine lv_iconst (v := 0) hx hb dX10_plan_26 (by decide) ?_
      refine pt_MD_MD_taped (x := 0) hx hb hts hown hK hP hD hS lwd_298 dX10_plan_27 (fun H locs hP hD hS => ?_)
      refine lv_iconst (v := 0) hx hb dX10_plan_30 (by decide) ?_
      refine lv_istore_n (lv' := [(2, .int 0), (0, .ref (hm 0)), (1, .int k)]) hx hb dX10_plan_31 rfl hl (by decide) rfl (fun ls hl => ?_)
      have L32_13 : ∀ (n : Nat) (l_12 : Int32), (0 ≤ l_12.toInt ∧ l_12.toInt ≤ 9) → 10 - l_12.toInt < n → ∀ (H : Heap) (locs : List Loc) (ls : Array Slot), va_P D vwCl (wMD cy hm 0 v_walkers v_loads v_pieces v_changeCosts v_planned v_isMarch v_clauseMany v_place v_end v_bad v_clauses v_codes v_open v_stacked v_isOver v_isBehind v_atW v_atL v_atT v_atH v_atM v_atI v_atQ v_packing v_packed v_goPace v_goMinutes v_spentAt v_ranChanges f_m_tape f_m_knee f_m_weight f_m_isLame f_m_loadWeight f_m_owner f_m_food f_m_miles f_m_slope f_m_clauseLetter f_m_sumFrom f_m_codeFrom f_m_codeTo f_m_code f_m_codeArg f_m_newLetter f_m_newSum f_m_newFrom f_m_newTo f_m_newCode f_m_newArg f_m_stack f_m_worth f_m_isRefused f_m_least f_m_packPounds f_m_packOwner f_m_room f_m_givenTo f_m_canBe f_m_setPounds f_m_plainTime f_m_muleTime f_m_planTo f_m_march f_m_tired f_m_ranMinutes f_m_tiredAhead f_m_isReached f_m_toEnd f_m_upTo f_m_upNext f_m_byChanges f_m_bandPaces) H → va_D A (wMD cy hm 0 v_walkers v_loads v_pieces v_changeCosts v_planned v_isMarch v_clauseMany v_place v_end v_bad v_clauses v_codes v_open v_stacked v_isOver v_isBehind v_atW v_atL v_atT v_atH v_atM v_atI v_atQ v_packing v_packed v_goPace v_goMinutes v_spentAt v_ranChanges f_m_tape f_m_knee f_m_weight f_m_isLame f_m_loadWeight f_m_owner f_m_food f_m_miles f_m_slope f_m_clauseLetter f_m_sumFrom f_m_codeFrom f_m_codeTo f_m_code f_m_codeArg f_m_newLetter f_m_newSum f_m_newFrom f_m_newTo f_m_newCode f_m_newArg f_m_stack f_m_worth f_m_isRefused f_m_least f_m_packPounds f_m_packOwner f_m_room f_m_givenTo f_m_canBe f_m_setPounds f_m_plainTime f_m_muleTime f_m_planTo f_m_march f_m_tired f_m_ranMinutes f_m_tiredAhead f_m_isReached f_m_toEnd f_m_upTo f_m_upNext f_m_byChanges f_m_bandPaces) → va_S A s.heap H locs → lv_has ls 3 [(2, .int l_12), (0, .ref (hm 0)), (1, .int k)] → W p l e (gRm 3) s m args below meth c H locs 0 0 Q (F0 m 32 ls []) := by
        intro n
        induction n with
        | zero => intro l_12 hL32_13_0 hm; exact absurd hm (by omega)
        | succ n ih32_13 =>
          intro l_12 hL32_13_0 hmL32_13 H locs ls hP hD hS hl
          refine lv_iload_n hx hb dX10_plan_32 rfl (lv_at hl 0 rfl) ?_
          refine lv_aload_n hx hb dX10_plan_33 rfl (lv_at hl 1 rfl) ?_
          refine gt_MD_MD_loads hx hb hts hown hK hP lwd_247 dX10_plan_34 ?_
          refine lv_icmp_ge (tgt := 86) hx hb dX10_plan_37 (by decide) (fun c_14 => ?_) (fun c_14 => ?_)
          · have gc_14 : v_loads.toInt ≤ l_12.toInt := i_le (rfl : v_loads.toInt = v_loads.toInt) (rfl : l_12.toInt = l_12.toInt) c_14
            refine lv_iconst (v := 0) hx hb dX10_plan_86 (by decide) ?_
            refine lv_istore_n (lv' := [(2, .int 0), (0, .ref (hm 0)), (1, .int k)]) hx hb dX10_plan_87 rfl hl (by decide) rfl (fun ls hl => ?_)
            have L88_19 : ∀ (n : Nat) (f_17 : Nat → Int32) (l_18 : Int32), (0 ≤ l_18.toInt ∧ l_18.toInt ≤ 9) → 10 - l_18.toInt < n → ∀ (H : Heap) (locs : List Loc) (ls : Array Slot), va_P D vwCl (wMD cy hm 0 v_walkers v_loads v_pieces v_changeCosts v_planned v_isMarch v_clauseMany v_place v_end v_bad v_clauses v_codes v_open v_stacked v_isOver v_isBehind v_atW v_atL v_atT v_atH v_atM v_atI v_atQ v_packing v_packed v_goPace v_goMinutes v_spentAt v_ranChanges f_m_tape f_m_knee f_m_weight f_m_isLame f_m_loadWeight f_m_owner f_m_food f_m_miles f_m_slope f_m_clauseLetter f_m_sumFrom f_m_codeFrom f_m_codeTo f_m_code f_m_codeArg f_m_newLetter f_m_newSum f_m_newFrom f_m_newTo f_m_newCode f_m_newArg f_m_stack f_m_worth f_m_isRefused f_m_least f_m_packPounds f_m_packOwner f_m_room f_m_givenTo f_m_canBe f_m_setPounds f_m_plainTime f_m_muleTime f_17 f_m_march f_m_tired f_m_ranMinutes f_m_tiredAhead f_m_isReached f_m_toEnd f_m_upTo f_m_upNext f_m_byChanges f_m_bandPaces) H → va_D A (wMD cy hm 0 v_walkers v_loads v_pieces v_changeCosts v_planned v_isMarch v_clauseMany v_place v_end v_bad v_clauses v_codes v_open v_stacked v_isOver v_isBehind v_atW v_atL v_atT v_atH v_atM v_atI v_atQ v_packing v_packed v_goPace v_goMinutes v_spentAt v_ranChanges f_m_tape f_m_knee f_m_weight f_m_isLame f_m_loadWeight f_m_owner f_m_food f_m_miles f_m_slope f_m_clauseLetter f_m_sumFrom f_m_codeFrom f_m_codeTo f_m_code f_m_codeArg f_m_newLetter f_m_newSum f_m_newFrom f_m_newTo f_m_newCode f_m_newArg f_m_stack f_m_worth f_m_isRefused f_m_least f_m_packPounds f_m_packOwner f_m_room f_m_givenTo f_m_canBe f_m_setPounds f_m_plainTime f_m_muleTime f_17 f_m_march f_m_tired f_m_ranMinutes f_m_tiredAhead f_m_isReached f_m_toEnd f_m_upTo f_m_upNext f_m_byChanges f_m_bandPaces) → va_S A s.heap H locs → lv_has ls 3 [(2, .int l_18), (0, .ref (hm 0)), (1, .int k)] → W p l e (gRm 3) s m args below meth c H locs 0 0 Q (F0 m 88 ls []) := by
              intro n
              induction n with
              | zero => intro f_17 l_18 hL88_19_0 hm; exact absurd hm (by omega)
              | succ n ih88_19 =>
                intro f_17 l_18 hL88_19_0 hmL88_19 H locs ls hP hD hS hl
                refine lv_iload_n hx hb dX10_plan_88 rfl (lv_at hl 0 rfl) ?_
                refine lv_aload_n hx hb dX10_plan_89 rfl (lv_at hl 1 rfl) ?_
                refine gt_MD_MD_loads hx hb hts hown hK hP lwd_247 dX10_plan_90 ?_
                refine lv_icmp_ge (tgt := 119) hx hb dX10_plan_93 (by decide) (fun c_20 => ?_) (fun c_20 => ?_)
                · have gc_20 : v_loads.toInt ≤ l_18.toInt := i_le (rfl : v_loads.toInt = v_loads.toInt) (rfl : l_18.toInt = l_18.toInt) c_20
                  refine lv_aload_n hx hb dX10_plan_119 rfl (lv_at hl 1 rfl) ?_
                  refine lv_dup hx hb dX10_plan_120 rfl ?_
                  refine gt_MD_MD_planned hx hb hts hown hK hP lwd_249 dX10_plan_121 ?_
                  refine lv_iconst (v := 1) hx hb dX10_plan_124 (by decide) ?_
                  refine lv_iload_n hx hb dX10_plan_125 rfl (lv_at hl 2 rfl) ?_
                  refine lv_ishl hx hb dX10_plan_126 ?_
                  refine lv_topi (fun n_21 en_21 => ?_)
                  refine lv_ior hx hb dX10_plan_127 ?_
                  refine lv_topi (fun n_22 en_22 => ?_)
                  refine pt_MD_MD_planned (x := n_22) hx hb hts hown hK hP hD hS lwd_249 dX10_plan_128 (fun H locs hP hD hS => ?_)
                  refine lv_aload_n hx hb dX10_plan_131 rfl (lv_at hl 1 rfl) ?_
                  refine lv_iconst (v := 0) hx hb dX10_plan_132 (by decide) ?_
                  refine pt_MD_MD_isMarch (x := 0) hx hb hts hown hK hP hD hS lwd_225 (by decide) dX10_plan_133 (fun H locs hP hD hS => ?_)
                  refine lv_iconst (v := 1) hx hb dX10_plan_136 (by decide) ?_
                  have k_23 : (0 : Int32).toInt = 0 := by decide
                  have k_24 : (0 : Int32).toInt = 0 := by decide
                  have k_25 : (1 : Int32).toInt = 1 := by decide
                  exact hrt 1 0 n_22 0 f_17 ⟨(by omega), (by omega), (by omega), (by omega)⟩ hP hD hS rfl dX10_plan_137
                · have gc_20 : l_18.toInt < v_loads.toInt := i_nle (rfl : v_loads.toInt = v_loads.toInt) (rfl : l_18.toInt = l_18.toInt) c_20
                  refine lv_aload_n hx hb dX10_plan_96 rfl (lv_at hl 1 rfl) ?_
                  refine gt_MD_MD_planTo hx hb hts hown hK hP lwd_189 dX10_plan_97 ?_
                  refine lv_bipush (v := 9) hx hb dX10_plan_100 (by decide) ?_
                  refine lv_iload_n hx hb dX10_plan_102 rfl (lv_at hl 2 rfl) ?_
                  refine lv_imul hx hb dX10_plan_103 ?_
                  have hb_26 := And.intro (i_bot k) (i_top k)
                  refine lv_topi (fun n_27 en_27 => ?_)
                  have tn_27 : n_27.toInt = 9 * k.toInt := i_mul en_27 (by decide : (9 : Int32).toInt = 9) (rfl : k.toInt = k.toInt) (by omega) (by omega)
                  refine lv_iload_n hx hb dX10_plan_104 rfl (lv_at hl 0 rfl) ?_
                  refine lv_iadd hx hb dX10_plan_105 ?_
                  have hb_28 := And.intro (i_bot n_27) (i_top n_27)
                  refine lv_topi (fun n_29 en_29 => ?_)
                  have tn_29 : n_29.toInt = (9 * k.toInt) + l_18.toInt := i_add en_29 tn_27 (rfl : l_18.toInt = l_18.toInt) (by omega) (by omega)
                  refine lv_aload_n hx hb dX10_plan_106 rfl (lv_at hl 1 rfl) ?_
                  refine gt_MD_MD_tape hx hb hts hown hK hP lwd_155 dX10_plan_107 ?_
                  refine lv_iload_n hx hb dX10_plan_110 rfl (lv_at hl 0 rfl) ?_
                  refine al_m_tape hx hb hK hP hr_m_tape (i_in (rfl : l_18.toInt = l_18.toInt) (by omega) (by omega)) dX10_plan_111 (fun n_30 en_30 bn_30 => ?_)
                  refine as_m_planTo (x := n_30) hx hb hK hP hD hS (i_in tn_29 (by omega) (by omega)) dX10_plan_112 (fun f_31 ef_31 H locs hP hD hS => ?_)
                  obtain ⟨n_32, en_32⟩ : ∃ y : Int32, y = l_18 + 1 := ⟨_, rfl⟩
                  have tn_32 : n_32.toInt = l_18.toInt + 1 := i_add en_32 (rfl : l_18.toInt = l_18.toInt) (by decide : (1 : Int32).toInt = 1) (by omega) (by omega)
                  refine lv_iinc (v := n_32) (lv' := [(2, .int n_32), (0, .ref (hm 0)), (1, .int k)]) hx hb dX10_plan_113 hl (k := 0) rfl (by rw [en_32]; rfl) (by decide) rfl (fun ls hl => ?_)
                  refine lv_goto (tgt := 88) hx hb dX10_plan_116 (by decide) ?_
                  exact ih88_19 f_31 n_32 (by omega) (by omega) _ _ _ hP hD hS (lv_sub hl [0, 1, 2] rfl)
            have k_33 : (0 : Int32).toInt = 0 := by decide
            exact L88_19 8589934592 f_m_planTo 0 (by omega) (by omega) _ _ _ hP hD hS (lv_sub hl [0, 1, 2] rfl)
          · have gc_14 : l_12.toInt < v_loads.toInt := i_nle (rfl : v_loads.toInt = v_loads.toInt) (rfl : l_12.toInt = l_12.toInt) c_14
            refine lv_aload_n hx hb dX10_plan_40 rfl (lv_at hl 1 rfl) ?_
            refine lv_aload_n hx hb dX10_plan_41 rfl (lv_at hl 1 rfl) ?_
            refine gt_MD_MD_tape hx hb hts hown hK hP lwd_155 dX10_plan_42 ?_
            refine lv_iload_n hx hb dX10_plan_45 rfl (lv_at hl 0 rfl) ?_
            refine al_m_tape hx hb hK hP hr_m_tape (i_in (rfl : l_12.toInt = l_12.toInt) (by omega) (by omega)) dX10_plan_46 (fun n_34 en_34 bn_34 => ?_)
            refine xi hD hS hA (xV (As := [.int n_34]) (rest := []) hx hb hml hown hts hK hP hD hS hA NT_ok hN hAe hl.1 ⟨Nat.le_refl _, Nat.le_refl _⟩ 0 rfl rfl rfl (c_X10_isWalker l D cy hm 0 v_walkers v_loads v_pieces v_changeCosts v_planned v_isMarch v_clauseMany v_place v_end v_bad v_clauses v_codes v_open v_stacked v_isOver v_isBehind v_atW v_atL v_atT v_atH v_atM v_atI v_atQ v_packing v_packed v_goPace v_goMinutes v_spentAt v_ranChanges f_m_tape f_m_knee f_m_weight f_m_isLame f_m_loadWeight f_m_owner f_m_food f_m_miles f_m_slope f_m_clauseLetter f_m_sumFrom f_m_codeFrom f_m_codeTo f_m_code f_m_codeArg f_m_newLetter f_m_newSum f_m_newFrom f_m_newTo f_m_newCode f_m_newArg f_m_stack f_m_worth f_m_isRefused f_m_least f_m_packPounds f_m_packOwner f_m_room f_m_givenTo f_m_canBe f_m_setPounds f_m_plainTime f_m_muleTime f_m_planTo f_m_march f_m_tired f_m_ranMinutes f_m_tiredAhead f_m_isReached f_m_toEnd f_m_upTo f_m_upNext f_m_byChanges f_m_bandPaces H.size n_34 (by omega)) (gi_V lwd_250 lwd_251 lwd_252 lwd_5 lwd_253) ⟨rfl, hd_X10_isWalker⟩ ⟨Nat.le_of_ble_eq_true rfl, Nat.le_of_ble_eq_true rfl⟩ rfl (Nat.le_of_ble_eq_true rfl) dX10_plan_47) (fun r_36 u_35 H locs hw hP hD hS => ?_)
            try dsimp only at hw hP hD
            obtain ⟨p_37, p_38⟩ := hw
            refine lv_if_eq (tgt := 78) hx hb dX10_plan_50 (by decide) (fun c_39 => ?_) (fun c_39 => ?_)
            · have gc_39 : r_36.toInt = 0 := i_eq (rfl : r_36.toInt = r_36.toInt) (by decide : (0 : Int32).toInt = 0) c_39
              refine lv_iconst (v := 0) hx hb dX10_plan_78 (by decide) ?_
              have k_40 : (0 : Int32).toInt = 0 := by decide
              have k_41 : (0 : Int32).toInt = 0 := by decide
              exact hrt 0 0 v_planned v_isMarch f_m_planTo ⟨(by omega), (by omega), (by omega), (by omega)⟩ hP hD hS rfl dX10_plan_79
            · have gc_39 : r_36.toInt ≠ 0 := i_ne (rfl : r_36.toInt = r_36.toInt) (by decide : (0 : Int32).toInt = 0) c_39
              refine lv_aload_n hx hb dX10_plan_53 rfl (lv_at hl 1 rfl) ?_
              refine gt_MD_MD_owner hx hb hts hown hK hP lwd_161 dX10_plan_54 ?_
              refine lv_iload_n hx hb dX10_plan_57 rfl (lv_at hl 0 rfl) ?_
              refine al_m_owner hx hb hK hP hr_m_owner (i_in (rfl : l_12.toInt = l_12.toInt) (by omega) (by omega)) dX10_plan_58 (fun n_42 en_42 bn_42 => ?_)
              refine lv_iconst (v := (-1)) hx hb dX10_plan_59 (by decide) ?_
              refine lv_icmp_eq (tgt := 80) hx hb dX10_plan_60 (by decide) (fun c_43 => ?_) (fun c_43 => ?_)
              · have gc_43 : n_42.toInt = (-1) := i_eq (rfl : n_42.toInt = n_42.toInt) (by decide : ((-1) : Int32).toInt = (-1)) c_43
                obtain ⟨n_44, en_44⟩ : ∃ y : Int32, y = l_12 + 1 := ⟨_, rfl⟩
                have tn_44 : n_44.toInt = l_12.toInt + 1 := i_add en_44 (rfl : l_12.toInt = l_12.toInt) (by decide : (1 : Int32).toInt = 1) (by omega) (by omega)
                refine lv_iinc (v := n_44) (lv' := [(2, .int n_44), (0, .ref (hm 0)), (1, .int k)]) hx hb dX10_plan_80 hl (k := 0) rfl (by rw [en_44]; rfl) (by decide) rfl (fun ls hl => ?_)
                refine lv_goto (tgt := 32) hx hb dX10_plan_83 (by decide) ?_
                exact ih32_13 n_44 (by omega) (by omega) _ _ _ hP hD hS (lv_sub hl [0, 1, 2] rfl)
              · have gc_43 : n_42.toInt ≠ (-1) := i_ne (rfl : n_42.toInt = n_42.toInt) (by decide : ((-1) : Int32).toInt = (-1)) c_43
                refine lv_aload_n hx hb dX10_plan_63 rfl (lv_at hl 1 rfl) ?_
                refine gt_MD_MD_tape hx hb hts hown hK hP lwd_155 dX10_plan_64 ?_
                refine lv_iload_n hx hb dX10_plan_67 rfl (lv_at hl 0 rfl) ?_
                refine al_m_tape hx hb hK hP hr_m_tape (i_in (rfl : l_12.toInt = l_12.toInt) (by omega) (by omega)) dX10_plan_68 (fun n_45 en_45 bn_45 => ?_)
                obtain rfl : n_34 = n_45 := en_34.trans en_45.symm
                refine lv_aload_n hx hb dX10_plan_69 rfl (lv_at hl 1 rfl) ?_
                refine gt_MD_MD_owner hx hb hts hown hK hP lwd_161 dX10_plan_70 ?_
                refine lv_iload_n hx hb dX10_plan_73 rfl (lv_at hl 0 rfl) ?_
                refine al_m_owner hx hb hK hP hr_m_owner (i_in (rfl : l_12.toInt = l_12.toInt) (by omega) (by omega)) dX10_plan_74 (fun n_46 en_46 bn_46 => ?_)
                obtain rfl : n_42 = n_46 := en_42.trans en_46.symm
                refine lv_icmp_eq (tgt := 80) hx hb dX10_plan_75 (by decide) (fun c_47 => ?_) (fun c_47 => ?_)
                · have gc_47 : n_34.toInt = n_42.toInt := i_eq (rfl : n_34.toInt = n_34.toInt) (rfl : n_42.toInt = n_42.toInt) c_47
                  obtain ⟨n_48, en_48⟩ : ∃ y : Int32, y = l_12 + 1 := ⟨_, rfl⟩
                  have tn_48 : n_48.toInt = l_12.toInt + 1 := i_add en_48 (rfl : l_12.toInt = l_12.toInt) (by decide : (1 : Int32).toInt = 1) (by omega) (by omega)
                  refine lv_iinc (v := n_48) (lv' := [(2, .int n_48), (0, .ref (hm 0)), (1, .int k)]) hx hb dX10_plan_80 hl (k := 0) rfl (by rw [en_48]; rfl) (by decide) rfl (fun ls hl => ?_)
                  refine lv_goto (tgt := 32) hx hb dX10_plan_83 (by decide) ?_
                  exact ih32_13 n_48 (by omega) (by omega) _ _ _ hP hD hS (lv_sub hl [0, 1, 2] rfl)
                · have gc_47 : n_34.toInt ≠ n_42.toInt := i_ne (rfl : n_34.toInt = n_34.toInt) (rfl : n_42.toInt = n_42.toInt) c_47
                  refine lv_iconst (v := 0) hx hb dX10_plan_78 (by decide) ?_
                  have k_49 : (0 : Int32).toInt = 0 := by decide
                  have k_50 : (0 : Int32).toInt = 0 := by decide
                  exact hrt 0 0 v_planned v_isMarch f_m_planTo ⟨(by omega), (by omega), (by omega), (by omega)⟩ hP hD hS rfl dX10_plan_79
      have k_51 : (0 : Int32).toInt = 0 := by decide
      exact L32_13 8589934592 0 (by omega) (by omega) _ _ _ hP hD hS (lv_sub hl [0, 1, 2] rfl)
    · have gc_10 : v_taped.toInt < v_loads.toInt := i_nle (rfl : v_loads.toInt = v_loads.toInt) (rfl : v_taped.toInt = v_taped.toInt) c_10
      refine lv_iconst (v := 0) hx hb dX10_plan_23 (by decide) ?_
      have k_52 : (0 : Int32).toInt = 0 := by decide
      exact hrt 0 v_taped v_planned v_isMarch f_m_planTo ⟨(by omega), (by omega), (by omega), (by omega)⟩ hP hD hS rfl dX10_plan_24
set_option maxHeartbeats 16000000 in
set_option maxRecDepth 100000 in
theorem c_X10_march (l : Launch) (D : va_G) (cy : Nat → ClassId) (hm : Nat → Nat) (v_taped v_walkers v_loads v_pieces v_changeCosts v_planned v_isMarch v_clauseMany v_place v_end v_bad v_clauses v_codes v_open v_stacked v_isOver v_isBehind v_atW v_atL v_atT v_atH v_atM v_atI v_atQ v_packing v_packed v_goPace v_goMinutes v_spentAt v_ranChanges : Int32) (f_m_tape f_m_knee f_m_weight f_m_isLame f_m_loadWeight f_m_owner f_m_food f_m_miles f_m_slope f_m_clauseLetter f_m_sumFrom f_m_codeFrom f_m_codeTo f_m_code f_m_codeArg f_m_newLetter f_m_newSum f_m_newFrom f_m_newTo f_m_newCode f_m_newArg f_m_stack f_m_worth f_m_isRefused f_m_least f_m_packPounds f_m_packOwner f_m_room f_m_givenTo f_m_canBe f_m_setPounds f_m_plainTime f_m_muleTime f_m_planTo f_m_march f_m_tired f_m_ranMinutes f_m_tiredAhead f_m_isReached f_m_toEnd f_m_upTo f_m_upNext f_m_byChanges f_m_bandPaces : Nat → Int32) (sz : Nat) (n1 : Int32) (hb_v_taped : 0 ≤ v_taped.toInt ∧ v_taped.toInt ≤ 220) (hb_v_walkers : 0 ≤ v_walkers.toInt ∧ v_walkers.toInt ≤ 6) (hb_v_pieces : 0 ≤ v_pieces.toInt ∧ v_pieces.toInt ≤ 10) (hb_v_isMarch : 0 ≤ v_isMarch.toInt ∧ v_isMarch.toInt ≤ 1) (hr_m_tape : rg (-128) 127 f_m_tape) (hr_m_march : rg (0) 17 f_m_march) : gMi l yX10_march cX10_march 3 .boolean 2 [.ref (hm 0), .int n1] D cy (wMD cy hm v_taped v_walkers v_loads v_pieces v_changeCosts v_planned v_isMarch v_clauseMany v_place v_end v_bad v_clauses v_codes v_open v_stacked v_isOver v_isBehind v_atW v_atL v_atT v_atH v_atM v_atI v_atQ v_packing v_packed v_goPace v_goMinutes v_spentAt v_ranChanges f_m_tape f_m_knee f_m_weight f_m_isLame f_m_loadWeight f_m_owner f_m_food f_m_miles f_m_slope f_m_clauseLetter f_m_sumFrom f_m_codeFrom f_m_codeTo f_m_code f_m_codeArg f_m_newLetter f_m_newSum f_m_newFrom f_m_newTo f_m_newCode f_m_newArg f_m_stack f_m_worth f_m_isRefused f_m_least f_m_packPounds f_m_packOwner f_m_room f_m_givenTo f_m_canBe f_m_setPounds f_m_plainTime f_m_muleTime f_m_planTo f_m_march f_m_tired f_m_ranMinutes f_m_tiredAhead f_m_isReached f_m_toEnd f_m_upTo f_m_upNext f_m_byChanges f_m_bandPaces) NT sz (fun (r : Int32) (u : Int32 × Int32 × (Nat → Int32)) => (0 ≤ r.toInt ∧ r.toInt ≤ 1) ∧ ((u.2.1).toInt = v_isMarch.toInt ∨ 0 < v_walkers.toInt) ∧ (0 ≤ (u.1).toInt ∧ (u.1).toInt ≤ 220) ∧ (0 ≤ (u.2.1).toInt ∧ (u.2.1).toInt ≤ 1) ∧ (rg (0) 17 (u.2.2))) (fun u => wMD cy hm (u.1) v_walkers v_loads v_pieces v_changeCosts v_planned (u.2.1) v_clauseMany v_place v_end v_bad v_clauses v_codes v_open v_stacked v_isOver v_isBehind v_atW v_atL v_atT v_atH v_atM v_atI v_atQ v_packing v_packed v_goPace v_goMinutes v_spentAt v_ranChanges f_m_tape f_m_knee f_m_weight f_m_isLame f_m_loadWeight f_m_owner f_m_food f_m_miles f_m_slope f_m_clauseLetter f_m_sumFrom f_m_codeFrom f_m_codeTo f_m_code f_m_codeArg f_m_newLetter f_m_newSum f_m_newFrom f_m_newTo f_m_newCode f_m_newArg f_m_stack f_m_worth f_m_isRefused f_m_least f_m_packPounds f_m_packOwner f_m_room f_m_givenTo f_m_canBe f_m_setPounds f_m_plainTime f_m_muleTime f_m_planTo (u.2.2) f_m_tired f_m_ranMinutes f_m_tiredAhead f_m_isReached f_m_toEnd f_m_upTo f_m_upNext f_m_byChanges f_m_bandPaces) := by
  refine gMi_in (by decide) (Nat.le_of_ble_eq_true rfl) ?_
  intro p e s m args below meth c A ls Q hx hb hml hts hown hsz hP hK hD hN hAe hA hS hl hret
  subst hsz
  have hl : lv_has ls 3 [(0, .ref (hm 0)), (1, .int n1)] := hl
  have hrt := fun (r : Int32) (v_taped' : Int32) (v_isMarch' : Int32) (f_m_march' : Nat → Int32) (hp : (0 ≤ r.toInt ∧ r.toInt ≤ 1) ∧ (v_isMarch'.toInt = v_isMarch.toInt ∨ 0 < v_walkers.toInt) ∧ (0 ≤ v_taped'.toInt ∧ v_taped'.toInt ≤ 220) ∧ (0 ≤ v_isMarch'.toInt ∧ v_isMarch'.toInt ≤ 1) ∧ (rg (0) 17 f_m_march')) {H : Heap} {locs : List Loc} {pc : Nat} {ls : Array Slot} => hret r (v_taped', v_isMarch', f_m_march') (H := H) (locs := locs) (pc := pc) (ls := ls) hp
  clear hret
  refine lv_aload_n hx hb dX10_march_0 rfl (lv_at hl 0 rfl) ?_
  refine gt_MD_MD_pieces hx hb hts hown hK hP lwd_265 dX10_march_1 ?_
  refine lv_if_eq (tgt := 30) hx hb dX10_march_4 (by decide) (fun c_1 => ?_) (fun c_1 => ?_)
  · have gc_1 : v_pieces.toInt = 0 := i_eq (rfl : v_pieces.toInt = v_pieces.toInt) (by decide : (0 : Int32).toInt = 0) c_1
    refine lv_iconst (v := 0) hx hb dX10_march_30 (by decide) ?_
    have k_2 : (0 : Int32).toInt = 0 := by decide
    exact hrt 0 v_taped v_isMarch f_m_march ⟨(by omega), (by omega), (by omega), (by omega), hr_m_march⟩ hP hD hS rfl dX10_march_31
  · have gc_1 : v_pieces.toInt ≠ 0 := i_ne (rfl : v_pieces.toInt = v_pieces.toInt) (by decide : (0 : Int32).toInt = 0) c_1
    refine lv_iload_n hx hb dX10_march_7 rfl (lv_at hl 1 rfl) ?_
    refine lv_aload_n hx hb dX10_march_8 rfl (lv_at hl 0 rfl) ?_
    refine gt_MD_MD_pieces hx hb hts hown hK hP lwd_265 dX10_march_9 ?_
    refine lv_icmp_ne (tgt := 30) hx hb dX10_march_12 (by decide) (fun c_3 => ?_) (fun c_3 => ?_)
    · have gc_3 : n1.toInt ≠ v_pieces.toInt := i_ne (rfl : n1.toInt = n1.toInt) (rfl : v_pieces.toInt = v_pieces.toInt) c_3
      refine lv_iconst (v := 0) hx hb dX10_march_30 (by decide) ?_
      have k_4 : (0 : Int32).toInt = 0 := by decide
      exact hrt 0 v_taped v_isMarch f_m_march ⟨(by omega), (by omega), (by omega), (by omega), hr_m_march⟩ hP hD hS rfl dX10_march_31
    · have gc_3 : n1.toInt = v_pieces.toInt := i_eq (rfl : n1.toInt = n1.toInt) (rfl : v_pieces.toInt = v_pieces.toInt) c_3
      refine lv_iload_n hx hb dX10_march_15 rfl (lv_at hl 1 rfl) ?_
      refine lv_aload_n hx hb dX10_march_16 rfl (lv_at hl 0 rfl) ?_
      refine gt_MD_MD_taped hx hb hts hown hK hP lwd_298 dX10_march_17 ?_
      refine lv_icmp_gt (tgt := 30) hx hb dX10_march_20 (by decide) (fun c_5 => ?_) (fun c_5 => ?_)
      · have gc_5 : v_taped.toInt < n1.toInt := i_lt (rfl : v_taped.toInt = v_taped.toInt) (rfl : n1.toInt = n1.toInt) c_5
        refine lv_iconst (v := 0) hx hb dX10_march_30 (by decide) ?_
        have k_6 : (0 : Int32).toInt = 0 := by decide
        exact hrt 0 v_taped v_isMarch f_m_march ⟨(by omega), (by omega), (by omega), (by omega), hr_m_march⟩ hP hD hS rfl dX10_march_31
      · have gc_5 : n1.toInt ≤ v_taped.toInt := i_nlt (rfl : v_taped.toInt = v_taped.toInt) (rfl : n1.toInt = n1.toInt) c_5
        refine lv_aload_n hx hb dX10_march_23 rfl (lv_at hl 0 rfl) ?_
        refine gt_MD_MD_walkers hx hb hts hown hK hP lwd_221 dX10_march_24 ?_
        refine lv_if_ne (tgt := 32) hx hb dX10_march_27 (by decide) (fun c_7 => ?_) (fun c_7 => ?_)
        · have gc_7 : v_walkers.toInt ≠ 0 := i_ne (rfl : v_walkers.toInt = v_walkers.toInt) (by decide : (0 : Int32).toInt = 0) c_7
          refine lv_aload_n hx hb dX10_march_32 rfl (lv_at hl 0 rfl) ?_
          refine lv_iconst (v := 0) hx hb dX10_march_33 (by decide) ?_
          refine pt_MD_MD_taped (x := 0) hx hb hts hown hK hP hD hS lwd_298 dX10_march_34 (fun H locs hP hD hS => ?_)
          refine lv_iconst (v := 0) hx hb dX10_march_37 (by decide) ?_
          refine lv_istore_n (lv' := [(2, .int 0), (0, .ref (hm 0)), (1, .int n1)]) hx hb dX10_march_38 rfl hl (by decide) rfl (fun ls hl => ?_)
          have L39_10 : ∀ (n : Nat) (l_9 : Int32), (0 ≤ l_9.toInt ∧ l_9.toInt ≤ 10) → (∀ j : Nat, (j : Int) < l_9.toInt → 0 ≤ (f_m_tape j).toInt ∧ (f_m_tape j).toInt ≤ 17) → 11 - l_9.toInt < n → ∀ (H : Heap) (locs : List Loc) (ls : Array Slot), va_P D vwCl (wMD cy hm 0 v_walkers v_loads v_pieces v_changeCosts v_planned v_isMarch v_clauseMany v_place v_end v_bad v_clauses v_codes v_open v_stacked v_isOver v_isBehind v_atW v_atL v_atT v_atH v_atM v_atI v_atQ v_packing v_packed v_goPace v_goMinutes v_spentAt v_ranChanges f_m_tape f_m_knee f_m_weight f_m_isLame f_m_loadWeight f_m_owner f_m_food f_m_miles f_m_slope f_m_clauseLetter f_m_sumFrom f_m_codeFrom f_m_codeTo f_m_code f_m_codeArg f_m_newLetter f_m_newSum f_m_newFrom f_m_newTo f_m_newCode f_m_newArg f_m_stack f_m_worth f_m_isRefused f_m_least f_m_packPounds f_m_packOwner f_m_room f_m_givenTo f_m_canBe f_m_setPounds f_m_plainTime f_m_muleTime f_m_planTo f_m_march f_m_tired f_m_ranMinutes f_m_tiredAhead f_m_isReached f_m_toEnd f_m_upTo f_m_upNext f_m_byChanges f_m_bandPaces) H → va_D A (wMD cy hm 0 v_walkers v_loads v_pieces v_changeCosts v_planned v_isMarch v_clauseMany v_place v_end v_bad v_clauses v_codes v_open v_stacked v_isOver v_isBehind v_atW v_atL v_atT v_atH v_atM v_atI v_atQ v_packing v_packed v_goPace v_goMinutes v_spentAt v_ranChanges f_m_tape f_m_knee f_m_weight f_m_isLame f_m_loadWeight f_m_owner f_m_food f_m_miles f_m_slope f_m_clauseLetter f_m_sumFrom f_m_codeFrom f_m_codeTo f_m_code f_m_codeArg f_m_newLetter f_m_newSum f_m_newFrom f_m_newTo f_m_newCode f_m_newArg f_m_stack f_m_worth f_m_isRefused f_m_least f_m_packPounds f_m_packOwner f_m_room f_m_givenTo f_m_canBe f_m_setPounds f_m_plainTime f_m_muleTime f_m_planTo f_m_march f_m_tired f_m_ranMinutes f_m_tiredAhead f_m_isReached f_m_toEnd f_m_upTo f_m_upNext f_m_byChanges f_m_bandPaces) → va_S A s.heap H locs → lv_has ls 3 [(2, .int l_9), (0, .ref (hm 0)), (1, .int n1)] → W p l e (gRm 2) s m args below meth c H locs 0 0 Q (F0 m 39 ls []) := by
            intro n
            induction n with
            | zero => intro l_9 hL39_10_0 hL39_10_1 hm; exact absurd hm (by omega)
            | succ n ih39_10 =>
              intro l_9 hL39_10_0 hL39_10_1 hmL39_10 H locs ls hP hD hS hl
              refine lv_iload_n hx hb dX10_march_39 rfl (lv_at hl 0 rfl) ?_
              refine lv_iload_n hx hb dX10_march_40 rfl (lv_at hl 2 rfl) ?_
              refine lv_icmp_ge (tgt := 88) hx hb dX10_march_41 (by decide) (fun c_11 => ?_) (fun c_11 => ?_)
              · have gc_11 : n1.toInt ≤ l_9.toInt := i_le (rfl : n1.toInt = n1.toInt) (rfl : l_9.toInt = l_9.toInt) c_11
                skip
                refine lv_iconst (v := 0) hx hb dX10_march_88 (by decide) ?_
                refine lv_istore_n (lv' := [(2, .int 0), (0, .ref (hm 0)), (1, .int n1)]) hx hb dX10_march_89 rfl hl (by decide) rfl (fun ls hl => ?_)
                have L90_16 : ∀ (n : Nat) (f_14 : Nat → Int32) (l_15 : Int32), (rg (0) 17 f_14) → (0 ≤ l_15.toInt ∧ l_15.toInt ≤ 10) → 11 - l_15.toInt < n → ∀ (H : Heap) (locs : List Loc) (ls : Array Slot), va_P D vwCl (wMD cy hm 0 v_walkers v_loads v_pieces v_changeCosts v_planned v_isMarch v_clauseMany v_place v_end v_bad v_clauses v_codes v_open v_stacked v_isOver v_isBehind v_atW v_atL v_atT v_atH v_atM v_atI v_atQ v_packing v_packed v_goPace v_goMinutes v_spentAt v_ranChanges f_m_tape f_m_knee f_m_weight f_m_isLame f_m_loadWeight f_m_owner f_m_food f_m_miles f_m_slope f_m_clauseLetter f_m_sumFrom f_m_codeFrom f_m_codeTo f_m_code f_m_codeArg f_m_newLetter f_m_newSum f_m_newFrom f_m_newTo f_m_newCode f_m_newArg f_m_stack f_m_worth f_m_isRefused f_m_least f_m_packPounds f_m_packOwner f_m_room f_m_givenTo f_m_canBe f_m_setPounds f_m_plainTime f_m_muleTime f_m_planTo f_14 f_m_tired f_m_ranMinutes f_m_tiredAhead f_m_isReached f_m_toEnd f_m_upTo f_m_upNext f_m_byChanges f_m_bandPaces) H → va_D A (wMD cy hm 0 v_walkers v_loads v_pieces v_changeCosts v_planned v_isMarch v_clauseMany v_place v_end v_bad v_clauses v_codes v_open v_stacked v_isOver v_isBehind v_atW v_atL v_atT v_atH v_atM v_atI v_atQ v_packing v_packed v_goPace v_goMinutes v_spentAt v_ranChanges f_m_tape f_m_knee f_m_weight f_m_isLame f_m_loadWeight f_m_owner f_m_food f_m_miles f_m_slope f_m_clauseLetter f_m_sumFrom f_m_codeFrom f_m_codeTo f_m_code f_m_codeArg f_m_newLetter f_m_newSum f_m_newFrom f_m_newTo f_m_newCode f_m_newArg f_m_stack f_m_worth f_m_isRefused f_m_least f_m_packPounds f_m_packOwner f_m_room f_m_givenTo f_m_canBe f_m_setPounds f_m_plainTime f_m_muleTime f_m_planTo f_14 f_m_tired f_m_ranMinutes f_m_tiredAhead f_m_isReached f_m_toEnd f_m_upTo f_m_upNext f_m_byChanges f_m_bandPaces) → va_S A s.heap H locs → lv_has ls 3 [(2, .int l_15), (0, .ref (hm 0)), (1, .int n1)] → W p l e (gRm 2) s m args below meth c H locs 0 0 Q (F0 m 90 ls []) := by
                  intro n
                  induction n with
                  | zero => intro f_14 l_15 hL90_16_0 hL90_16_1 hm; exact absurd hm (by omega)
                  | succ n ih90_16 =>
                    intro f_14 l_15 hL90_16_0 hL90_16_1 hmL90_16 H locs ls hP hD hS hl
                    refine lv_iload_n hx hb dX10_march_90 rfl (lv_at hl 0 rfl) ?_
                    refine lv_iload_n hx hb dX10_march_91 rfl (lv_at hl 2 rfl) ?_
                    refine lv_icmp_ge (tgt := 113) hx hb dX10_march_92 (by decide) (fun c_17 => ?_) (fun c_17 => ?_)
                    · have gc_17 : n1.toInt ≤ l_15.toInt := i_le (rfl : n1.toInt = n1.toInt) (rfl : l_15.toInt = l_15.toInt) c_17
                      refine lv_aload_n hx hb dX10_march_113 rfl (lv_at hl 1 rfl) ?_
                      refine lv_iconst (v := 1) hx hb dX10_march_114 (by decide) ?_
                      refine pt_MD_MD_isMarch (x := 1) hx hb hts hown hK hP hD hS lwd_225 (by decide) dX10_march_115 (fun H locs hP hD hS => ?_)
                      refine lv_iconst (v := 1) hx hb dX10_march_118 (by decide) ?_
                      have k_18 : (0 : Int32).toInt = 0 := by decide
                      have k_19 : (1 : Int32).toInt = 1 := by decide
                      have k_20 : (1 : Int32).toInt = 1 := by decide
                      exact hrt 1 0 1 f_14 ⟨(by omega), (by omega), (by omega), (by omega), hL90_16_0⟩ hP hD hS rfl dX10_march_119
                    · have gc_17 : l_15.toInt < n1.toInt := i_nle (rfl : n1.toInt = n1.toInt) (rfl : l_15.toInt = l_15.toInt) c_17
                      refine lv_aload_n hx hb dX10_march_95 rfl (lv_at hl 1 rfl) ?_
                      refine gt_MD_MD_march hx hb hts hown hK hP lwd_190 dX10_march_96 ?_
                      refine lv_iload_n hx hb dX10_march_99 rfl (lv_at hl 0 rfl) ?_
                      refine lv_aload_n hx hb dX10_march_100 rfl (lv_at hl 1 rfl) ?_
                      refine gt_MD_MD_tape hx hb hts hown hK hP lwd_155 dX10_march_101 ?_
                      refine lv_iload_n hx hb dX10_march_104 rfl (lv_at hl 0 rfl) ?_
                      refine al_m_tape hx hb hK hP hr_m_tape (i_in (rfl : l_15.toInt = l_15.toInt) (by omega) (by omega)) dX10_march_105 (fun n_21 en_21 bn_21 => ?_)
                      have hm9 := hL39_10_1 l_15.toNatClampNeg (by rw [i_ix (rfl : l_15.toInt = l_15.toInt)]; omega)
                      rw [← en_21] at hm9
                      refine as_m_march (x := n_21) hx hb hK hP hD hS hL90_16_0 (i_in (rfl : l_15.toInt = l_15.toInt) (by omega) (by omega)) (by omega) dX10_march_106 (fun f_22 ef_22 rf_22 H locs hP hD hS => ?_)
                      obtain ⟨n_23, en_23⟩ : ∃ y : Int32, y = l_15 + 1 := ⟨_, rfl⟩
                      have tn_23 : n_23.toInt = l_15.toInt + 1 := i_add en_23 (rfl : l_15.toInt = l_15.toInt) (by decide : (1 : Int32).toInt = 1) (by omega) (by omega)
                      refine lv_iinc (v := n_23) (lv' := [(2, .int n_23), (0, .ref (hm 0)), (1, .int n1)]) hx hb dX10_march_107 hl (k := 0) rfl (by rw [en_23]; rfl) (by decide) rfl (fun ls hl => ?_)
                      refine lv_goto (tgt := 90) hx hb dX10_march_110 (by decide) ?_
                      exact ih90_16 f_22 n_23 rf_22 (by omega) (by omega) _ _ _ hP hD hS (lv_sub hl [0, 1, 2] rfl)
                have k_24 : (0 : Int32).toInt = 0 := by decide
                exact L90_16 8589934592 f_m_march 0 hr_m_march (by omega) (by omega) _ _ _ hP hD hS (lv_sub hl [0, 1, 2] rfl)
              · have gc_11 : l_9.toInt < n1.toInt := i_nle (rfl : n1.toInt = n1.toInt) (rfl : l_9.toInt = l_9.toInt) c_11
                skip
                refine lv_aload_n hx hb dX10_march_44 rfl (lv_at hl 1 rfl) ?_
                refine gt_MD_MD_tape hx hb hts hown hK hP lwd_155 dX10_march_45 ?_
                refine lv_iload_n hx hb dX10_march_48 rfl (lv_at hl 0 rfl) ?_
                refine al_m_tape hx hb hK hP hr_m_tape (i_in (rfl : l_9.toInt = l_9.toInt) (by omega) (by omega)) dX10_march_49 (fun n_25 en_25 bn_25 => ?_)
                refine lv_i2l (v := n_25.toInt64) hx hb dX10_march_50 rfl ?_
                have hl_26 : n_25.toInt64.toInt = n_25.toInt := i_l (rfl : n_25.toInt = n_25.toInt)
                refine lv_lconst (v := 0) hx hb dX10_march_51 (by decide) ?_
                refine lv_ldc2 hx hb hown (hts _ lwd_920) dX10_march_52 ?_
                have k_27 : (0 : Int64).toInt = 0 := by decide
                have k_28 : (17 : Int64).toInt = 17 := by decide
                refine xi hD hS hA (xS (As := [.long n_25.toInt64, .long 0, .long 17]) (rest := []) hx hb hml hown hts hK hP hD hS hA NT_ok hN hAe hl.1 ⟨Nat.le_refl _, Nat.le_refl _⟩ (c_X10_lies l D cy hm 0 v_walkers v_loads v_pieces v_changeCosts v_planned v_isMarch v_clauseMany v_place v_end v_bad v_clauses v_codes v_open v_stacked v_isOver v_isBehind v_atW v_atL v_atT v_atH v_atM v_atI v_atQ v_packing v_packed v_goPace v_goMinutes v_spentAt v_ranChanges f_m_tape f_m_knee f_m_weight f_m_isLame f_m_loadWeight f_m_owner f_m_food f_m_miles f_m_slope f_m_clauseLetter f_m_sumFrom f_m_codeFrom f_m_codeTo f_m_code f_m_codeArg f_m_newLetter f_m_newSum f_m_newFrom f_m_newTo f_m_newCode f_m_newArg f_m_stack f_m_worth f_m_isRefused f_m_least f_m_packPounds f_m_packOwner f_m_room f_m_givenTo f_m_canBe f_m_setPounds f_m_plainTime f_m_muleTime f_m_planTo f_m_march f_m_tired f_m_ranMinutes f_m_tiredAhead f_m_isReached f_m_toEnd f_m_upTo f_m_upNext f_m_byChanges f_m_bandPaces H.size n_25.toInt64 0 17) (gi_S lwd_226 lwd_227 lwd_5 lwd_228) hd_X10_lies ⟨Nat.le_of_ble_eq_true rfl, Nat.le_of_ble_eq_true rfl⟩ rfl (Nat.le_of_ble_eq_true rfl) dX10_march_55) (fun r_30 u_29 H locs hw hP hD hS => ?_)
                try dsimp only at hw hP hD
                obtain ⟨p_31, p_32⟩ := hw
                refine lv_if_eq (tgt := 80) hx hb dX10_march_58 (by decide) (fun c_33 => ?_) (fun c_33 => ?_)
                · have gc_33 : r_30.toInt = 0 := i_eq (rfl : r_30.toInt = r_30.toInt) (by decide : (0 : Int32).toInt = 0) c_33
                  refine lv_iconst (v := 0) hx hb dX10_march_80 (by decide) ?_
                  have k_34 : (0 : Int32).toInt = 0 := by decide
                  have k_35 : (0 : Int32).toInt = 0 := by decide
                  exact hrt 0 0 v_isMarch f_m_march ⟨(by omega), (by omega), (by omega), (by omega), hr_m_march⟩ hP hD hS rfl dX10_march_81
                · have gc_33 : r_30.toInt ≠ 0 := i_ne (rfl : r_30.toInt = r_30.toInt) (by decide : (0 : Int32).toInt = 0) c_33
                  refine lv_aload_n hx hb dX10_march_61 rfl (lv_at hl 1 rfl) ?_
                  refine gt_MD_MD_planned hx hb hts hown hK hP lwd_249 dX10_march_62 ?_
                  refine lv_aload_n hx hb dX10_march_65 rfl (lv_at hl 1 rfl) ?_
                  refine gt_MD_MD_tape hx hb hts hown hK hP lwd_155 dX10_march_66 ?_
                  refine lv_iload_n hx hb dX10_march_69 rfl (lv_at hl 0 rfl) ?_
                  refine al_m_tape hx hb hK hP hr_m_tape (i_in (rfl : l_9.toInt = l_9.toInt) (by omega) (by omega)) dX10_march_70 (fun n_36 en_36 bn_36 => ?_)
                  obtain rfl : n_25 = n_36 := en_25.trans en_36.symm
                  refine lv_bipush (v := 6) hx hb dX10_march_71 (by decide) ?_
                  refine lv_irem hx hb dX10_march_73 (by decide) ?_
                  refine lv_topi (fun n_37 en_37 => ?_)
                  have bn_37 : -5 ≤ n_37.toInt ∧ n_37.toInt ≤ 5 := i_remc en_37 (by decide : (6 : Int32).toInt = 6) (by decide)
                  refine xi hD hS hA (xS (As := [.int v_planned, .int n_37]) (rest := []) hx hb hml hown hts hK hP hD hS hA NT_ok hN hAe hl.1 ⟨Nat.le_refl _, Nat.le_refl _⟩ (c_X10_has l D cy hm 0 v_walkers v_loads v_pieces v_changeCosts v_planned v_isMarch v_clauseMany v_place v_end v_bad v_clauses v_codes v_open v_stacked v_isOver v_isBehind v_atW v_atL v_atT v_atH v_atM v_atI v_atQ v_packing v_packed v_goPace v_goMinutes v_spentAt v_ranChanges f_m_tape f_m_knee f_m_weight f_m_isLame f_m_loadWeight f_m_owner f_m_food f_m_miles f_m_slope f_m_clauseLetter f_m_sumFrom f_m_codeFrom f_m_codeTo f_m_code f_m_codeArg f_m_newLetter f_m_newSum f_m_newFrom f_m_newTo f_m_newCode f_m_newArg f_m_stack f_m_worth f_m_isRefused f_m_least f_m_packPounds f_m_packOwner f_m_room f_m_givenTo f_m_canBe f_m_setPounds f_m_plainTime f_m_muleTime f_m_planTo f_m_march f_m_tired f_m_ranMinutes f_m_tiredAhead f_m_isReached f_m_toEnd f_m_upTo f_m_upNext f_m_byChanges f_m_bandPaces H.size v_planned n_37) (gi_S lwd_750 lwd_751 lwd_5 lwd_752) hd_X10_has ⟨Nat.le_of_ble_eq_true rfl, Nat.le_of_ble_eq_true rfl⟩ rfl (Nat.le_of_ble_eq_true rfl) dX10_march_74) (fun r_39 u_38 H locs hw hP hD hS => ?_)
                  try dsimp only at hw hP hD
                  obtain ⟨p_40, p_41⟩ := hw
                  refine lv_if_ne (tgt := 82) hx hb dX10_march_77 (by decide) (fun c_42 => ?_) (fun c_42 => ?_)
                  · have gc_42 : r_39.toInt ≠ 0 := i_ne (rfl : r_39.toInt = r_39.toInt) (by decide : (0 : Int32).toInt = 0) c_42
                    obtain ⟨n_43, en_43⟩ : ∃ y : Int32, y = l_9 + 1 := ⟨_, rfl⟩
                    have tn_43 : n_43.toInt = l_9.toInt + 1 := i_add en_43 (rfl : l_9.toInt = l_9.toInt) (by decide : (1 : Int32).toInt = 1) (by omega) (by omega)
                    refine lv_iinc (v := n_43) (lv' := [(2, .int n_43), (0, .ref (hm 0)), (1, .int n1)]) hx hb dX10_march_82 hl (k := 0) rfl (by rw [en_43]; rfl) (by decide) rfl (fun ls hl => ?_)
                    refine lv_goto (tgt := 39) hx hb dX10_march_85 (by decide) ?_
                    exact ih39_10 n_43 (by omega) (fun j hj => by
                      by_cases q : (j : Int) < l_9.toInt
                      · exact hL39_10_1 j q
                      · have e9 : j = l_9.toNatClampNeg := by rw [i_ix rfl]; omega
                        rw [e9, ← en_25]; omega) (by omega) _ _ _ hP hD hS (lv_sub hl [0, 1, 2] rfl)
                  · have gc_42 : r_39.toInt = 0 := i_eq (rfl : r_39.toInt = r_39.toInt) (by decide : (0 : Int32).toInt = 0) c_42
                    refine lv_iconst (v := 0) hx hb dX10_march_80 (by decide) ?_
                    have k_44 : (0 : Int32).toInt = 0 := by decide
                    have k_45 : (0 : Int32).toInt = 0 := by decide
                    exact hrt 0 0 v_isMarch f_m_march ⟨(by omega), (by omega), (by omega), (by omega), hr_m_march⟩ hP hD hS rfl dX10_march_81
          have k_46 : (0 : Int32).toInt = 0 := by decide
          exact L39_10 8589934592 0 (by omega) (fun j hj => absurd hj (by omega)) (by omega) _ _ _ hP hD hS (lv_sub hl [0, 1, 2] rfl)
        · have gc_7 : v_walkers.toInt = 0 := i_eq (rfl : v_walkers.toInt = v_walkers.toInt) (by decide : (0 : Int32).toInt = 0) c_7
          refine lv_iconst (v := 0) hx hb dX10_march_30 (by decide) ?_
          have k_47 : (0 : Int32).toInt = 0 := by decide
          exact hrt 0 v_taped v_isMarch f_m_march ⟨(by omega), (by omega), (by omega), (by omega), hr_m_march⟩ hP hD hS rfl dX10_march_31
