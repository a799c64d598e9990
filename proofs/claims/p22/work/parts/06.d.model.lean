set_option maxHeartbeats 16000000 in
set_option maxRecDepth 100000 in
theorem c_X10_pace (l : Launch) (D : va_G) (cy : Nat → ClassId) (hm : Nat → Nat) (v_taped v_walkers v_loads v_pieces v_changeCosts v_planned v_isMarch v_clauseMany v_place v_end v_bad v_clauses v_codes v_open v_stacked v_isOver v_isBehind v_atW v_atL v_atT v_atH v_atM v_atI v_atQ v_packing v_packed v_goPace v_goMinutes v_spentAt v_ranChanges : Int32) (f_m_tape f_m_knee f_m_weight f_m_isLame f_m_loadWeight f_m_owner f_m_food f_m_miles f_m_slope f_m_clauseLetter f_m_sumFrom f_m_codeFrom f_m_codeTo f_m_code f_m_codeArg f_m_newLetter f_m_newSum f_m_newFrom f_m_newTo f_m_newCode f_m_newArg f_m_stack f_m_worth f_m_isRefused f_m_least f_m_packPounds f_m_packOwner f_m_room f_m_givenTo f_m_canBe f_m_setPounds f_m_plainTime f_m_muleTime f_m_planTo f_m_march f_m_tired f_m_ranMinutes f_m_tiredAhead f_m_isReached f_m_toEnd f_m_upTo f_m_upNext f_m_byChanges f_m_bandPaces : Nat → Int32) (sz : Nat) (w : Int32) (q : Int32) (t : Int32) (i : Int32) (hb_v_walkers : 0 ≤ v_walkers.toInt ∧ v_walkers.toInt ≤ 6) (hb_v_pieces : 0 ≤ v_pieces.toInt ∧ v_pieces.toInt ≤ 10) (hb_v_clauseMany : 0 ≤ v_clauseMany.toInt ∧ v_clauseMany.toInt ≤ 14) (hb_v_atW : 0 ≤ v_atW.toInt ∧ v_atW.toInt ≤ 5) (hr_m_weight : rg (0) 250 f_m_weight) (hr_m_isLame : rg (0) 1 f_m_isLame) (hr_m_miles : rg (0) 20 f_m_miles) (hr_m_isRefused : rg (0) 1 f_m_isRefused) (hwf : wfC v_clauseMany f_m_sumFrom f_m_codeFrom f_m_codeTo f_m_code) : gMi l yX10_pace cX10_pace 5 .int 6 [.ref (hm 0), .int w, .int q, .int t, .int i] D cy (wMD cy hm v_taped v_walkers v_loads v_pieces v_changeCosts v_planned v_isMarch v_clauseMany v_place v_end v_bad v_clauses v_codes v_open v_stacked v_isOver v_isBehind v_atW v_atL v_atT v_atH v_atM v_atI v_atQ v_packing v_packed v_goPace v_goMinutes v_spentAt v_ranChanges f_m_tape f_m_knee f_m_weight f_m_isLame f_m_loadWeight f_m_owner f_m_food f_m_miles f_m_slope f_m_clauseLetter f_m_sumFrom f_m_codeFrom f_m_codeTo f_m_code f_m_codeArg f_m_newLetter f_m_newSum f_m_newFrom f_m_newTo f_m_newCode f_m_newArg f_m_stack f_m_worth f_m_isRefused f_m_least f_m_packPounds f_m_packOwner f_m_room f_m_givenTo f_m_canBe f_m_setPounds f_m_plainTime f_m_muleTime f_m_planTo f_m_march f_m_tired f_m_ranMinutes f_m_tiredAhead f_m_isReached f_m_toEnd f_m_upTo f_m_upNext f_m_byChanges f_m_bandPaces) NT sz (fun (r : Int32) (u : Int32 × Int32 × Int32 × Int32 × Int32 × Int32 × Int32 × (Nat → Int32) × (Nat → Int32)) => (0 ≤ (u.1).toInt ∧ (u.1).toInt ≤ 5) ∧ (rg (0) 1 (u.2.2.2.2.2.2.2.2))) (fun u => wMD cy hm v_taped v_walkers v_loads v_pieces v_changeCosts v_planned v_isMarch v_clauseMany v_place v_end v_bad v_clauses v_codes v_open v_stacked v_isOver v_isBehind (u.1) (u.2.1) (u.2.2.1) (u.2.2.2.1) (u.2.2.2.2.1) (u.2.2.2.2.2.1) (u.2.2.2.2.2.2.1) v_packing v_packed v_goPace v_goMinutes v_spentAt v_ranChanges f_m_tape f_m_knee f_m_weight f_m_isLame f_m_loadWeight f_m_owner f_m_food f_m_miles f_m_slope f_m_clauseLetter f_m_sumFrom f_m_codeFrom f_m_codeTo f_m_code f_m_codeArg f_m_newLetter f_m_newSum f_m_newFrom f_m_newTo f_m_newCode f_m_newArg f_m_stack (u.2.2.2.2.2.2.2.1) (u.2.2.2.2.2.2.2.2) f_m_least f_m_packPounds f_m_packOwner f_m_room f_m_givenTo f_m_canBe f_m_setPounds f_m_plainTime f_m_muleTime f_m_planTo f_m_march f_m_tired f_m_ranMinutes f_m_tiredAhead f_m_isReached f_m_toEnd f_m_upTo f_m_upNext f_m_byChanges f_m_bandPaces) := by
  refine gMi_in (by decide) (Nat.le_of_ble_eq_true rfl) ?_
  intro p e s m args below meth c A ls Q hx hb hml hts hown hsz hP hK hD hN hAe hA hS hl hret
  subst hsz
  have hl : lv_has ls 5 [(0, .ref (hm 0)), (1, .int w), (2, .int q), (3, .int t), (4, .int i)] := hl
  have hrt := fun (r : Int32) (v_atW' : Int32) (v_atL' : Int32) (v_atT' : Int32) (v_atH' : Int32) (v_atM' : Int32) (v_atI' : Int32) (v_atQ' : Int32) (f_m_worth' : Nat → Int32) (f_m_isRefused' : Nat → Int32) (hp : (0 ≤ v_atW'.toInt ∧ v_atW'.toInt ≤ 5) ∧ (rg (0) 1 f_m_isRefused')) {H : Heap} {locs : List Loc} {pc : Nat} {ls : Array Slot} => hret r (v_atW', v_atL', v_atT', v_atH', v_atM', v_atI', v_atQ', f_m_worth', f_m_isRefused') (H := H) (locs := locs) (pc := pc) (ls := ls) hp
  clear hret
  refine lv_aload_n hx hb dX10_pace_0 rfl (lv_at hl 0 rfl) ?_
  refine lv_iload_n hx hb dX10_pace_1 rfl (lv_at hl 1 rfl) ?_
  refine xi hD hS hA (xV (As := [.int w]) (rest := []) hx hb hml hown hts hK hP hD hS hA NT_ok hN hAe hl.1 ⟨Nat.le_refl _, Nat.le_refl _⟩ 0 rfl rfl rfl (c_X10_isWalker l D cy hm v_taped v_walkers v_loads v_pieces v_changeCosts v_planned v_isMarch v_clauseMany v_place v_end v_bad v_clauses v_codes v_open v_stacked v_isOver v_isBehind v_atW v_atL v_atT v_atH v_atM v_atI v_atQ v_packing v_packed v_goPace v_goMinutes v_spentAt v_ranChanges f_m_tape f_m_knee f_m_weight f_m_isLame f_m_loadWeight f_m_owner f_m_food f_m_miles f_m_slope f_m_clauseLetter f_m_sumFrom f_m_codeFrom f_m_codeTo f_m_code f_m_codeArg f_m_newLetter f_m_newSum f_m_newFrom f_m_newTo f_m_newCode f_m_newArg f_m_stack f_m_worth f_m_isRefused f_m_least f_m_packPounds f_m_packOwner f_m_room f_m_givenTo f_m_canBe f_m_setPounds f_m_plainTime f_m_muleTime f_m_planTo f_m_march f_m_tired f_m_ranMinutes f_m_tiredAhead f_m_isReached f_m_toEnd f_m_upTo f_m_upNext f_m_byChanges f_m_bandPaces s.heap.size w (by omega)) (gi_V lwd_250 lwd_251 lwd_252 lwd_5 lwd_253) ⟨rfl, hd_X10_isWalker⟩ ⟨Nat.le_of_ble_eq_true rfl, Nat.le_of_ble_eq_true rfl⟩ rfl (Nat.le_of_ble_eq_true rfl) dX10_pace_2) (fun r_2 u_1 H locs hw hP hD hS => ?_)
  try dsimp only at hw hP hD
  obtain ⟨p_3, p_4⟩ := hw
  refine lv_if_eq (tgt := 54) hx hb dX10_pace_5 (by decide) (fun c_5 => ?_) (fun c_5 => ?_)
  · have gc_5 : r_2.toInt = 0 := i_eq (rfl : r_2.toInt = r_2.toInt) (by decide : (0 : Int32).toInt = 0) c_5
    refine lv_iconst (v := (-1)) hx hb dX10_pace_54 (by decide) ?_
    have k_6 : ((-1) : Int32).toInt = (-1) := by decide
    exact hrt (-1) v_atW v_atL v_atT v_atH v_atM v_atI v_atQ f_m_worth f_m_isRefused ⟨(by omega), hr_m_isRefused⟩ hP hD hS rfl dX10_pace_55
  · have gc_5 : r_2.toInt ≠ 0 := i_ne (rfl : r_2.toInt = r_2.toInt) (by decide : (0 : Int32).toInt = 0) c_5
    refine lv_iload_n hx hb dX10_pace_8 rfl (lv_at hl 2 rfl) ?_
    refine lv_i2l (v := q.toInt64) hx hb dX10_pace_9 rfl ?_
    have hl_7 : q.toInt64.toInt = q.toInt := i_l (rfl : q.toInt = q.toInt)
    refine lv_lconst (v := 0) hx hb dX10_pace_10 (by decide) ?_
    refine lv_ldc2 hx hb hown (hts _ lwd_547) dX10_pace_11 ?_
    have k_8 : (0 : Int64).toInt = 0 := by decide
    have k_9 : (1000 : Int64).toInt = 1000 := by decide
    refine xi hD hS hA (xS (As := [.long q.toInt64, .long 0, .long 1000]) (rest := []) hx hb hml hown hts hK hP hD hS hA NT_ok hN hAe hl.1 ⟨Nat.le_refl _, Nat.le_refl _⟩ (c_X10_lies l D cy hm v_taped v_walkers v_loads v_pieces v_changeCosts v_planned v_isMarch v_clauseMany v_place v_end v_bad v_clauses v_codes v_open v_stacked v_isOver v_isBehind v_atW v_atL v_atT v_atH v_atM v_atI v_atQ v_packing v_packed v_goPace v_goMinutes v_spentAt v_ranChanges f_m_tape f_m_knee f_m_weight f_m_isLame f_m_loadWeight f_m_owner f_m_food f_m_miles f_m_slope f_m_clauseLetter f_m_sumFrom f_m_codeFrom f_m_codeTo f_m_code f_m_codeArg f_m_newLetter f_m_newSum f_m_newFrom f_m_newTo f_m_newCode f_m_newArg f_m_stack f_m_worth f_m_isRefused f_m_least f_m_packPounds f_m_packOwner f_m_room f_m_givenTo f_m_canBe f_m_setPounds f_m_plainTime f_m_muleTime f_m_planTo f_m_march f_m_tired f_m_ranMinutes f_m_tiredAhead f_m_isReached f_m_toEnd f_m_upTo f_m_upNext f_m_byChanges f_m_bandPaces H.size q.toInt64 0 1000) (gi_S lwd_226 lwd_227 lwd_5 lwd_228) hd_X10_lies ⟨Nat.le_of_ble_eq_true rfl, Nat.le_of_ble_eq_true rfl⟩ rfl (Nat.le_of_ble_eq_true rfl) dX10_pace_14) (fun r_11 u_10 H locs hw hP hD hS => ?_)
    try dsimp only at hw hP hD
    obtain ⟨p_12, p_13⟩ := hw
    refine lv_if_eq (tgt := 54) hx hb dX10_pace_17 (by decide) (fun c_14 => ?_) (fun c_14 => ?_)
    · have gc_14 : r_11.toInt = 0 := i_eq (rfl : r_11.toInt = r_11.toInt) (by decide : (0 : Int32).toInt = 0) c_14
      refine lv_iconst (v := (-1)) hx hb dX10_pace_54 (by decide) ?_
      have k_15 : ((-1) : Int32).toInt = (-1) := by decide
      exact hrt (-1) v_atW v_atL v_atT v_atH v_atM v_atI v_atQ f_m_worth f_m_isRefused ⟨(by omega), hr_m_isRefused⟩ hP hD hS rfl dX10_pace_55
    · have gc_14 : r_11.toInt ≠ 0 := i_ne (rfl : r_11.toInt = r_11.toInt) (by decide : (0 : Int32).toInt = 0) c_14
      refine lv_iload_n hx hb dX10_pace_20 rfl (lv_at hl 3 rfl) ?_
      refine lv_i2l (v := t.toInt64) hx hb dX10_pace_21 rfl ?_
      have hl_16 : t.toInt64.toInt = t.toInt := i_l (rfl : t.toInt = t.toInt)
      refine lv_lconst (v := 0) hx hb dX10_pace_22 (by decide) ?_
      refine lv_ldc2 hx hb hown (hts _ lwd_548) dX10_pace_23 ?_
      have k_17 : (5 : Int64).toInt = 5 := by decide
      refine xi hD hS hA (xS (As := [.long t.toInt64, .long 0, .long 5]) (rest := []) hx hb hml hown hts hK hP hD hS hA NT_ok hN hAe hl.1 ⟨Nat.le_refl _, Nat.le_refl _⟩ (c_X10_lies l D cy hm v_taped v_walkers v_loads v_pieces v_changeCosts v_planned v_isMarch v_clauseMany v_place v_end v_bad v_clauses v_codes v_open v_stacked v_isOver v_isBehind v_atW v_atL v_atT v_atH v_atM v_atI v_atQ v_packing v_packed v_goPace v_goMinutes v_spentAt v_ranChanges f_m_tape f_m_knee f_m_weight f_m_isLame f_m_loadWeight f_m_owner f_m_food f_m_miles f_m_slope f_m_clauseLetter f_m_sumFrom f_m_codeFrom f_m_codeTo f_m_code f_m_codeArg f_m_newLetter f_m_newSum f_m_newFrom f_m_newTo f_m_newCode f_m_newArg f_m_stack f_m_worth f_m_isRefused f_m_least f_m_packPounds f_m_packOwner f_m_room f_m_givenTo f_m_canBe f_m_setPounds f_m_plainTime f_m_muleTime f_m_planTo f_m_march f_m_tired f_m_ranMinutes f_m_tiredAhead f_m_isReached f_m_toEnd f_m_upTo f_m_upNext f_m_byChanges f_m_bandPaces H.size t.toInt64 0 5) (gi_S lwd_226 lwd_227 lwd_5 lwd_228) hd_X10_lies ⟨Nat.le_of_ble_eq_true rfl, Nat.le_of_ble_eq_true rfl⟩ rfl (Nat.le_of_ble_eq_true rfl) dX10_pace_26) (fun r_19 u_18 H locs hw hP hD hS => ?_)
      try dsimp only at hw hP hD
      obtain ⟨p_20, p_21⟩ := hw
      refine lv_if_eq (tgt := 54) hx hb dX10_pace_29 (by decide) (fun c_22 => ?_) (fun c_22 => ?_)
      · have gc_22 : r_19.toInt = 0 := i_eq (rfl : r_19.toInt = r_19.toInt) (by decide : (0 : Int32).toInt = 0) c_22
        refine lv_iconst (v := (-1)) hx hb dX10_pace_54 (by decide) ?_
        have k_23 : ((-1) : Int32).toInt = (-1) := by decide
        exact hrt (-1) v_atW v_atL v_atT v_atH v_atM v_atI v_atQ f_m_worth f_m_isRefused ⟨(by omega), hr_m_isRefused⟩ hP hD hS rfl dX10_pace_55
      · have gc_22 : r_19.toInt ≠ 0 := i_ne (rfl : r_19.toInt = r_19.toInt) (by decide : (0 : Int32).toInt = 0) c_22
        refine lv_aload_n hx hb dX10_pace_32 rfl (lv_at hl 0 rfl) ?_
        refine lv_iload hx hb dX10_pace_33 (lv_at hl 4 rfl) ?_
        refine xi hD hS hA (xV (As := [.int i]) (rest := []) hx hb hml hown hts hK hP hD hS hA NT_ok hN hAe hl.1 ⟨Nat.le_refl _, Nat.le_refl _⟩ 0 rfl rfl rfl (c_X10_isPiece l D cy hm v_taped v_walkers v_loads v_pieces v_changeCosts v_planned v_isMarch v_clauseMany v_place v_end v_bad v_clauses v_codes v_open v_stacked v_isOver v_isBehind v_atW v_atL v_atT v_atH v_atM v_atI v_atQ v_packing v_packed v_goPace v_goMinutes v_spentAt v_ranChanges f_m_tape f_m_knee f_m_weight f_m_isLame f_m_loadWeight f_m_owner f_m_food f_m_miles f_m_slope f_m_clauseLetter f_m_sumFrom f_m_codeFrom f_m_codeTo f_m_code f_m_codeArg f_m_newLetter f_m_newSum f_m_newFrom f_m_newTo f_m_newCode f_m_newArg f_m_stack f_m_worth f_m_isRefused f_m_least f_m_packPounds f_m_packOwner f_m_room f_m_givenTo f_m_canBe f_m_setPounds f_m_plainTime f_m_muleTime f_m_planTo f_m_march f_m_tired f_m_ranMinutes f_m_tiredAhead f_m_isReached f_m_toEnd f_m_upTo f_m_upNext f_m_byChanges f_m_bandPaces H.size i (by omega)) (gi_V lwd_549 lwd_550 lwd_551 lwd_5 lwd_552) ⟨rfl, hd_X10_isPiece⟩ ⟨Nat.le_of_ble_eq_true rfl, Nat.le_of_ble_eq_true rfl⟩ rfl (Nat.le_of_ble_eq_true rfl) dX10_pace_35) (fun r_25 u_24 H locs hw hP hD hS => ?_)
        try dsimp only at hw hP hD
        obtain ⟨p_26, p_27⟩ := hw
        refine lv_if_eq (tgt := 54) hx hb dX10_pace_38 (by decide) (fun c_28 => ?_) (fun c_28 => ?_)
        · have gc_28 : r_25.toInt = 0 := i_eq (rfl : r_25.toInt = r_25.toInt) (by decide : (0 : Int32).toInt = 0) c_28
          refine lv_iconst (v := (-1)) hx hb dX10_pace_54 (by decide) ?_
          have k_29 : ((-1) : Int32).toInt = (-1) := by decide
          exact hrt (-1) v_atW v_atL v_atT v_atH v_atM v_atI v_atQ f_m_worth f_m_isRefused ⟨(by omega), hr_m_isRefused⟩ hP hD hS rfl dX10_pace_55
        · have gc_28 : r_25.toInt ≠ 0 := i_ne (rfl : r_25.toInt = r_25.toInt) (by decide : (0 : Int32).toInt = 0) c_28
          refine lv_aload_n hx hb dX10_pace_41 rfl (lv_at hl 0 rfl) ?_
          refine lv_iload_n hx hb dX10_pace_42 rfl (lv_at hl 1 rfl) ?_
          refine lv_iload_n hx hb dX10_pace_43 rfl (lv_at hl 2 rfl) ?_
          refine lv_iload_n hx hb dX10_pace_44 rfl (lv_at hl 3 rfl) ?_
          refine lv_iload hx hb dX10_pace_45 (lv_at hl 4 rfl) ?_
          refine lv_iconst (v := 0) hx hb dX10_pace_47 (by decide) ?_
          have k_30 : (0 : Int32).toInt = 0 := by decide
          refine xi hD hS hA (xV (As := [.int w, .int q, .int t, .int i, .int 0]) (rest := []) hx hb hml hown hts hK hP hD hS hA NT_ok hN hAe hl.1 ⟨Nat.le_refl _, Nat.le_refl _⟩ 0 rfl rfl rfl (c_X10_paceOf l D cy hm v_taped v_walkers v_loads v_pieces v_changeCosts v_planned v_isMarch v_clauseMany v_place v_end v_bad v_clauses v_codes v_open v_stacked v_isOver v_isBehind v_atW v_atL v_atT v_atH v_atM v_atI v_atQ v_packing v_packed v_goPace v_goMinutes v_spentAt v_ranChanges f_m_tape f_m_knee f_m_weight f_m_isLame f_m_loadWeight f_m_owner f_m_food f_m_miles f_m_slope f_m_clauseLetter f_m_sumFrom f_m_codeFrom f_m_codeTo f_m_code f_m_codeArg f_m_newLetter f_m_newSum f_m_newFrom f_m_newTo f_m_newCode f_m_newArg f_m_stack f_m_worth f_m_isRefused f_m_least f_m_packPounds f_m_packOwner f_m_room f_m_givenTo f_m_canBe f_m_setPounds f_m_plainTime f_m_muleTime f_m_planTo f_m_march f_m_tired f_m_ranMinutes f_m_tiredAhead f_m_isReached f_m_toEnd f_m_upTo f_m_upNext f_m_byChanges f_m_bandPaces H.size w q t i 0 (by omega) (by omega) (by omega) hr_m_weight hr_m_isLame hr_m_miles hr_m_isRefused (by omega) (by omega) (by omega) hwf) (gi_V lwd_553 lwd_554 lwd_555 lwd_5 lwd_556) ⟨rfl, hd_X10_paceOf⟩ ⟨Nat.le_of_ble_eq_true rfl, Nat.le_of_ble_eq_true rfl⟩ rfl (Nat.le_of_ble_eq_true rfl) dX10_pace_48) (fun r_32 u_31 H locs hw hP hD hS => ?_)
          obtain ⟨zatW_33, zatL_34, zatT_35, zatH_36, zatM_37, zatI_38, zatQ_39, zworth_40, zisRefused_41⟩ := u_31
          try dsimp only at hw hP hD
          obtain ⟨p_42, p_43, p_44, p_45⟩ := hw
          refine lv_goto (tgt := 55) hx hb dX10_pace_51 (by decide) ?_
          exact hrt r_32 zatW_33 zatL_34 zatT_35 zatH_36 zatM_37 zatI_38 zatQ_39 zworth_40 zisRefused_41 ⟨(by omega), p_45⟩ hP hD hS rfl dX10_pace_55
set_option maxHeartbeats 16000000 in
set_option maxRecDepth 100000 in
theorem c_X10_laysWalker (l : Launch) (D : va_G) (cy : Nat → ClassId) (hm : Nat → Nat) (v_taped v_walkers v_loads v_pieces v_changeCosts v_planned v_isMarch v_clauseMany v_place v_end v_bad v_clauses v_codes v_open v_stacked v_isOver v_isBehind v_atW v_atL v_atT v_atH v_atM v_atI v_atQ v_packing v_packed v_goPace v_goMinutes v_spentAt v_ranChanges : Int32) (f_m_tape f_m_knee f_m_weight f_m_isLame f_m_loadWeight f_m_owner f_m_food f_m_miles f_m_slope f_m_clauseLetter f_m_sumFrom f_m_codeFrom f_m_codeTo f_m_code f_m_codeArg f_m_newLetter f_m_newSum f_m_newFrom f_m_newTo f_m_newCode f_m_newArg f_m_stack f_m_worth f_m_isRefused f_m_least f_m_packPounds f_m_packOwner f_m_room f_m_givenTo f_m_canBe f_m_setPounds f_m_plainTime f_m_muleTime f_m_planTo f_m_march f_m_tired f_m_ranMinutes f_m_tiredAhead f_m_isReached f_m_toEnd f_m_upTo f_m_upNext f_m_byChanges f_m_bandPaces : Nat → Int32) (sz : Nat) (w : Int32) (t : Int32) (i : Int32) (hb_v_walkers : 0 ≤ v_walkers.toInt ∧ v_walkers.toInt ≤ 6) (hb_v_clauseMany : 0 ≤ v_clauseMany.toInt ∧ v_clauseMany.toInt ≤ 14) (hb_v_atW : 0 ≤ v_atW.toInt ∧ v_atW.toInt ≤ 5) (hr_m_weight : rg (0) 250 f_m_weight) (hr_m_isLame : rg (0) 1 f_m_isLame) (hr_m_miles : rg (0) 20 f_m_miles) (hr_m_isRefused : rg (0) 1 f_m_isRefused) (ha_w : 0 ≤ w.toInt ∧ w.toInt ≤ 5) (ha_i : 0 ≤ i.toInt ∧ i.toInt ≤ 9) (hwf : wfC v_clauseMany f_m_sumFrom f_m_codeFrom f_m_codeTo f_m_code) : gMv l yX10_laysWalker cX10_laysWalker 7 6 [.ref (hm 0), .int w, .int t, .int i] D cy (wMD cy hm v_taped v_walkers v_loads v_pieces v_changeCosts v_planned v_isMarch v_clauseMany v_place v_end v_bad v_clauses v_codes v_open v_stacked v_isOver v_isBehind v_atW v_atL v_atT v_atH v_atM v_atI v_atQ v_packing v_packed v_goPace v_goMinutes v_spentAt v_ranChanges f_m_tape f_m_knee f_m_weight f_m_isLame f_m_loadWeight f_m_owner f_m_food f_m_miles f_m_slope f_m_clauseLetter f_m_sumFrom f_m_codeFrom f_m_codeTo f_m_code f_m_codeArg f_m_newLetter f_m_newSum f_m_newFrom f_m_newTo f_m_newCode f_m_newArg f_m_stack f_m_worth f_m_isRefused f_m_least f_m_packPounds f_m_packOwner f_m_room f_m_givenTo f_m_canBe f_m_setPounds f_m_plainTime f_m_muleTime f_m_planTo f_m_march f_m_tired f_m_ranMinutes f_m_tiredAhead f_m_isReached f_m_toEnd f_m_upTo f_m_upNext f_m_byChanges f_m_bandPaces) NT sz (fun (u : Int32 × Int32 × Int32 × Int32 × Int32 × Int32 × Int32 × (Nat → Int32) × (Nat → Int32) × (Nat → Int32)) => (0 ≤ (u.1).toInt ∧ (u.1).toInt ≤ 5) ∧ (rg (0) 1 (u.2.2.2.2.2.2.2.2.1))) (fun u => wMD cy hm v_taped v_walkers v_loads v_pieces v_changeCosts v_planned v_isMarch v_clauseMany v_place v_end v_bad v_clauses v_codes v_open v_stacked v_isOver v_isBehind (u.1) (u.2.1) (u.2.2.1) (u.2.2.2.1) (u.2.2.2.2.1) (u.2.2.2.2.2.1) (u.2.2.2.2.2.2.1) v_packing v_packed v_goPace v_goMinutes v_spentAt v_ranChanges f_m_tape f_m_knee f_m_weight f_m_isLame f_m_loadWeight f_m_owner f_m_food f_m_miles f_m_slope f_m_clauseLetter f_m_sumFrom f_m_codeFrom f_m_codeTo f_m_code f_m_codeArg f_m_newLetter f_m_newSum f_m_newFrom f_m_newTo f_m_newCode f_m_newArg f_m_stack (u.2.2.2.2.2.2.2.1) (u.2.2.2.2.2.2.2.2.1) (u.2.2.2.2.2.2.2.2.2) f_m_packPounds f_m_packOwner f_m_room f_m_givenTo f_m_canBe f_m_setPounds f_m_plainTime f_m_muleTime f_m_planTo f_m_march f_m_tired f_m_ranMinutes f_m_tiredAhead f_m_isReached f_m_toEnd f_m_upTo f_m_upNext f_m_byChanges f_m_bandPaces) := by
  refine gMv_in (by decide) (Nat.le_of_ble_eq_true rfl) ?_
  intro p e s m args below meth c A ls Q hx hb hml hts hown hsz hP hK hD hN hAe hA hS hl hret
  subst hsz
  have hl : lv_has ls 7 [(0, .ref (hm 0)), (1, .int w), (2, .int t), (3, .int i)] := hl
  have hrt := fun (v_atW' : Int32) (v_atL' : Int32) (v_atT' : Int32) (v_atH' : Int32) (v_atM' : Int32) (v_atI' : Int32) (v_atQ' : Int32) (f_m_worth' : Nat → Int32) (f_m_isRefused' : Nat → Int32) (f_m_least' : Nat → Int32) (hp : (0 ≤ v_atW'.toInt ∧ v_atW'.toInt ≤ 5) ∧ (rg (0) 1 f_m_isRefused')) {H : Heap} {locs : List Loc} {pc : Nat} {ls : Array Slot} => hret (v_atW', v_atL', v_atT', v_atH', v_atM', v_atI', v_atQ', f_m_worth', f_m_isRefused', f_m_least') (H := H) (locs := locs) (pc := pc) (ls := ls) hp
  clear hret
  refine lv_bipush (v := 60) hx hb dX10_laysWalker_0 (by decide) ?_
  refine lv_istore (lv' := [(4, .int 60), (0, .ref (hm 0)), (1, .int w), (2, .int t), (3, .int i)]) hx hb dX10_laysWalker_2 hl (by decide) rfl (fun ls hl => ?_)
  refine lv_iconst (v := 0) hx hb dX10_laysWalker_4 (by decide) ?_
  refine lv_istore (lv' := [(5, .int 0), (4, .int 60), (0, .ref (hm 0)), (1, .int w), (2, .int t), (3, .int i)]) hx hb dX10_laysWalker_5 hl (by decide) rfl (fun ls hl => ?_)
  have L7_25 : ∀ (n : Nat) (f_13 : Nat → Int32) (f_14 : Nat → Int32) (f_15 : Nat → Int32) (l_16 : Int32) (l_17 : Int32) (w_18 : Int32) (w_19 : Int32) (w_20 : Int32) (w_21 : Int32) (w_22 : Int32) (w_23 : Int32) (w_24 : Int32), (rg (0) 1 f_13) → (0 ≤ l_17.toInt ∧ l_17.toInt ≤ 401) → (0 ≤ w_24.toInt ∧ w_24.toInt ≤ 5) → 402 - l_17.toInt < n → ∀ (H : Heap) (locs : List Loc) (ls : Array Slot), va_P D vwCl (wMD cy hm v_taped v_walkers v_loads v_pieces v_changeCosts v_planned v_isMarch v_clauseMany v_place v_end v_bad v_clauses v_codes v_open v_stacked v_isOver v_isBehind w_24 w_20 w_23 w_18 w_21 w_19 w_22 v_packing v_packed v_goPace v_goMinutes v_spentAt v_ranChanges f_m_tape f_m_knee f_m_weight f_m_isLame f_m_loadWeight f_m_owner f_m_food f_m_miles f_m_slope f_m_clauseLetter f_m_sumFrom f_m_codeFrom f_m_codeTo f_m_code f_m_codeArg f_m_newLetter f_m_newSum f_m_newFrom f_m_newTo f_m_newCode f_m_newArg f_m_stack f_15 f_13 f_14 f_m_packPounds f_m_packOwner f_m_room f_m_givenTo f_m_canBe f_m_setPounds f_m_plainTime f_m_muleTime f_m_planTo f_m_march f_m_tired f_m_ranMinutes f_m_tiredAhead f_m_isReached f_m_toEnd f_m_upTo f_m_upNext f_m_byChanges f_m_bandPaces) H → va_D A (wMD cy hm v_taped v_walkers v_loads v_pieces v_changeCosts v_planned v_isMarch v_clauseMany v_place v_end v_bad v_clauses v_codes v_open v_stacked v_isOver v_isBehind w_24 w_20 w_23 w_18 w_21 w_19 w_22 v_packing v_packed v_goPace v_goMinutes v_spentAt v_ranChanges f_m_tape f_m_knee f_m_weight f_m_isLame f_m_loadWeight f_m_owner f_m_food f_m_miles f_m_slope f_m_clauseLetter f_m_sumFrom f_m_codeFrom f_m_codeTo f_m_code f_m_codeArg f_m_newLetter f_m_newSum f_m_newFrom f_m_newTo f_m_newCode f_m_newArg f_m_stack f_15 f_13 f_14 f_m_packPounds f_m_packOwner f_m_room f_m_givenTo f_m_canBe f_m_setPounds f_m_plainTime f_m_muleTime f_m_planTo f_m_march f_m_tired f_m_ranMinutes f_m_tiredAhead f_m_isReached f_m_toEnd f_m_upTo f_m_upNext f_m_byChanges f_m_bandPaces) → va_S A s.heap H locs → lv_has ls 7 [(5, .int l_17), (4, .int l_16), (0, .ref (hm 0)), (1, .int w), (2, .int t), (3, .int i)] → W p l e (gRm 6) s m args below meth c H locs 0 0 Q (F0 m 7 ls []) := by
    intro n
    induction n with
    | zero => intro f_13 f_14 f_15 l_16 l_17 w_18 w_19 w_20 w_21 w_22 w_23 w_24 hL7_25_0 hL7_25_1 hL7_25_2 hm; exact absurd hm (by omega)
    | succ n ih7_25 =>
      intro f_13 f_14 f_15 l_16 l_17 w_18 w_19 w_20 w_21 w_22 w_23 w_24 hL7_25_0 hL7_25_1 hL7_25_2 hmL7_25 H locs ls hP hD hS hl
      refine lv_iload hx hb dX10_laysWalker_7 (lv_at hl 0 rfl) ?_
      refine lv_sipush (v := 401) hx hb dX10_laysWalker_9 (by decide) ?_
      refine lv_icmp_ge (tgt := 64) hx hb dX10_laysWalker_12 (by decide) (fun c_26 => ?_) (fun c_26 => ?_)
      · have gc_26 : 401 ≤ l_17.toInt := i_le (by decide : (401 : Int32).toInt = 401) (rfl : l_17.toInt = l_17.toInt) c_26
        exact hrt w_24 w_20 w_23 w_18 w_21 w_19 w_22 f_15 f_13 f_14 ⟨(by omega), hL7_25_0⟩ hP hD hS dX10_laysWalker_64
      · have gc_26 : l_17.toInt < 401 := i_nle (by decide : (401 : Int32).toInt = 401) (rfl : l_17.toInt = l_17.toInt) c_26
        refine lv_aload_n hx hb dX10_laysWalker_15 rfl (lv_at hl 2 rfl) ?_
        refine lv_iload_n hx hb dX10_laysWalker_16 rfl (lv_at hl 3 rfl) ?_
        refine lv_iload hx hb dX10_laysWalker_17 (lv_at hl 0 rfl) ?_
        refine lv_iload_n hx hb dX10_laysWalker_19 rfl (lv_at hl 4 rfl) ?_
        refine lv_iload_n hx hb dX10_laysWalker_20 rfl (lv_at hl 5 rfl) ?_
        refine lv_iconst (v := 0) hx hb dX10_laysWalker_21 (by decide) ?_
        have k_27 : (0 : Int32).toInt = 0 := by decide
        refine xi hD hS hA (xV (As := [.int w, .int l_17, .int t, .int i, .int 0]) (rest := []) hx hb hml hown hts hK hP hD hS hA NT_ok hN hAe hl.1 ⟨Nat.le_refl _, Nat.le_refl _⟩ 0 rfl rfl rfl (c_X10_paceOf l D cy hm v_taped v_walkers v_loads v_pieces v_changeCosts v_planned v_isMarch v_clauseMany v_place v_end v_bad v_clauses v_codes v_open v_stacked v_isOver v_isBehind w_24 w_20 w_23 w_18 w_21 w_19 w_22 v_packing v_packed v_goPace v_goMinutes v_spentAt v_ranChanges f_m_tape f_m_knee f_m_weight f_m_isLame f_m_loadWeight f_m_owner f_m_food f_m_miles f_m_slope f_m_clauseLetter f_m_sumFrom f_m_codeFrom f_m_codeTo f_m_code f_m_codeArg f_m_newLetter f_m_newSum f_m_newFrom f_m_newTo f_m_newCode f_m_newArg f_m_stack f_15 f_13 f_14 f_m_packPounds f_m_packOwner f_m_room f_m_givenTo f_m_canBe f_m_setPounds f_m_plainTime f_m_muleTime f_m_planTo f_m_march f_m_tired f_m_ranMinutes f_m_tiredAhead f_m_isReached f_m_toEnd f_m_upTo f_m_upNext f_m_byChanges f_m_bandPaces H.size w l_17 t i 0 (by omega) (by omega) (by omega) hr_m_weight hr_m_isLame hr_m_miles hL7_25_0 (by omega) (by omega) (by omega) hwf) (gi_V lwd_553 lwd_554 lwd_555 lwd_5 lwd_556) ⟨rfl, hd_X10_paceOf⟩ ⟨Nat.le_of_ble_eq_true rfl, Nat.le_of_ble_eq_true rfl⟩ rfl (Nat.le_of_ble_eq_true rfl) dX10_laysWalker_22) (fun r_29 u_28 H locs hw hP hD hS => ?_)
        obtain ⟨zatW_30, zatL_31, zatT_32, zatH_33, zatM_34, zatI_35, zatQ_36, zworth_37, zisRefused_38⟩ := u_28
        try dsimp only at hw hP hD
        obtain ⟨p_39, p_40, p_41, p_42⟩ := hw
        refine lv_istore (lv' := [(6, .int r_29), (5, .int l_17), (4, .int l_16), (0, .ref (hm 0)), (1, .int w), (2, .int t), (3, .int i)]) hx hb dX10_laysWalker_25 hl (by decide) rfl (fun ls hl => ?_)
        refine lv_iload hx hb dX10_laysWalker_27 (lv_at hl 0 rfl) ?_
        refine lv_iload hx hb dX10_laysWalker_29 (lv_at hl 2 rfl) ?_
        refine lv_icmp_ge (tgt := 39) hx hb dX10_laysWalker_31 (by decide) (fun c_43 => ?_) (fun c_43 => ?_)
        · have gc_43 : l_16.toInt ≤ r_29.toInt := i_le (rfl : l_16.toInt = l_16.toInt) (rfl : r_29.toInt = r_29.toInt) c_43
          refine lv_iload hx hb dX10_laysWalker_39 (lv_at hl 2 rfl) ?_
          refine lv_istore (lv' := [(4, .int l_16), (6, .int r_29), (5, .int l_17), (0, .ref (hm 0)), (1, .int w), (2, .int t), (3, .int i)]) hx hb dX10_laysWalker_41 hl (by decide) rfl (fun ls hl => ?_)
          refine lv_aload_n hx hb dX10_laysWalker_43 rfl (lv_at hl 3 rfl) ?_
          refine gt_MD_MD_least hx hb hts hown hK hP lwd_180 dX10_laysWalker_44 ?_
          refine lv_sipush (v := 401) hx hb dX10_laysWalker_47 (by decide) ?_
          refine lv_iload_n hx hb dX10_laysWalker_50 rfl (lv_at hl 4 rfl) ?_
          refine lv_imul hx hb dX10_laysWalker_51 ?_
          refine lv_topi (fun n_44 en_44 => ?_)
          have tn_44 : n_44.toInt = 401 * w.toInt := i_mul en_44 (by decide : (401 : Int32).toInt = 401) (rfl : w.toInt = w.toInt) (by omega) (by omega)
          refine lv_iload hx hb dX10_laysWalker_52 (lv_at hl 2 rfl) ?_
          refine lv_iadd hx hb dX10_laysWalker_54 ?_
          refine lv_topi (fun n_45 en_45 => ?_)
          have tn_45 : n_45.toInt = (401 * w.toInt) + l_17.toInt := i_add en_45 tn_44 (rfl : l_17.toInt = l_17.toInt) (by omega) (by omega)
          refine lv_iload hx hb dX10_laysWalker_55 (lv_at hl 0 rfl) ?_
          refine as_m_least (x := l_16) hx hb hK hP hD hS (i_in tn_45 (by omega) (by omega)) dX10_laysWalker_57 (fun f_46 ef_46 H locs hP hD hS => ?_)
          obtain ⟨n_47, en_47⟩ : ∃ y : Int32, y = l_17 + 1 := ⟨_, rfl⟩
          have tn_47 : n_47.toInt = l_17.toInt + 1 := i_add en_47 (rfl : l_17.toInt = l_17.toInt) (by decide : (1 : Int32).toInt = 1) (by omega) (by omega)
          refine lv_iinc (v := n_47) (lv' := [(5, .int n_47), (4, .int l_16), (6, .int r_29), (0, .ref (hm 0)), (1, .int w), (2, .int t), (3, .int i)]) hx hb dX10_laysWalker_58 hl (k := 2) rfl (by rw [en_47]; rfl) (by decide) rfl (fun ls hl => ?_)
          refine lv_goto (tgt := 7) hx hb dX10_laysWalker_61 (by decide) ?_
          exact ih7_25 zisRefused_38 f_46 zworth_37 l_16 n_47 zatH_33 zatI_35 zatL_31 zatM_34 zatQ_36 zatT_32 zatW_30 p_42 (by omega) (by omega) (by omega) _ _ _ hP hD hS (lv_sub hl [0, 1, 3, 4, 5, 6] rfl)
        · have gc_43 : r_29.toInt < l_16.toInt := i_nle (rfl : l_16.toInt = l_16.toInt) (rfl : r_29.toInt = r_29.toInt) c_43
          refine lv_iload hx hb dX10_laysWalker_34 (lv_at hl 0 rfl) ?_
          refine lv_goto (tgt := 41) hx hb dX10_laysWalker_36 (by decide) ?_
          refine lv_istore (lv' := [(4, .int r_29), (6, .int r_29), (5, .int l_17), (0, .ref (hm 0)), (1, .int w), (2, .int t), (3, .int i)]) hx hb dX10_laysWalker_41 hl (by decide) rfl (fun ls hl => ?_)
          refine lv_aload_n hx hb dX10_laysWalker_43 rfl (lv_at hl 3 rfl) ?_
          refine gt_MD_MD_least hx hb hts hown hK hP lwd_180 dX10_laysWalker_44 ?_
          refine lv_sipush (v := 401) hx hb dX10_laysWalker_47 (by decide) ?_
          refine lv_iload_n hx hb dX10_laysWalker_50 rfl (lv_at hl 4 rfl) ?_
          refine lv_imul hx hb dX10_laysWalker_51 ?_
          refine lv_topi (fun n_48 en_48 => ?_)
          have tn_48 : n_48.toInt = 401 * w.toInt := i_mul en_48 (by decide : (401 : Int32).toInt = 401) (rfl : w.toInt = w.toInt) (by omega) (by omega)
          refine lv_iload hx hb dX10_laysWalker_52 (lv_at hl 2 rfl) ?_
          refine lv_iadd hx hb dX10_laysWalker_54 ?_
          refine lv_topi (fun n_49 en_49 => ?_)
          have tn_49 : n_49.toInt = (401 * w.toInt) + l_17.toInt := i_add en_49 tn_48 (rfl : l_17.toInt = l_17.toInt) (by omega) (by omega)
          refine lv_iload hx hb dX10_laysWalker_55 (lv_at hl 0 rfl) ?_
          refine as_m_least (x := r_29) hx hb hK hP hD hS (i_in tn_49 (by omega) (by omega)) dX10_laysWalker_57 (fun f_50 ef_50 H locs hP hD hS => ?_)
          obtain ⟨n_51, en_51⟩ : ∃ y : Int32, y = l_17 + 1 := ⟨_, rfl⟩
          have tn_51 : n_51.toInt = l_17.toInt + 1 := i_add en_51 (rfl : l_17.toInt = l_17.toInt) (by decide : (1 : Int32).toInt = 1) (by omega) (by omega)
          refine lv_iinc (v := n_51) (lv' := [(5, .int n_51), (4, .int r_29), (6, .int r_29), (0, .ref (hm 0)), (1, .int w), (2, .int t), (3, .int i)]) hx hb dX10_laysWalker_58 hl (k := 2) rfl (by rw [en_51]; rfl) (by decide) rfl (fun ls hl => ?_)
          refine lv_goto (tgt := 7) hx hb dX10_laysWalker_61 (by decide) ?_
          exact ih7_25 zisRefused_38 f_50 zworth_37 r_29 n_51 zatH_33 zatI_35 zatL_31 zatM_34 zatQ_36 zatT_32 zatW_30 p_42 (by omega) (by omega) (by omega) _ _ _ hP hD hS (lv_sub hl [0, 1, 3, 4, 5, 6] rfl)
  have k_52 : (60 : Int32).toInt = 60 := by decide
  have k_53 : (0 : Int32).toInt = 0 := by decide
  exact L7_25 8589934592 f_m_isRefused f_m_least f_m_worth 60 0 v_atH v_atI v_atL v_atM v_atQ v_atT v_atW hr_m_isRefused (by omega) (by omega) (by omega) _ _ _ hP hD hS (lv_sub hl [0, 1, 2, 3, 4, 5] rfl)
set_option maxHeartbeats 16000000 in
set_option maxRecDepth 100000 in
theorem c_X10_lays (l : Launch) (D : va_G) (cy : Nat → ClassId) (hm : Nat → Nat) (v_taped v_walkers v_loads v_pieces v_changeCosts v_planned v_isMarch v_clauseMany v_place v_end v_bad v_clauses v_codes v_open v_stacked v_isOver v_isBehind v_atW v_atL v_atT v_atH v_atM v_atI v_atQ v_packing v_packed v_goPace v_goMinutes v_spentAt v_ranChanges : Int32) (f_m_tape f_m_knee f_m_weight f_m_isLame f_m_loadWeight f_m_owner f_m_food f_m_miles f_m_slope f_m_clauseLetter f_m_sumFrom f_m_codeFrom f_m_codeTo f_m_code f_m_codeArg f_m_newLetter f_m_newSum f_m_newFrom f_m_newTo f_m_newCode f_m_newArg f_m_stack f_m_worth f_m_isRefused f_m_least f_m_packPounds f_m_packOwner f_m_room f_m_givenTo f_m_canBe f_m_setPounds f_m_plainTime f_m_muleTime f_m_planTo f_m_march f_m_tired f_m_ranMinutes f_m_tiredAhead f_m_isReached f_m_toEnd f_m_upTo f_m_upNext f_m_byChanges f_m_bandPaces : Nat → Int32) (sz : Nat) (i : Int32) (all : Int32) (hb_v_walkers : 0 ≤ v_walkers.toInt ∧ v_walkers.toInt ≤ 6) (hb_v_clauseMany : 0 ≤ v_clauseMany.toInt ∧ v_clauseMany.toInt ≤ 14) (hb_v_atW : 0 ≤ v_atW.toInt ∧ v_atW.toInt ≤ 5) (hr_m_weight : rg (0) 250 f_m_weight) (hr_m_isLame : rg (0) 1 f_m_isLame) (hr_m_miles : rg (0) 20 f_m_miles) (hr_m_isRefused : rg (0) 1 f_m_isRefused) (ha_i : 0 ≤ i.toInt ∧ i.toInt ≤ 9) (ha_all : 0 ≤ all.toInt ∧ all.toInt ≤ 46655) (hwf : wfC v_clauseMany f_m_sumFrom f_m_codeFrom f_m_codeTo f_m_code) : gMv l yX10_lays cX10_lays 4 7 [.ref (hm 0), .int i, .int all] D cy (wMD cy hm v_taped v_walkers v_loads v_pieces v_changeCosts v_planned v_isMarch v_clauseMany v_place v_end v_bad v_clauses v_codes v_open v_stacked v_isOver v_isBehind v_atW v_atL v_atT v_atH v_atM v_atI v_atQ v_packing v_packed v_goPace v_goMinutes v_spentAt v_ranChanges f_m_tape f_m_knee f_m_weight f_m_isLame f_m_loadWeight f_m_owner f_m_food f_m_miles f_m_slope f_m_clauseLetter f_m_sumFrom f_m_codeFrom f_m_codeTo f_m_code f_m_codeArg f_m_newLetter f_m_newSum f_m_newFrom f_m_newTo f_m_newCode f_m_newArg f_m_stack f_m_worth f_m_isRefused f_m_least f_m_packPounds f_m_packOwner f_m_room f_m_givenTo f_m_canBe f_m_setPounds f_m_plainTime f_m_muleTime f_m_planTo f_m_march f_m_tired f_m_ranMinutes f_m_tiredAhead f_m_isReached f_m_toEnd f_m_upTo f_m_upNext f_m_byChanges f_m_bandPaces) NT sz (fun (u : Int32 × Int32 × Int32 × Int32 × Int32 × Int32 × Int32 × (Nat → Int32) × (Nat → Int32) × (Nat → Int32)) => (0 ≤ (u.1).toInt ∧ (u.1).toInt ≤ 5) ∧ (rg (0) 1 (u.2.2.2.2.2.2.2.2.1))) (fun u => wMD cy hm v_taped v_walkers v_loads v_pieces v_changeCosts v_planned v_isMarch v_clauseMany v_place v_end v_bad v_clauses v_codes v_open v_stacked v_isOver v_isBehind (u.1) (u.2.1) (u.2.2.1) (u.2.2.2.1) (u.2.2.2.2.1) (u.2.2.2.2.2.1) (u.2.2.2.2.2.2.1) v_packing v_packed v_goPace v_goMinutes v_spentAt v_ranChanges f_m_tape f_m_knee f_m_weight f_m_isLame f_m_loadWeight f_m_owner f_m_food f_m_miles f_m_slope f_m_clauseLetter f_m_sumFrom f_m_codeFrom f_m_codeTo f_m_code f_m_codeArg f_m_newLetter f_m_newSum f_m_newFrom f_m_newTo f_m_newCode f_m_newArg f_m_stack (u.2.2.2.2.2.2.2.1) (u.2.2.2.2.2.2.2.2.1) (u.2.2.2.2.2.2.2.2.2) f_m_packPounds f_m_packOwner f_m_room f_m_givenTo f_m_canBe f_m_setPounds f_m_plainTime f_m_muleTime f_m_planTo f_m_march f_m_tired f_m_ranMinutes f_m_tiredAhead f_m_isReached f_m_toEnd f_m_upTo f_m_upNext f_m_byChanges f_m_bandPaces) := by
  refine gMv_in (by decide) (Nat.le_of_ble_eq_true rfl) ?_
  intro p e s m args below meth c A ls Q hx hb hml hts hown hsz hP hK hD hN hAe hA hS hl hret
  subst hsz
  have hl : lv_has ls 4 [(0, .ref (hm 0)), (1, .int i), (2, .int all)] := hl
  have hrt := fun (v_atW' : Int32) (v_atL' : Int32) (v_atT' : Int32) (v_atH' : Int32) (v_atM' : Int32) (v_atI' : Int32) (v_atQ' : Int32) (f_m_worth' : Nat → Int32) (f_m_isRefused' : Nat → Int32) (f_m_least' : Nat → Int32) (hp : (0 ≤ v_atW'.toInt ∧ v_atW'.toInt ≤ 5) ∧ (rg (0) 1 f_m_isRefused')) {H : Heap} {locs : List Loc} {pc : Nat} {ls : Array Slot} => hret (v_atW', v_atL', v_atT', v_atH', v_atM', v_atI', v_atQ', f_m_worth', f_m_isRefused', f_m_least') (H := H) (locs := locs) (pc := pc) (ls := ls) hp
  clear hret
  refine lv_iconst (v := 0) hx hb dX10_lays_0 (by decide) ?_
  refine lv_istore_n (lv' := [(3, .int 0), (0, .ref (hm 0)), (1, .int i), (2, .int all)]) hx hb dX10_lays_1 rfl hl (by decide) rfl (fun ls hl => ?_)
  have L2_23 : ∀ (n : Nat) (f_12 : Nat → Int32) (f_13 : Nat → Int32) (f_14 : Nat → Int32) (l_15 : Int32) (w_16 : Int32) (w_17 : Int32) (w_18 : Int32) (w_19 : Int32) (w_20 : Int32) (w_21 : Int32) (w_22 : Int32), (rg (0) 1 f_12) → (0 ≤ l_15.toInt ∧ l_15.toInt ≤ 6) → (0 ≤ w_22.toInt ∧ w_22.toInt ≤ 5) → 7 - l_15.toInt < n → ∀ (H : Heap) (locs : List Loc) (ls : Array Slot), va_P D vwCl (wMD cy hm v_taped v_walkers v_loads v_pieces v_changeCosts v_planned v_isMarch v_clauseMany v_place v_end v_bad v_clauses v_codes v_open v_stacked v_isOver v_isBehind w_22 w_18 w_21 w_16 w_19 w_17 w_20 v_packing v_packed v_goPace v_goMinutes v_spentAt v_ranChanges f_m_tape f_m_knee f_m_weight f_m_isLame f_m_loadWeight f_m_owner f_m_food f_m_miles f_m_slope f_m_clauseLetter f_m_sumFrom f_m_codeFrom f_m_codeTo f_m_code f_m_codeArg f_m_newLetter f_m_newSum f_m_newFrom f_m_newTo f_m_newCode f_m_newArg f_m_stack f_14 f_12 f_13 f_m_packPounds f_m_packOwner f_m_room f_m_givenTo f_m_canBe f_m_setPounds f_m_plainTime f_m_muleTime f_m_planTo f_m_march f_m_tired f_m_ranMinutes f_m_tiredAhead f_m_isReached f_m_toEnd f_m_upTo f_m_upNext f_m_byChanges f_m_bandPaces) H → va_D A (wMD cy hm v_taped v_walkers v_loads v_pieces v_changeCosts v_planned v_isMarch v_clauseMany v_place v_end v_bad v_clauses v_codes v_open v_stacked v_isOver v_isBehind w_22 w_18 w_21 w_16 w_19 w_17 w_20 v_packing v_packed v_goPace v_goMinutes v_spentAt v_ranChanges f_m_tape f_m_knee f_m_weight f_m_isLame f_m_loadWeight f_m_owner f_m_food f_m_miles f_m_slope f_m_clauseLetter f_m_sumFrom f_m_codeFrom f_m_codeTo f_m_code f_m_codeArg f_m_newLetter f_m_newSum f_m_newFrom f_m_newTo f_m_newCode f_m_newArg f_m_stack f_14 f_12 f_13 f_m_packPounds f_m_packOwner f_m_room f_m_givenTo f_m_canBe f_m_setPounds f_m_plainTime f_m_muleTime f_m_planTo f_m_march f_m_tired f_m_ranMinutes f_m_tiredAhead f_m_isReached f_m_toEnd f_m_upTo f_m_upNext f_m_byChanges f_m_bandPaces) → va_S A s.heap H locs → lv_has ls 4 [(3, .int l_15), (0, .ref (hm 0)), (1, .int i), (2, .int all)] → W p l e (gRm 7) s m args below meth c H locs 0 0 Q (F0 m 2 ls []) := by
    intro n
    induction n with
    | zero => intro f_12 f_13 f_14 l_15 w_16 w_17 w_18 w_19 w_20 w_21 w_22 hL2_23_0 hL2_23_1 hL2_23_2 hm; exact absurd hm (by omega)
    | succ n ih2_23 =>
      intro f_12 f_13 f_14 l_15 w_16 w_17 w_18 w_19 w_20 w_21 w_22 hL2_23_0 hL2_23_1 hL2_23_2 hmL2_23 H locs ls hP hD hS hl
      refine lv_iload_n hx hb dX10_lays_2 rfl (lv_at hl 0 rfl) ?_
      refine lv_aload_n hx hb dX10_lays_3 rfl (lv_at hl 1 rfl) ?_
      refine gt_MD_MD_walkers hx hb hts hown hK hP lwd_221 dX10_lays_4 ?_
      refine lv_icmp_ge (tgt := 27) hx hb dX10_lays_7 (by decide) (fun c_24 => ?_) (fun c_24 => ?_)
      · have gc_24 : v_walkers.toInt ≤ l_15.toInt := i_le (rfl : v_walkers.toInt = v_walkers.toInt) (rfl : l_15.toInt = l_15.toInt) c_24
        exact hrt w_22 w_18 w_21 w_16 w_19 w_17 w_20 f_14 f_12 f_13 ⟨(by omega), hL2_23_0⟩ hP hD hS dX10_lays_27
      · have gc_24 : l_15.toInt < v_walkers.toInt := i_nle (rfl : v_walkers.toInt = v_walkers.toInt) (rfl : l_15.toInt = l_15.toInt) c_24
        refine lv_aload_n hx hb dX10_lays_10 rfl (lv_at hl 1 rfl) ?_
        refine lv_iload_n hx hb dX10_lays_11 rfl (lv_at hl 0 rfl) ?_
        refine lv_iload_n hx hb dX10_lays_12 rfl (lv_at hl 3 rfl) ?_
        refine lv_iload_n hx hb dX10_lays_13 rfl (lv_at hl 0 rfl) ?_
        refine xi hD hS hA (xS (As := [.int all, .int l_15]) (rest := [.int l_15, .ref (hm 0)]) hx hb hml hown hts hK hP hD hS hA NT_ok hN hAe hl.1 ⟨Nat.le_refl _, Nat.le_refl _⟩ (c_X10_tiredOf l D cy hm v_taped v_walkers v_loads v_pieces v_changeCosts v_planned v_isMarch v_clauseMany v_place v_end v_bad v_clauses v_codes v_open v_stacked v_isOver v_isBehind w_22 w_18 w_21 w_16 w_19 w_17 w_20 v_packing v_packed v_goPace v_goMinutes v_spentAt v_ranChanges f_m_tape f_m_knee f_m_weight f_m_isLame f_m_loadWeight f_m_owner f_m_food f_m_miles f_m_slope f_m_clauseLetter f_m_sumFrom f_m_codeFrom f_m_codeTo f_m_code f_m_codeArg f_m_newLetter f_m_newSum f_m_newFrom f_m_newTo f_m_newCode f_m_newArg f_m_stack f_14 f_12 f_13 f_m_packPounds f_m_packOwner f_m_room f_m_givenTo f_m_canBe f_m_setPounds f_m_plainTime f_m_muleTime f_m_planTo f_m_march f_m_tired f_m_ranMinutes f_m_tiredAhead f_m_isReached f_m_toEnd f_m_upTo f_m_upNext f_m_byChanges f_m_bandPaces H.size all l_15 (by omega) (by omega)) (gi_S lwd_657 lwd_658 lwd_5 lwd_659) hd_X10_tiredOf ⟨Nat.le_of_ble_eq_true rfl, Nat.le_of_ble_eq_true rfl⟩ rfl (Nat.le_of_ble_eq_true rfl) dX10_lays_14) (fun r_26 u_25 H locs hw hP hD hS => ?_)
        try dsimp only at hw hP hD
        have p_27 := hw
        clear hw
        refine lv_iload_n hx hb dX10_lays_17 rfl (lv_at hl 2 rfl) ?_
        refine xv hD hS hA (xV (As := [.int l_15, .int r_26, .int i]) (rest := []) hx hb hml hown hts hK hP hD hS hA NT_ok hN hAe hl.1 ⟨Nat.le_refl _, Nat.le_refl _⟩ 0 rfl rfl rfl (c_X10_laysWalker l D cy hm v_taped v_walkers v_loads v_pieces v_changeCosts v_planned v_isMarch v_clauseMany v_place v_end v_bad v_clauses v_codes v_open v_stacked v_isOver v_isBehind w_22 w_18 w_21 w_16 w_19 w_17 w_20 v_packing v_packed v_goPace v_goMinutes v_spentAt v_ranChanges f_m_tape f_m_knee f_m_weight f_m_isLame f_m_loadWeight f_m_owner f_m_food f_m_miles f_m_slope f_m_clauseLetter f_m_sumFrom f_m_codeFrom f_m_codeTo f_m_code f_m_codeArg f_m_newLetter f_m_newSum f_m_newFrom f_m_newTo f_m_newCode f_m_newArg f_m_stack f_14 f_12 f_13 f_m_packPounds f_m_packOwner f_m_room f_m_givenTo f_m_canBe f_m_setPounds f_m_plainTime f_m_muleTime f_m_planTo f_m_march f_m_tired f_m_ranMinutes f_m_tiredAhead f_m_isReached f_m_toEnd f_m_upTo f_m_upNext f_m_byChanges f_m_bandPaces H.size l_15 r_26 i (by omega) (by omega) (by omega) hr_m_weight hr_m_isLame hr_m_miles hL2_23_0 (by omega) (by omega) hwf) (gi_V lwd_604 lwd_605 lwd_606 lwd_5 lwd_607) ⟨rfl, hd_X10_laysWalker⟩ ⟨Nat.le_of_ble_eq_true rfl, Nat.le_of_ble_eq_true rfl⟩ rfl (Nat.le_of_ble_eq_true rfl) dX10_lays_18) (fun u_28 H locs hw hP hD hS => ?_)
        obtain ⟨zatW_30, zatL_31, zatT_32, zatH_33, zatM_34, zatI_35, zatQ_36, zworth_37, zisRefused_38, zleast_39⟩ := u_28
        try dsimp only at hw hP hD
        obtain ⟨p_40, p_41⟩ := hw
        obtain ⟨n_42, en_42⟩ : ∃ y : Int32, y = l_15 + 1 := ⟨_, rfl⟩
        have tn_42 : n_42.toInt = l_15.toInt + 1 := i_add en_42 (rfl : l_15.toInt = l_15.toInt) (by decide : (1 : Int32).toInt = 1) (by omega) (by omega)
        refine lv_iinc (v := n_42) (lv' := [(3, .int n_42), (0, .ref (hm 0)), (1, .int i), (2, .int all)]) hx hb dX10_lays_21 hl (k := 0) rfl (by rw [en_42]; rfl) (by decide) rfl (fun ls hl => ?_)
        refine lv_goto (tgt := 2) hx hb dX10_lays_24 (by decide) ?_
        exact ih2_23 zisRefused_38 zleast_39 zworth_37 n_42 zatH_33 zatI_35 zatL_31 zatM_34 zatQ_36 zatT_32 zatW_30 p_41 (by omega) (by omega) (by omega) _ _ _ hP hD hS (lv_sub hl [0, 1, 2, 3] rfl)
  have k_43 : (0 : Int32).toInt = 0 := by decide
  exact L2_23 8589934592 f_m_isRefused f_m_least f_m_worth 0 v_atH v_atI v_atL v_atM v_atQ v_atT v_atW hr_m_isRefused (by omega) (by omega) (by omega) _ _ _ hP hD hS (lv_sub hl [0, 1, 2, 3] rfl)
set_option maxHeartbeats 16000000 in
set_option maxRecDepth 100000 in
theorem c_X10_carryAt (l : Launch) (D : va_G) (cy : Nat → ClassId) (hm : Nat → Nat) (v_taped v_walkers v_loads v_pieces v_changeCosts v_planned v_isMarch v_clauseMany v_place v_end v_bad v_clauses v_codes v_open v_stacked v_isOver v_isBehind v_atW v_atL v_atT v_atH v_atM v_atI v_atQ v_packing v_packed v_goPace v_goMinutes v_spentAt v_ranChanges : Int32) (f_m_tape f_m_knee f_m_weight f_m_isLame f_m_loadWeight f_m_owner f_m_food f_m_miles f_m_slope f_m_clauseLetter f_m_sumFrom f_m_codeFrom f_m_codeTo f_m_code f_m_codeArg f_m_newLetter f_m_newSum f_m_newFrom f_m_newTo f_m_newCode f_m_newArg f_m_stack f_m_worth f_m_isRefused f_m_least f_m_packPounds f_m_packOwner f_m_room f_m_givenTo f_m_canBe f_m_setPounds f_m_plainTime f_m_muleTime f_m_planTo f_m_march f_m_tired f_m_ranMinutes f_m_tiredAhead f_m_isReached f_m_toEnd f_m_upTo f_m_upNext f_m_byChanges f_m_bandPaces : Nat → Int32) (sz : Nat) (w : Int32) (q : Int32) (bt : Int32) (ha_w : 0 ≤ w.toInt ∧ w.toInt ≤ 5) : gMi l yX10_carryAt cX10_carryAt 8 .int 1 [.ref (hm 0), .int w, .int q, .int bt] D cy (wMD cy hm v_taped v_walkers v_loads v_pieces v_changeCosts v_planned v_isMarch v_clauseMany v_place v_end v_bad v_clauses v_codes v_open v_stacked v_isOver v_isBehind v_atW v_atL v_atT v_atH v_atM v_atI v_atQ v_packing v_packed v_goPace v_goMinutes v_spentAt v_ranChanges f_m_tape f_m_knee f_m_weight f_m_isLame f_m_loadWeight f_m_owner f_m_food f_m_miles f_m_slope f_m_clauseLetter f_m_sumFrom f_m_codeFrom f_m_codeTo f_m_code f_m_codeArg f_m_newLetter f_m_newSum f_m_newFrom f_m_newTo f_m_newCode f_m_newArg f_m_stack f_m_worth f_m_isRefused f_m_least f_m_packPounds f_m_packOwner f_m_room f_m_givenTo f_m_canBe f_m_setPounds f_m_plainTime f_m_muleTime f_m_planTo f_m_march f_m_tired f_m_ranMinutes f_m_tiredAhead f_m_isReached f_m_toEnd f_m_upTo f_m_upNext f_m_byChanges f_m_bandPaces) NT sz (fun (r : Int32) (u : Unit) => (-1 ≤ r.toInt ∧ r.toInt ≤ 400) ∧ (r.toInt = capF f_m_least q bt w.toNatClampNeg)) (fun u => wMD cy hm v_taped v_walkers v_loads v_pieces v_changeCosts v_planned v_isMarch v_clauseMany v_place v_end v_bad v_clauses v_codes v_open v_stacked v_isOver v_isBehind v_atW v_atL v_atT v_atH v_atM v_atI v_atQ v_packing v_packed v_goPace v_goMinutes v_spentAt v_ranChanges f_m_tape f_m_knee f_m_weight f_m_isLame f_m_loadWeight f_m_owner f_m_food f_m_miles f_m_slope f_m_clauseLetter f_m_sumFrom f_m_codeFrom f_m_codeTo f_m_code f_m_codeArg f_m_newLetter f_m_newSum f_m_newFrom f_m_newTo f_m_newCode f_m_newArg f_m_stack f_m_worth f_m_isRefused f_m_least f_m_packPounds f_m_packOwner f_m_room f_m_givenTo f_m_canBe f_m_setPounds f_m_plainTime f_m_muleTime f_m_planTo f_m_march f_m_tired f_m_ranMinutes f_m_tiredAhead f_m_isReached f_m_toEnd f_m_upTo f_m_upNext f_m_byChanges f_m_bandPaces) := by
  refine gMi_in (by decide) (Nat.le_of_ble_eq_true rfl) ?_
  intro p e s m args below meth c A ls Q hx hb hml hts hown hsz hP hK hD hN hAe hA hS hl hret
  subst hsz
  have hl : lv_has ls 8 [(0, .ref (hm 0)), (1, .int w), (2, .int q), (3, .int bt)] := hl
  have hrt := fun (r : Int32)  (hp : (-1 ≤ r.toInt ∧ r.toInt ≤ 400) ∧ (r.toInt = capF f_m_least q bt w.toNatClampNeg)) {H : Heap} {locs : List Loc} {pc : Nat} {ls : Array Slot} => hret r () (H := H) (locs := locs) (pc := pc) (ls := ls) hp
  clear hret
  refine lv_iload_n hx hb dX10_carryAt_0 rfl (lv_at hl 1 rfl) ?_
  refine lv_iload_n hx hb dX10_carryAt_1 rfl (lv_at hl 3 rfl) ?_
  refine lv_icmp_ne (tgt := 11) hx hb dX10_carryAt_2 (by decide) (fun c_1 => ?_) (fun c_1 => ?_)
  · have gc_1 : w.toInt ≠ bt.toInt := i_ne (rfl : w.toInt = w.toInt) (rfl : bt.toInt = bt.toInt) c_1
    refine lv_iload_n hx hb dX10_carryAt_11 rfl (lv_at hl 2 rfl) ?_
    refine lv_istore (lv' := [(4, .int q), (0, .ref (hm 0)), (1, .int w), (2, .int q), (3, .int bt)]) hx hb dX10_carryAt_12 hl (by decide) rfl (fun ls hl => ?_)
    refine lv_iconst (v := 0) hx hb dX10_carryAt_14 (by decide) ?_
    refine lv_istore (lv' := [(5, .int 0), (4, .int q), (0, .ref (hm 0)), (1, .int w), (2, .int q), (3, .int bt)]) hx hb dX10_carryAt_15 hl (by decide) rfl (fun ls hl => ?_)
    refine lv_sipush (v := 401) hx hb dX10_carryAt_17 (by decide) ?_
    refine lv_istore (lv' := [(6, .int 401), (5, .int 0), (4, .int q), (0, .ref (hm 0)), (1, .int w), (2, .int q), (3, .int bt)]) hx hb dX10_carryAt_20 hl (by decide) rfl (fun ls hl => ?_)
    have L22_6 : ∀ (n : Nat) (l_4 : Int32) (l_5 : Int32), (0 ≤ l_4.toInt ∧ l_4.toInt ≤ 401) → (0 ≤ l_5.toInt ∧ l_5.toInt ≤ 401) → (l_4.toInt ≤ l_5.toInt) → (bsF f_m_least q.toInt (401 * w.toInt) 0 401 = bsF f_m_least q.toInt (401 * w.toInt) l_4.toInt l_5.toInt) → l_5.toInt - l_4.toInt < n → ∀ (H : Heap) (locs : List Loc) (ls : Array Slot), va_P D vwCl (wMD cy hm v_taped v_walkers v_loads v_pieces v_changeCosts v_planned v_isMarch v_clauseMany v_place v_end v_bad v_clauses v_codes v_open v_stacked v_isOver v_isBehind v_atW v_atL v_atT v_atH v_atM v_atI v_atQ v_packing v_packed v_goPace v_goMinutes v_spentAt v_ranChanges f_m_tape f_m_knee f_m_weight f_m_isLame f_m_loadWeight f_m_owner f_m_food f_m_miles f_m_slope f_m_clauseLetter f_m_sumFrom f_m_codeFrom f_m_codeTo f_m_code f_m_codeArg f_m_newLetter f_m_newSum f_m_newFrom f_m_newTo f_m_newCode f_m_newArg f_m_stack f_m_worth f_m_isRefused f_m_least f_m_packPounds f_m_packOwner f_m_room f_m_givenTo f_m_canBe f_m_setPounds f_m_plainTime f_m_muleTime f_m_planTo f_m_march f_m_tired f_m_ranMinutes f_m_tiredAhead f_m_isReached f_m_toEnd f_m_upTo f_m_upNext f_m_byChanges f_m_bandPaces) H → va_D A (wMD cy hm v_taped v_walkers v_loads v_pieces v_changeCosts v_planned v_isMarch v_clauseMany v_place v_end v_bad v_clauses v_codes v_open v_stacked v_isOver v_isBehind v_atW v_atL v_atT v_atH v_atM v_atI v_atQ v_packing v_packed v_goPace v_goMinutes v_spentAt v_ranChanges f_m_tape f_m_knee f_m_weight f_m_isLame f_m_loadWeight f_m_owner f_m_food f_m_miles f_m_slope f_m_clauseLetter f_m_sumFrom f_m_codeFrom f_m_codeTo f_m_code f_m_codeArg f_m_newLetter f_m_newSum f_m_newFrom f_m_newTo f_m_newCode f_m_newArg f_m_stack f_m_worth f_m_isRefused f_m_least f_m_packPounds f_m_packOwner f_m_room f_m_givenTo f_m_canBe f_m_setPounds f_m_plainTime f_m_muleTime f_m_planTo f_m_march f_m_tired f_m_ranMinutes f_m_tiredAhead f_m_isReached f_m_toEnd f_m_upTo f_m_upNext f_m_byChanges f_m_bandPaces) → va_S A s.heap H locs → lv_has ls 8 [(6, .int l_5), (5, .int l_4), (4, .int q), (0, .ref (hm 0)), (1, .int w), (2, .int q), (3, .int bt)] → W p l e (gRm 1) s m args below meth c H locs 0 0 Q (F0 m 22 ls []) := by
      intro n
      induction n with
      | zero => intro l_4 l_5 hL22_6_0 hL22_6_1 hL22_6_2 hL22_6_3 hm; exact absurd hm (by omega)
      | succ n ih22_6 =>
        intro l_4 l_5 hL22_6_0 hL22_6_1 hL22_6_2 hL22_6_3 hmL22_6 H locs ls hP hD hS hl
        refine lv_iload hx hb dX10_carryAt_22 (lv_at hl 1 rfl) ?_
        refine lv_iload hx hb dX10_carryAt_24 (lv_at hl 0 rfl) ?_
        refine lv_icmp_ge (tgt := 72) hx hb dX10_carryAt_26 (by decide) (fun c_7 => ?_) (fun c_7 => ?_)
        · have gc_7 : l_5.toInt ≤ l_4.toInt := i_le (rfl : l_5.toInt = l_5.toInt) (rfl : l_4.toInt = l_4.toInt) c_7
          refine lv_iload hx hb dX10_carryAt_72 (lv_at hl 1 rfl) ?_
          refine lv_iconst (v := 1) hx hb dX10_carryAt_74 (by decide) ?_
          refine lv_isub hx hb dX10_carryAt_75 ?_
          refine lv_topi (fun n_8 en_8 => ?_)
          have tn_8 : n_8.toInt = l_4.toInt - 1 := i_sub en_8 (rfl : l_4.toInt = l_4.toInt) (by decide : (1 : Int32).toInt = 1) (by omega) (by omega)
          exact hrt n_8  ⟨(by omega), (by
            unfold capF
            rw [show ((w.toNatClampNeg : Nat) : Int) = w.toInt from by rw [i_ix (rfl : w.toInt = w.toInt)]; omega]
            have h9 := hL22_6_3
            rw [bsF_end (lo := l_4.toInt) (hi := l_5.toInt) (by omega)] at h9
            rw [if_neg (by omega)]; omega)⟩ hP hD hS rfl dX10_carryAt_76
        · have gc_7 : l_4.toInt < l_5.toInt := i_nle (rfl : l_5.toInt = l_5.toInt) (rfl : l_4.toInt = l_4.toInt) c_7
          refine lv_iload hx hb dX10_carryAt_29 (lv_at hl 1 rfl) ?_
          refine lv_iload hx hb dX10_carryAt_31 (lv_at hl 0 rfl) ?_
          refine lv_iadd hx hb dX10_carryAt_33 ?_
          refine lv_topi (fun n_9 en_9 => ?_)
          have tn_9 : n_9.toInt = l_4.toInt + l_5.toInt := i_add en_9 (rfl : l_4.toInt = l_4.toInt) (rfl : l_5.toInt = l_5.toInt) (by omega) (by omega)
          refine lv_iconst (v := 2) hx hb dX10_carryAt_34 (by decide) ?_
          refine lv_idiv hx hb dX10_carryAt_35 (by decide) ?_
          refine lv_topi (fun n_10 en_10 => ?_)
          have tn_10 : n_10.toInt = (l_4.toInt + l_5.toInt) / 2 := i_div en_10 tn_9 (by decide : (2 : Int32).toInt = 2) (by omega) (by omega)
          refine lv_istore (lv' := [(7, .int n_10), (6, .int l_5), (5, .int l_4), (4, .int q), (0, .ref (hm 0)), (1, .int w), (2, .int q), (3, .int bt)]) hx hb dX10_carryAt_36 hl (by decide) rfl (fun ls hl => ?_)
          refine lv_aload_n hx hb dX10_carryAt_38 rfl (lv_at hl 4 rfl) ?_
          refine gt_MD_MD_least hx hb hts hown hK hP lwd_180 dX10_carryAt_39 ?_
          refine lv_sipush (v := 401) hx hb dX10_carryAt_42 (by decide) ?_
          refine lv_iload_n hx hb dX10_carryAt_45 rfl (lv_at hl 5 rfl) ?_
          refine lv_imul hx hb dX10_carryAt_46 ?_
          refine lv_topi (fun n_11 en_11 => ?_)
          have tn_11 : n_11.toInt = 401 * w.toInt := i_mul en_11 (by decide : (401 : Int32).toInt = 401) (rfl : w.toInt = w.toInt) (by omega) (by omega)
          refine lv_iload hx hb dX10_carryAt_47 (lv_at hl 0 rfl) ?_
          refine lv_iadd hx hb dX10_carryAt_49 ?_
          refine lv_topi (fun n_12 en_12 => ?_)
          have tn_12 : n_12.toInt = (401 * w.toInt) + ((l_4.toInt + l_5.toInt) / 2) := i_add en_12 tn_11 tn_10 (by omega) (by omega)
          refine al_m_least hx hb hK hP (i_in tn_12 (by omega) (by omega)) dX10_carryAt_50 (fun n_13 en_13 => ?_)
          refine lv_iload hx hb dX10_carryAt_51 (lv_at hl 3 rfl) ?_
          refine lv_icmp_lt (tgt := 65) hx hb dX10_carryAt_53 (by decide) (fun c_14 => ?_) (fun c_14 => ?_)
          · have gc_14 : n_13.toInt < q.toInt := i_lt (rfl : n_13.toInt = n_13.toInt) (rfl : q.toInt = q.toInt) c_14
            refine lv_iload hx hb dX10_carryAt_65 (lv_at hl 0 rfl) ?_
            refine lv_istore (lv' := [(6, .int n_10), (7, .int n_10), (5, .int l_4), (4, .int q), (0, .ref (hm 0)), (1, .int w), (2, .int q), (3, .int bt)]) hx hb dX10_carryAt_67 hl (by decide) rfl (fun ls hl => ?_)
            refine lv_goto (tgt := 22) hx hb dX10_carryAt_69 (by decide) ?_
            exact ih22_6 l_4 n_10 (by omega) (by omega) (by omega) ((hL22_6_3).trans (bsF_lo (y := n_13) (k := n_12.toNatClampNeg) (mid := n_10.toInt) (by omega) (by omega) (by rw [i_ix (rfl : n_12.toInt = n_12.toInt)]; omega) en_13 (by omega))) (by omega) _ _ _ hP hD hS (lv_sub hl [0, 2, 3, 4, 5, 6, 7] rfl)
          · have gc_14 : q.toInt ≤ n_13.toInt := i_nlt (rfl : n_13.toInt = n_13.toInt) (rfl : q.toInt = q.toInt) c_14
            refine lv_iload hx hb dX10_carryAt_56 (lv_at hl 0 rfl) ?_
            refine lv_iconst (v := 1) hx hb dX10_carryAt_58 (by decide) ?_
            refine lv_iadd hx hb dX10_carryAt_59 ?_
            refine lv_topi (fun n_15 en_15 => ?_)
            have tn_15 : n_15.toInt = ((l_4.toInt + l_5.toInt) / 2) + 1 := i_add en_15 tn_10 (by decide : (1 : Int32).toInt = 1) (by omega) (by omega)
            refine lv_istore (lv' := [(5, .int n_15), (7, .int n_10), (6, .int l_5), (4, .int q), (0, .ref (hm 0)), (1, .int w), (2, .int q), (3, .int bt)]) hx hb dX10_carryAt_60 hl (by decide) rfl (fun ls hl => ?_)
            refine lv_goto (tgt := 69) hx hb dX10_carryAt_62 (by decide) ?_
            refine lv_goto (tgt := 22) hx hb dX10_carryAt_69 (by decide) ?_
            exact ih22_6 n_15 l_5 (by omega) (by omega) (by omega) ((hL22_6_3).trans (bsF_hi (y := n_13) (k := n_12.toNatClampNeg) (mid := n_10.toInt) (by omega) (by omega) (by rw [i_ix (rfl : n_12.toInt = n_12.toInt)]; omega) en_13 (by omega) (by omega))) (by omega) _ _ _ hP hD hS (lv_sub hl [2, 0, 3, 4, 5, 6, 7] rfl)
    have k_16 : (0 : Int32).toInt = 0 := by decide
    have k_17 : (401 : Int32).toInt = 401 := by decide
    exact L22_6 8589934592 0 401 (by omega) (by omega) (by omega) rfl (by omega) _ _ _ hP hD hS (lv_sub hl [0, 1, 2, 3, 4, 5, 6] rfl)
  · have gc_1 : w.toInt = bt.toInt := i_eq (rfl : w.toInt = w.toInt) (rfl : bt.toInt = bt.toInt) c_1
    refine lv_iload_n hx hb dX10_carryAt_5 rfl (lv_at hl 2 rfl) ?_
    refine lv_iconst (v := 1) hx hb dX10_carryAt_6 (by decide) ?_
    refine lv_isub hx hb dX10_carryAt_7 ?_
    refine lv_topi (fun n_18 en_18 => ?_)
    refine lv_goto (tgt := 12) hx hb dX10_carryAt_8 (by decide) ?_
    refine lv_istore (lv' := [(4, .int n_18), (0, .ref (hm 0)), (1, .int w), (2, .int q), (3, .int bt)]) hx hb dX10_carryAt_12 hl (by decide) rfl (fun ls hl => ?_)
    refine lv_iconst (v := 0) hx hb dX10_carryAt_14 (by decide) ?_
    refine lv_istore (lv' := [(5, .int 0), (4, .int n_18), (0, .ref (hm 0)), (1, .int w), (2, .int q), (3, .int bt)]) hx hb dX10_carryAt_15 hl (by decide) rfl (fun ls hl => ?_)
    refine lv_sipush (v := 401) hx hb dX10_carryAt_17 (by decide) ?_
    refine lv_istore (lv' := [(6, .int 401), (5, .int 0), (4, .int n_18), (0, .ref (hm 0)), (1, .int w), (2, .int q), (3, .int bt)]) hx hb dX10_carryAt_20 hl (by decide) rfl (fun ls hl => ?_)
    have L22_23 : ∀ (n : Nat) (l_21 : Int32) (l_22 : Int32), (0 ≤ l_21.toInt ∧ l_21.toInt ≤ 401) → (0 ≤ l_22.toInt ∧ l_22.toInt ≤ 401) → (l_21.toInt ≤ l_22.toInt) → (bsF f_m_least n_18.toInt (401 * w.toInt) 0 401 = bsF f_m_least n_18.toInt (401 * w.toInt) l_21.toInt l_22.toInt) → l_22.toInt - l_21.toInt < n → ∀ (H : Heap) (locs : List Loc) (ls : Array Slot), va_P D vwCl (wMD cy hm v_taped v_walkers v_loads v_pieces v_changeCosts v_planned v_isMarch v_clauseMany v_place v_end v_bad v_clauses v_codes v_open v_stacked v_isOver v_isBehind v_atW v_atL v_atT v_atH v_atM v_atI v_atQ v_packing v_packed v_goPace v_goMinutes v_spentAt v_ranChanges f_m_tape f_m_knee f_m_weight f_m_isLame f_m_loadWeight f_m_owner f_m_food f_m_miles f_m_slope f_m_clauseLetter f_m_sumFrom f_m_codeFrom f_m_codeTo f_m_code f_m_codeArg f_m_newLetter f_m_newSum f_m_newFrom f_m_newTo f_m_newCode f_m_newArg f_m_stack f_m_worth f_m_isRefused f_m_least f_m_packPounds f_m_packOwner f_m_room f_m_givenTo f_m_canBe f_m_setPounds f_m_plainTime f_m_muleTime f_m_planTo f_m_march f_m_tired f_m_ranMinutes f_m_tiredAhead f_m_isReached f_m_toEnd f_m_upTo f_m_upNext f_m_byChanges f_m_bandPaces) H → va_D A (wMD cy hm v_taped v_walkers v_loads v_pieces v_changeCosts v_planned v_isMarch v_clauseMany v_place v_end v_bad v_clauses v_codes v_open v_stacked v_isOver v_isBehind v_atW v_atL v_atT v_atH v_atM v_atI v_atQ v_packing v_packed v_goPace v_goMinutes v_spentAt v_ranChanges f_m_tape f_m_knee f_m_weight f_m_isLame f_m_loadWeight f_m_owner f_m_food f_m_miles f_m_slope f_m_clauseLetter f_m_sumFrom f_m_codeFrom f_m_codeTo f_m_code f_m_codeArg f_m_newLetter f_m_newSum f_m_newFrom f_m_newTo f_m_newCode f_m_newArg f_m_stack f_m_worth f_m_isRefused f_m_least f_m_packPounds f_m_packOwner f_m_room f_m_givenTo f_m_canBe f_m_setPounds f_m_plainTime f_m_muleTime f_m_planTo f_m_march f_m_tired f_m_ranMinutes f_m_tiredAhead f_m_isReached f_m_toEnd f_m_upTo f_m_upNext f_m_byChanges f_m_bandPaces) → va_S A s.heap H locs → lv_has ls 8 [(6, .int l_22), (5, .int l_21), (4, .int n_18), (0, .ref (hm 0)), (1, .int w), (2, .int q), (3, .int bt)] → W p l e (gRm 1) s m args below meth c H locs 0 0 Q (F0 m 22 ls []) := by
      intro n
      induction n with
      | zero => intro l_21 l_22 hL22_23_0 hL22_23_1 hL22_23_2 hL22_23_3 hm; exact absurd hm (by omega)
      | succ n ih22_23 =>
        intro l_21 l_22 hL22_23_0 hL22_23_1 hL22_23_2 hL22_23_3 hmL22_23 H locs ls hP hD hS hl
        refine lv_iload hx hb dX10_carryAt_22 (lv_at hl 1 rfl) ?_
        refine lv_iload hx hb dX10_carryAt_24 (lv_at hl 0 rfl) ?_
        refine lv_icmp_ge (tgt := 72) hx hb dX10_carryAt_26 (by decide) (fun c_24 => ?_) (fun c_24 => ?_)
        · have gc_24 : l_22.toInt ≤ l_21.toInt := i_le (rfl : l_22.toInt = l_22.toInt) (rfl : l_21.toInt = l_21.toInt) c_24
          refine lv_iload hx hb dX10_carryAt_72 (lv_at hl 1 rfl) ?_
          refine lv_iconst (v := 1) hx hb dX10_carryAt_74 (by decide) ?_
          refine lv_isub hx hb dX10_carryAt_75 ?_
          refine lv_topi (fun n_25 en_25 => ?_)
          have tn_25 : n_25.toInt = l_21.toInt - 1 := i_sub en_25 (rfl : l_21.toInt = l_21.toInt) (by decide : (1 : Int32).toInt = 1) (by omega) (by omega)
          exact hrt n_25  ⟨(by omega), (by
            unfold capF
            rw [show ((w.toNatClampNeg : Nat) : Int) = w.toInt from by rw [i_ix (rfl : w.toInt = w.toInt)]; omega]
            have h9 := hL22_23_3
            rw [bsF_end (lo := l_21.toInt) (hi := l_22.toInt) (by omega)] at h9
            rw [if_pos (by omega), ← en_18]; omega)⟩ hP hD hS rfl dX10_carryAt_76
        · have gc_24 : l_21.toInt < l_22.toInt := i_nle (rfl : l_22.toInt = l_22.toInt) (rfl : l_21.toInt = l_21.toInt) c_24
          refine lv_iload hx hb dX10_carryAt_29 (lv_at hl 1 rfl) ?_
          refine lv_iload hx hb dX10_carryAt_31 (lv_at hl 0 rfl) ?_
          refine lv_iadd hx hb dX10_carryAt_33 ?_
          refine lv_topi (fun n_26 en_26 => ?_)
          have tn_26 : n_26.toInt = l_21.toInt + l_22.toInt := i_add en_26 (rfl : l_21.toInt = l_21.toInt) (rfl : l_22.toInt = l_22.toInt) (by omega) (by omega)
          refine lv_iconst (v := 2) hx hb dX10_carryAt_34 (by decide) ?_
          refine lv_idiv hx hb dX10_carryAt_35 (by decide) ?_
          refine lv_topi (fun n_27 en_27 => ?_)
          have tn_27 : n_27.toInt = (l_21.toInt + l_22.toInt) / 2 := i_div en_27 tn_26 (by decide : (2 : Int32).toInt = 2) (by omega) (by omega)
          refine lv_istore (lv' := [(7, .int n_27), (6, .int l_22), (5, .int l_21), (4, .int n_18), (0, .ref (hm 0)), (1, .int w), (2, .int q), (3, .int bt)]) hx hb dX10_carryAt_36 hl (by decide) rfl (fun ls hl => ?_)
          refine lv_aload_n hx hb dX10_carryAt_38 rfl (lv_at hl 4 rfl) ?_
          refine gt_MD_MD_least hx hb hts hown hK hP lwd_180 dX10_carryAt_39 ?_
          refine lv_sipush (v := 401) hx hb dX10_carryAt_42 (by decide) ?_
          refine lv_iload_n hx hb dX10_carryAt_45 rfl (lv_at hl 5 rfl) ?_
          refine lv_imul hx hb dX10_carryAt_46 ?_
          refine lv_topi (fun n_28 en_28 => ?_)
          have tn_28 : n_28.toInt = 401 * w.toInt := i_mul en_28 (by decide : (401 : Int32).toInt = 401) (rfl : w.toInt = w.toInt) (by omega) (by omega)
          refine lv_iload hx hb dX10_carryAt_47 (lv_at hl 0 rfl) ?_
          refine lv_iadd hx hb dX10_carryAt_49 ?_
          refine lv_topi (fun n_29 en_29 => ?_)
          have tn_29 : n_29.toInt = (401 * w.toInt) + ((l_21.toInt + l_22.toInt) / 2) := i_add en_29 tn_28 tn_27 (by omega) (by omega)
          refine al_m_least hx hb hK hP (i_in tn_29 (by omega) (by omega)) dX10_carryAt_50 (fun n_30 en_30 => ?_)
          refine lv_iload hx hb dX10_carryAt_51 (lv_at hl 3 rfl) ?_
          refine lv_icmp_lt (tgt := 65) hx hb dX10_carryAt_53 (by decide) (fun c_31 => ?_) (fun c_31 => ?_)
          · have gc_31 : n_30.toInt < n_18.toInt := i_lt (rfl : n_30.toInt = n_30.toInt) (rfl : n_18.toInt = n_18.toInt) c_31
            refine lv_iload hx hb dX10_carryAt_65 (lv_at hl 0 rfl) ?_
            refine lv_istore (lv' := [(6, .int n_27), (7, .int n_27), (5, .int l_21), (4, .int n_18), (0, .ref (hm 0)), (1, .int w), (2, .int q), (3, .int bt)]) hx hb dX10_carryAt_67 hl (by decide) rfl (fun ls hl => ?_)
            refine lv_goto (tgt := 22) hx hb dX10_carryAt_69 (by decide) ?_
            exact ih22_23 l_21 n_27 (by omega) (by omega) (by omega) ((hL22_23_3).trans (bsF_lo (y := n_30) (k := n_29.toNatClampNeg) (mid := n_27.toInt) (by omega) (by omega) (by rw [i_ix (rfl : n_29.toInt = n_29.toInt)]; omega) en_30 (by omega))) (by omega) _ _ _ hP hD hS (lv_sub hl [0, 2, 3, 4, 5, 6, 7] rfl)
          · have gc_31 : n_18.toInt ≤ n_30.toInt := i_nlt (rfl : n_30.toInt = n_30.toInt) (rfl : n_18.toInt = n_18.toInt) c_31
            refine lv_iload hx hb dX10_carryAt_56 (lv_at hl 0 rfl) ?_
            refine lv_iconst (v := 1) hx hb dX10_carryAt_58 (by decide) ?_
            refine lv_iadd hx hb dX10_carryAt_59 ?_
            refine lv_topi (fun n_32 en_32 => ?_)
            have tn_32 : n_32.toInt = ((l_21.toInt + l_22.toInt) / 2) + 1 := i_add en_32 tn_27 (by decide : (1 : Int32).toInt = 1) (by omega) (by omega)
            refine lv_istore (lv' := [(5, .int n_32), (7, .int n_27), (6, .int l_22), (4, .int n_18), (0, .ref (hm 0)), (1, .int w), (2, .int q), (3, .int bt)]) hx hb dX10_carryAt_60 hl (by decide) rfl (fun ls hl => ?_)
            refine lv_goto (tgt := 69) hx hb dX10_carryAt_62 (by decide) ?_
            refine lv_goto (tgt := 22) hx hb dX10_carryAt_69 (by decide) ?_
            exact ih22_23 n_32 l_22 (by omega) (by omega) (by omega) ((hL22_23_3).trans (bsF_hi (y := n_30) (k := n_29.toNatClampNeg) (mid := n_27.toInt) (by omega) (by omega) (by rw [i_ix (rfl : n_29.toInt = n_29.toInt)]; omega) en_30 (by omega) (by omega))) (by omega) _ _ _ hP hD hS (lv_sub hl [2, 0, 3, 4, 5, 6, 7] rfl)
    have k_33 : (0 : Int32).toInt = 0 := by decide
    have k_34 : (401 : Int32).toInt = 401 := by decide
    exact L22_23 8589934592 0 401 (by omega) (by omega) (by omega) rfl (by omega) _ _ _ hP hD hS (lv_sub hl [0, 1, 2, 3, 4, 5, 6] rfl)
set_option maxHeartbeats 16000000 in
set_option maxRecDepth 100000 in
theorem c_X10_carry (l : Launch) (D : va_G) (cy : Nat → ClassId) (hm : Nat → Nat) (v_taped v_walkers v_loads v_pieces v_changeCosts v_planned v_isMarch v_clauseMany v_place v_end v_bad v_clauses v_codes v_open v_stacked v_isOver v_isBehind v_atW v_atL v_atT v_atH v_atM v_atI v_atQ v_packing v_packed v_goPace v_goMinutes v_spentAt v_ranChanges : Int32) (f_m_tape f_m_knee f_m_weight f_m_isLame f_m_loadWeight f_m_owner f_m_food f_m_miles f_m_slope f_m_clauseLetter f_m_sumFrom f_m_codeFrom f_m_codeTo f_m_code f_m_codeArg f_m_newLetter f_m_newSum f_m_newFrom f_m_newTo f_m_newCode f_m_newArg f_m_stack f_m_worth f_m_isRefused f_m_least f_m_packPounds f_m_packOwner f_m_room f_m_givenTo f_m_canBe f_m_setPounds f_m_plainTime f_m_muleTime f_m_planTo f_m_march f_m_tired f_m_ranMinutes f_m_tiredAhead f_m_isReached f_m_toEnd f_m_upTo f_m_upNext f_m_byChanges f_m_bandPaces : Nat → Int32) (sz : Nat) (w : Int32) (q : Int32) (t : Int32) (i : Int32) (hb_v_walkers : 0 ≤ v_walkers.toInt ∧ v_walkers.toInt ≤ 6) (hb_v_pieces : 0 ≤ v_pieces.toInt ∧ v_pieces.toInt ≤ 10) (hb_v_clauseMany : 0 ≤ v_clauseMany.toInt ∧ v_clauseMany.toInt ≤ 14) (hb_v_atW : 0 ≤ v_atW.toInt ∧ v_atW.toInt ≤ 5) (hr_m_weight : rg (0) 250 f_m_weight) (hr_m_isLame : rg (0) 1 f_m_isLame) (hr_m_miles : rg (0) 20 f_m_miles) (hr_m_isRefused : rg (0) 1 f_m_isRefused) (hwf : wfC v_clauseMany f_m_sumFrom f_m_codeFrom f_m_codeTo f_m_code) : gMi l yX10_carry cX10_carry 5 .int 7 [.ref (hm 0), .int w, .int q, .int t, .int i] D cy (wMD cy hm v_taped v_walkers v_loads v_pieces v_changeCosts v_planned v_isMarch v_clauseMany v_place v_end v_bad v_clauses v_codes v_open v_stacked v_isOver v_isBehind v_atW v_atL v_atT v_atH v_atM v_atI v_atQ v_packing v_packed v_goPace v_goMinutes v_spentAt v_ranChanges f_m_tape f_m_knee f_m_weight f_m_isLame f_m_loadWeight f_m_owner f_m_food f_m_miles f_m_slope f_m_clauseLetter f_m_sumFrom f_m_codeFrom f_m_codeTo f_m_code f_m_codeArg f_m_newLetter f_m_newSum f_m_newFrom f_m_newTo f_m_newCode f_m_newArg f_m_stack f_m_worth f_m_isRefused f_m_least f_m_packPounds f_m_packOwner f_m_room f_m_givenTo f_m_canBe f_m_setPounds f_m_plainTime f_m_muleTime f_m_planTo f_m_march f_m_tired f_m_ranMinutes f_m_tiredAhead f_m_isReached f_m_toEnd f_m_upTo f_m_upNext f_m_byChanges f_m_bandPaces) NT sz (fun (r : Int32) (u : Int32 × Int32 × Int32 × Int32 × Int32 × Int32 × Int32 × (Nat → Int32) × (Nat → Int32) × (Nat → Int32)) => (0 ≤ (u.1).toInt ∧ (u.1).toInt ≤ 5) ∧ (rg (0) 1 (u.2.2.2.2.2.2.2.2.1))) (fun u => wMD cy hm v_taped v_walkers v_loads v_pieces v_changeCosts v_planned v_isMarch v_clauseMany v_place v_end v_bad v_clauses v_codes v_open v_stacked v_isOver v_isBehind (u.1) (u.2.1) (u.2.2.1) (u.2.2.2.1) (u.2.2.2.2.1) (u.2.2.2.2.2.1) (u.2.2.2.2.2.2.1) v_packing v_packed v_goPace v_goMinutes v_spentAt v_ranChanges f_m_tape f_m_knee f_m_weight f_m_isLame f_m_loadWeight f_m_owner f_m_food f_m_miles f_m_slope f_m_clauseLetter f_m_sumFrom f_m_codeFrom f_m_codeTo f_m_code f_m_codeArg f_m_newLetter f_m_newSum f_m_newFrom f_m_newTo f_m_newCode f_m_newArg f_m_stack (u.2.2.2.2.2.2.2.1) (u.2.2.2.2.2.2.2.2.1) (u.2.2.2.2.2.2.2.2.2) f_m_packPounds f_m_packOwner f_m_room f_m_givenTo f_m_canBe f_m_setPounds f_m_plainTime f_m_muleTime f_m_planTo f_m_march f_m_tired f_m_ranMinutes f_m_tiredAhead f_m_isReached f_m_toEnd f_m_upTo f_m_upNext f_m_byChanges f_m_bandPaces) := by
  refine gMi_in (by decide) (Nat.le_of_ble_eq_true rfl) ?_
  intro p e s m args below meth c A ls Q hx hb hml hts hown hsz hP hK hD hN hAe hA hS hl hret
  subst hsz
  have hl : lv_has ls 5 [(0, .ref (hm 0)), (1, .int w), (2, .int q), (3, .int t), (4, .int i)] := hl
  have hrt := fun (r : Int32) (v_atW' : Int32) (v_atL' : Int32) (v_atT' : Int32) (v_atH' : Int32) (v_atM' : Int32) (v_atI' : Int32) (v_atQ' : Int32) (f_m_worth' : Nat → Int32) (f_m_isRefused' : Nat → Int32) (f_m_least' : Nat → Int32) (hp : (0 ≤ v_atW'.toInt ∧ v_atW'.toInt ≤ 5) ∧ (rg (0) 1 f_m_isRefused')) {H : Heap} {locs : List Loc} {pc : Nat} {ls : Array Slot} => hret r (v_atW', v_atL', v_atT', v_atH', v_atM', v_atI', v_atQ', f_m_worth', f_m_isRefused', f_m_least') (H := H) (locs := locs) (pc := pc) (ls := ls) hp
  clear hret
  refine lv_aload_n hx hb dX10_carry_0 rfl (lv_at hl 0 rfl) ?_
  refine lv_iload_n hx hb dX10_carry_1 rfl (lv_at hl 1 rfl) ?_
  refine xi hD hS hA (xV (As := [.int w]) (rest := []) hx hb hml hown hts hK hP hD hS hA NT_ok hN hAe hl.1 ⟨Nat.le_refl _, Nat.le_refl _⟩ 0 rfl rfl rfl (c_X10_isWalker l D cy hm v_taped v_walkers v_loads v_pieces v_changeCosts v_planned v_isMarch v_clauseMany v_place v_end v_bad v_clauses v_codes v_open v_stacked v_isOver v_isBehind v_atW v_atL v_atT v_atH v_atM v_atI v_atQ v_packing v_packed v_goPace v_goMinutes v_spentAt v_ranChanges f_m_tape f_m_knee f_m_weight f_m_isLame f_m_loadWeight f_m_owner f_m_food f_m_miles f_m_slope f_m_clauseLetter f_m_sumFrom f_m_codeFrom f_m_codeTo f_m_code f_m_codeArg f_m_newLetter f_m_newSum f_m_newFrom f_m_newTo f_m_newCode f_m_newArg f_m_stack f_m_worth f_m_isRefused f_m_least f_m_packPounds f_m_packOwner f_m_room f_m_givenTo f_m_canBe f_m_setPounds f_m_plainTime f_m_muleTime f_m_planTo f_m_march f_m_tired f_m_ranMinutes f_m_tiredAhead f_m_isReached f_m_toEnd f_m_upTo f_m_upNext f_m_byChanges f_m_bandPaces s.heap.size w (by omega)) (gi_V lwd_250 lwd_251 lwd_252 lwd_5 lwd_253) ⟨rfl, hd_X10_isWalker⟩ ⟨Nat.le_of_ble_eq_true rfl, Nat.le_of_ble_eq_true rfl⟩ rfl (Nat.le_of_ble_eq_true rfl) dX10_carry_2) (fun r_2 u_1 H locs hw hP hD hS => ?_)
  try dsimp only at hw hP hD
  obtain ⟨p_3, p_4⟩ := hw
  refine lv_if_eq (tgt := 41) hx hb dX10_carry_5 (by decide) (fun c_5 => ?_) (fun c_5 => ?_)
  · have gc_5 : r_2.toInt = 0 := i_eq (rfl : r_2.toInt = r_2.toInt) (by decide : (0 : Int32).toInt = 0) c_5
    refine lv_bipush (v := (-2)) hx hb dX10_carry_41 (by decide) ?_
    have k_6 : ((-2) : Int32).toInt = (-2) := by decide
    exact hrt (-2) v_atW v_atL v_atT v_atH v_atM v_atI v_atQ f_m_worth f_m_isRefused f_m_least ⟨(by omega), hr_m_isRefused⟩ hP hD hS rfl dX10_carry_43
  · have gc_5 : r_2.toInt ≠ 0 := i_ne (rfl : r_2.toInt = r_2.toInt) (by decide : (0 : Int32).toInt = 0) c_5
    refine lv_iload_n hx hb dX10_carry_8 rfl (lv_at hl 2 rfl) ?_
    refine lv_i2l (v := q.toInt64) hx hb dX10_carry_9 rfl ?_
    have hl_7 : q.toInt64.toInt = q.toInt := i_l (rfl : q.toInt = q.toInt)
    refine lv_lconst (v := 1) hx hb dX10_carry_10 (by decide) ?_
    refine lv_ldc2 hx hb hown (hts _ lwd_603) dX10_carry_11 ?_
    have k_8 : (1 : Int64).toInt = 1 := by decide
    have k_9 : (60 : Int64).toInt = 60 := by decide
    refine xi hD hS hA (xS (As := [.long q.toInt64, .long 1, .long 60]) (rest := []) hx hb hml hown hts hK hP hD hS hA NT_ok hN hAe hl.1 ⟨Nat.le_refl _, Nat.le_refl _⟩ (c_X10_lies l D cy hm v_taped v_walkers v_loads v_pieces v_changeCosts v_planned v_isMarch v_clauseMany v_place v_end v_bad v_clauses v_codes v_open v_stacked v_isOver v_isBehind v_atW v_atL v_atT v_atH v_atM v_atI v_atQ v_packing v_packed v_goPace v_goMinutes v_spentAt v_ranChanges f_m_tape f_m_knee f_m_weight f_m_isLame f_m_loadWeight f_m_owner f_m_food f_m_miles f_m_slope f_m_clauseLetter f_m_sumFrom f_m_codeFrom f_m_codeTo f_m_code f_m_codeArg f_m_newLetter f_m_newSum f_m_newFrom f_m_newTo f_m_newCode f_m_newArg f_m_stack f_m_worth f_m_isRefused f_m_least f_m_packPounds f_m_packOwner f_m_room f_m_givenTo f_m_canBe f_m_setPounds f_m_plainTime f_m_muleTime f_m_planTo f_m_march f_m_tired f_m_ranMinutes f_m_tiredAhead f_m_isReached f_m_toEnd f_m_upTo f_m_upNext f_m_byChanges f_m_bandPaces H.size q.toInt64 1 60) (gi_S lwd_226 lwd_227 lwd_5 lwd_228) hd_X10_lies ⟨Nat.le_of_ble_eq_true rfl, Nat.le_of_ble_eq_true rfl⟩ rfl (Nat.le_of_ble_eq_true rfl) dX10_carry_14) (fun r_11 u_10 H locs hw hP hD hS => ?_)
    try dsimp only at hw hP hD
    obtain ⟨p_12, p_13⟩ := hw
    refine lv_if_eq (tgt := 41) hx hb dX10_carry_17 (by decide) (fun c_14 => ?_) (fun c_14 => ?_)
    · have gc_14 : r_11.toInt = 0 := i_eq (rfl : r_11.toInt = r_11.toInt) (by decide : (0 : Int32).toInt = 0) c_14
      refine lv_bipush (v := (-2)) hx hb dX10_carry_41 (by decide) ?_
      have k_15 : ((-2) : Int32).toInt = (-2) := by decide
      exact hrt (-2) v_atW v_atL v_atT v_atH v_atM v_atI v_atQ f_m_worth f_m_isRefused f_m_least ⟨(by omega), hr_m_isRefused⟩ hP hD hS rfl dX10_carry_43
    · have gc_14 : r_11.toInt ≠ 0 := i_ne (rfl : r_11.toInt = r_11.toInt) (by decide : (0 : Int32).toInt = 0) c_14
      refine lv_iload_n hx hb dX10_carry_20 rfl (lv_at hl 3 rfl) ?_
      refine lv_i2l (v := t.toInt64) hx hb dX10_carry_21 rfl ?_
      have hl_16 : t.toInt64.toInt = t.toInt := i_l (rfl : t.toInt = t.toInt)
      refine lv_lconst (v := 0) hx hb dX10_carry_22 (by decide) ?_
      refine lv_ldc2 hx hb hown (hts _ lwd_548) dX10_carry_23 ?_
      have k_17 : (0 : Int64).toInt = 0 := by decide
      have k_18 : (5 : Int64).toInt = 5 := by decide
      refine xi hD hS hA (xS (As := [.long t.toInt64, .long 0, .long 5]) (rest := []) hx hb hml hown hts hK hP hD hS hA NT_ok hN hAe hl.1 ⟨Nat.le_refl _, Nat.le_refl _⟩ (c_X10_lies l D cy hm v_taped v_walkers v_loads v_pieces v_changeCosts v_planned v_isMarch v_clauseMany v_place v_end v_bad v_clauses v_codes v_open v_stacked v_isOver v_isBehind v_atW v_atL v_atT v_atH v_atM v_atI v_atQ v_packing v_packed v_goPace v_goMinutes v_spentAt v_ranChanges f_m_tape f_m_knee f_m_weight f_m_isLame f_m_loadWeight f_m_owner f_m_food f_m_miles f_m_slope f_m_clauseLetter f_m_sumFrom f_m_codeFrom f_m_codeTo f_m_code f_m_codeArg f_m_newLetter f_m_newSum f_m_newFrom f_m_newTo f_m_newCode f_m_newArg f_m_stack f_m_worth f_m_isRefused f_m_least f_m_packPounds f_m_packOwner f_m_room f_m_givenTo f_m_canBe f_m_setPounds f_m_plainTime f_m_muleTime f_m_planTo f_m_march f_m_tired f_m_ranMinutes f_m_tiredAhead f_m_isReached f_m_toEnd f_m_upTo f_m_upNext f_m_byChanges f_m_bandPaces H.size t.toInt64 0 5) (gi_S lwd_226 lwd_227 lwd_5 lwd_228) hd_X10_lies ⟨Nat.le_of_ble_eq_true rfl, Nat.le_of_ble_eq_true rfl⟩ rfl (Nat.le_of_ble_eq_true rfl) dX10_carry_26) (fun r_20 u_19 H locs hw hP hD hS => ?_)
      try dsimp only at hw hP hD
      obtain ⟨p_21, p_22⟩ := hw
      refine lv_if_eq (tgt := 41) hx hb dX10_carry_29 (by decide) (fun c_23 => ?_) (fun c_23 => ?_)
      · have gc_23 : r_20.toInt = 0 := i_eq (rfl : r_20.toInt = r_20.toInt) (by decide : (0 : Int32).toInt = 0) c_23
        refine lv_bipush (v := (-2)) hx hb dX10_carry_41 (by decide) ?_
        have k_24 : ((-2) : Int32).toInt = (-2) := by decide
        exact hrt (-2) v_atW v_atL v_atT v_atH v_atM v_atI v_atQ f_m_worth f_m_isRefused f_m_least ⟨(by omega), hr_m_isRefused⟩ hP hD hS rfl dX10_carry_43
      · have gc_23 : r_20.toInt ≠ 0 := i_ne (rfl : r_20.toInt = r_20.toInt) (by decide : (0 : Int32).toInt = 0) c_23
        refine lv_aload_n hx hb dX10_carry_32 rfl (lv_at hl 0 rfl) ?_
        refine lv_iload hx hb dX10_carry_33 (lv_at hl 4 rfl) ?_
        refine xi hD hS hA (xV (As := [.int i]) (rest := []) hx hb hml hown hts hK hP hD hS hA NT_ok hN hAe hl.1 ⟨Nat.le_refl _, Nat.le_refl _⟩ 0 rfl rfl rfl (c_X10_isPiece l D cy hm v_taped v_walkers v_loads v_pieces v_changeCosts v_planned v_isMarch v_clauseMany v_place v_end v_bad v_clauses v_codes v_open v_stacked v_isOver v_isBehind v_atW v_atL v_atT v_atH v_atM v_atI v_atQ v_packing v_packed v_goPace v_goMinutes v_spentAt v_ranChanges f_m_tape f_m_knee f_m_weight f_m_isLame f_m_loadWeight f_m_owner f_m_food f_m_miles f_m_slope f_m_clauseLetter f_m_sumFrom f_m_codeFrom f_m_codeTo f_m_code f_m_codeArg f_m_newLetter f_m_newSum f_m_newFrom f_m_newTo f_m_newCode f_m_newArg f_m_stack f_m_worth f_m_isRefused f_m_least f_m_packPounds f_m_packOwner f_m_room f_m_givenTo f_m_canBe f_m_setPounds f_m_plainTime f_m_muleTime f_m_planTo f_m_march f_m_tired f_m_ranMinutes f_m_tiredAhead f_m_isReached f_m_toEnd f_m_upTo f_m_upNext f_m_byChanges f_m_bandPaces H.size i (by omega)) (gi_V lwd_549 lwd_550 lwd_551 lwd_5 lwd_552) ⟨rfl, hd_X10_isPiece⟩ ⟨Nat.le_of_ble_eq_true rfl, Nat.le_of_ble_eq_true rfl⟩ rfl (Nat.le_of_ble_eq_true rfl) dX10_carry_35) (fun r_26 u_25 H locs hw hP hD hS => ?_)
        try dsimp only at hw hP hD
        obtain ⟨p_27, p_28⟩ := hw
        refine lv_if_ne (tgt := 44) hx hb dX10_carry_38 (by decide) (fun c_29 => ?_) (fun c_29 => ?_)
        · have gc_29 : r_26.toInt ≠ 0 := i_ne (rfl : r_26.toInt = r_26.toInt) (by decide : (0 : Int32).toInt = 0) c_29
          refine lv_aload_n hx hb dX10_carry_44 rfl (lv_at hl 0 rfl) ?_
          refine lv_iload_n hx hb dX10_carry_45 rfl (lv_at hl 1 rfl) ?_
          refine lv_iload_n hx hb dX10_carry_46 rfl (lv_at hl 3 rfl) ?_
          refine lv_iload hx hb dX10_carry_47 (lv_at hl 4 rfl) ?_
          refine xv hD hS hA (xV (As := [.int w, .int t, .int i]) (rest := []) hx hb hml hown hts hK hP hD hS hA NT_ok hN hAe hl.1 ⟨Nat.le_refl _, Nat.le_refl _⟩ 0 rfl rfl rfl (c_X10_laysWalker l D cy hm v_taped v_walkers v_loads v_pieces v_changeCosts v_planned v_isMarch v_clauseMany v_place v_end v_bad v_clauses v_codes v_open v_stacked v_isOver v_isBehind v_atW v_atL v_atT v_atH v_atM v_atI v_atQ v_packing v_packed v_goPace v_goMinutes v_spentAt v_ranChanges f_m_tape f_m_knee f_m_weight f_m_isLame f_m_loadWeight f_m_owner f_m_food f_m_miles f_m_slope f_m_clauseLetter f_m_sumFrom f_m_codeFrom f_m_codeTo f_m_code f_m_codeArg f_m_newLetter f_m_newSum f_m_newFrom f_m_newTo f_m_newCode f_m_newArg f_m_stack f_m_worth f_m_isRefused f_m_least f_m_packPounds f_m_packOwner f_m_room f_m_givenTo f_m_canBe f_m_setPounds f_m_plainTime f_m_muleTime f_m_planTo f_m_march f_m_tired f_m_ranMinutes f_m_tiredAhead f_m_isReached f_m_toEnd f_m_upTo f_m_upNext f_m_byChanges f_m_bandPaces H.size w t i (by omega) (by omega) (by omega) hr_m_weight hr_m_isLame hr_m_miles hr_m_isRefused (by omega) (by omega) hwf) (gi_V lwd_604 lwd_605 lwd_606 lwd_5 lwd_607) ⟨rfl, hd_X10_laysWalker⟩ ⟨Nat.le_of_ble_eq_true rfl, Nat.le_of_ble_eq_true rfl⟩ rfl (Nat.le_of_ble_eq_true rfl) dX10_carry_49) (fun u_30 H locs hw hP hD hS => ?_)
          obtain ⟨zatW_32, zatL_33, zatT_34, zatH_35, zatM_36, zatI_37, zatQ_38, zworth_39, zisRefused_40, zleast_41⟩ := u_30
          try dsimp only at hw hP hD
          obtain ⟨p_42, p_43⟩ := hw
          refine lv_aload_n hx hb dX10_carry_52 rfl (lv_at hl 0 rfl) ?_
          refine lv_iload_n hx hb dX10_carry_53 rfl (lv_at hl 1 rfl) ?_
          refine lv_iload_n hx hb dX10_carry_54 rfl (lv_at hl 2 rfl) ?_
          refine lv_iconst (v := (-1)) hx hb dX10_carry_55 (by decide) ?_
          have k_44 : ((-1) : Int32).toInt = (-1) := by decide
          refine xi hD hS hA (xV (As := [.int w, .int q, .int (-1)]) (rest := []) hx hb hml hown hts hK hP hD hS hA NT_ok hN hAe hl.1 ⟨Nat.le_refl _, Nat.le_refl _⟩ 0 rfl rfl rfl (c_X10_carryAt l D cy hm v_taped v_walkers v_loads v_pieces v_changeCosts v_planned v_isMarch v_clauseMany v_place v_end v_bad v_clauses v_codes v_open v_stacked v_isOver v_isBehind zatW_32 zatL_33 zatT_34 zatH_35 zatM_36 zatI_37 zatQ_38 v_packing v_packed v_goPace v_goMinutes v_spentAt v_ranChanges f_m_tape f_m_knee f_m_weight f_m_isLame f_m_loadWeight f_m_owner f_m_food f_m_miles f_m_slope f_m_clauseLetter f_m_sumFrom f_m_codeFrom f_m_codeTo f_m_code f_m_codeArg f_m_newLetter f_m_newSum f_m_newFrom f_m_newTo f_m_newCode f_m_newArg f_m_stack zworth_39 zisRefused_40 zleast_41 f_m_packPounds f_m_packOwner f_m_room f_m_givenTo f_m_canBe f_m_setPounds f_m_plainTime f_m_muleTime f_m_planTo f_m_march f_m_tired f_m_ranMinutes f_m_tiredAhead f_m_isReached f_m_toEnd f_m_upTo f_m_upNext f_m_byChanges f_m_bandPaces H.size w q (-1) (by omega)) (gi_V lwd_608 lwd_609 lwd_610 lwd_5 lwd_611) ⟨rfl, hd_X10_carryAt⟩ ⟨Nat.le_of_ble_eq_true rfl, Nat.le_of_ble_eq_true rfl⟩ rfl (Nat.le_of_ble_eq_true rfl) dX10_carry_56) (fun r_46 u_45 H locs hw hP hD hS => ?_)
          try dsimp only at hw hP hD
          obtain ⟨p_47, p_48⟩ := hw
          exact hrt r_46 zatW_32 zatL_33 zatT_34 zatH_35 zatM_36 zatI_37 zatQ_38 zworth_39 zisRefused_40 zleast_41 ⟨(by omega), p_43⟩ hP hD hS rfl dX10_carry_59
        · have gc_29 : r_26.toInt = 0 := i_eq (rfl : r_26.toInt = r_26.toInt) (by decide : (0 : Int32).toInt = 0) c_29
          refine lv_bipush (v := (-2)) hx hb dX10_carry_41 (by decide) ?_
          have k_49 : ((-2) : Int32).toInt = (-2) := by decide
          exact hrt (-2) v_atW v_atL v_atT v_atH v_atM v_atI v_atQ f_m_worth f_m_isRefused f_m_least ⟨(by omega), hr_m_isRefused⟩ hP hD hS rfl dX10_carry_43
set_option maxHeartbeats 16000000 in
set_option maxRecDepth 100000 in
theorem c_X10_allCarry (l : Launch) (D : va_G) (cy : Nat → ClassId) (hm : Nat → Nat) (v_taped v_walkers v_loads v_pieces v_changeCosts v_planned v_isMarch v_clauseMany v_place v_end v_bad v_clauses v_codes v_open v_stacked v_isOver v_isBehind v_atW v_atL v_atT v_atH v_atM v_atI v_atQ v_packing v_packed v_goPace v_goMinutes v_spentAt v_ranChanges : Int32) (f_m_tape f_m_knee f_m_weight f_m_isLame f_m_loadWeight f_m_owner f_m_food f_m_miles f_m_slope f_m_clauseLetter f_m_sumFrom f_m_codeFrom f_m_codeTo f_m_code f_m_codeArg f_m_newLetter f_m_newSum f_m_newFrom f_m_newTo f_m_newCode f_m_newArg f_m_stack f_m_worth f_m_isRefused f_m_least f_m_packPounds f_m_packOwner f_m_room f_m_givenTo f_m_canBe f_m_setPounds f_m_plainTime f_m_muleTime f_m_planTo f_m_march f_m_tired f_m_ranMinutes f_m_tiredAhead f_m_isReached f_m_toEnd f_m_upTo f_m_upNext f_m_byChanges f_m_bandPaces : Nat → Int32) (sz : Nat) (q : Int32) (hb_v_walkers : 0 ≤ v_walkers.toInt ∧ v_walkers.toInt ≤ 6) : gMi l yX10_allCarry cX10_allCarry 5 .int 2 [.ref (hm 0), .int q] D cy (wMD cy hm v_taped v_walkers v_loads v_pieces v_changeCosts v_planned v_isMarch v_clauseMany v_place v_end v_bad v_clauses v_codes v_open v_stacked v_isOver v_isBehind v_atW v_atL v_atT v_atH v_atM v_atI v_atQ v_packing v_packed v_goPace v_goMinutes v_spentAt v_ranChanges f_m_tape f_m_knee f_m_weight f_m_isLame f_m_loadWeight f_m_owner f_m_food f_m_miles f_m_slope f_m_clauseLetter f_m_sumFrom f_m_codeFrom f_m_codeTo f_m_code f_m_codeArg f_m_newLetter f_m_newSum f_m_newFrom f_m_newTo f_m_newCode f_m_newArg f_m_stack f_m_worth f_m_isRefused f_m_least f_m_packPounds f_m_packOwner f_m_room f_m_givenTo f_m_canBe f_m_setPounds f_m_plainTime f_m_muleTime f_m_planTo f_m_march f_m_tired f_m_ranMinutes f_m_tiredAhead f_m_isReached f_m_toEnd f_m_upTo f_m_upNext f_m_byChanges f_m_bandPaces) NT sz (fun (r : Int32) (u : Unit) => True) (fun u => wMD cy hm v_taped v_walkers v_loads v_pieces v_changeCosts v_planned v_isMarch v_clauseMany v_place v_end v_bad v_clauses v_codes v_open v_stacked v_isOver v_isBehind v_atW v_atL v_atT v_atH v_atM v_atI v_atQ v_packing v_packed v_goPace v_goMinutes v_spentAt v_ranChanges f_m_tape f_m_knee f_m_weight f_m_isLame f_m_loadWeight f_m_owner f_m_food f_m_miles f_m_slope f_m_clauseLetter f_m_sumFrom f_m_codeFrom f_m_codeTo f_m_code f_m_codeArg f_m_newLetter f_m_newSum f_m_newFrom f_m_newTo f_m_newCode f_m_newArg f_m_stack f_m_worth f_m_isRefused f_m_least f_m_packPounds f_m_packOwner f_m_room f_m_givenTo f_m_canBe f_m_setPounds f_m_plainTime f_m_muleTime f_m_planTo f_m_march f_m_tired f_m_ranMinutes f_m_tiredAhead f_m_isReached f_m_toEnd f_m_upTo f_m_upNext f_m_byChanges f_m_bandPaces) := by
  refine gMi_in (by decide) (Nat.le_of_ble_eq_true rfl) ?_
  intro p e s m args below meth c A ls Q hx hb hml hts hown hsz hP hK hD hN hAe hA hS hl hret
  subst hsz
  have hl : lv_has ls 5 [(0, .ref (hm 0)), (1, .int q)] := hl
  have hrt := fun (r : Int32)   {H : Heap} {locs : List Loc} {pc : Nat} {ls : Array Slot} => hret r () (H := H) (locs := locs) (pc := pc) (ls := ls) trivial
  clear hret
  refine lv_iconst (v := 0) hx hb dX10_allCarry_0 (by decide) ?_
  refine lv_istore_n (lv' := [(2, .int 0), (0, .ref (hm 0)), (1, .int q)]) hx hb dX10_allCarry_1 rfl hl (by decide) rfl (fun ls hl => ?_)
  refine lv_iconst (v := 0) hx hb dX10_allCarry_2 (by decide) ?_
  refine lv_istore_n (lv' := [(3, .int 0), (2, .int 0), (0, .ref (hm 0)), (1, .int q)]) hx hb dX10_allCarry_3 rfl hl (by decide) rfl (fun ls hl => ?_)
  have L4_5 : ∀ (n : Nat) (l_3 : Int32) (l_4 : Int32), (0 ≤ l_4.toInt ∧ l_4.toInt ≤ 6) → 7 - l_4.toInt < n → ∀ (H : Heap) (locs : List Loc) (ls : Array Slot), va_P D vwCl (wMD cy hm v_taped v_walkers v_loads v_pieces v_changeCosts v_planned v_isMarch v_clauseMany v_place v_end v_bad v_clauses v_codes v_open v_stacked v_isOver v_isBehind v_atW v_atL v_atT v_atH v_atM v_atI v_atQ v_packing v_packed v_goPace v_goMinutes v_spentAt v_ranChanges f_m_tape f_m_knee f_m_weight f_m_isLame f_m_loadWeight f_m_owner f_m_food f_m_miles f_m_slope f_m_clauseLetter f_m_sumFrom f_m_codeFrom f_m_codeTo f_m_code f_m_codeArg f_m_newLetter f_m_newSum f_m_newFrom f_m_newTo f_m_newCode f_m_newArg f_m_stack f_m_worth f_m_isRefused f_m_least f_m_packPounds f_m_packOwner f_m_room f_m_givenTo f_m_canBe f_m_setPounds f_m_plainTime f_m_muleTime f_m_planTo f_m_march f_m_tired f_m_ranMinutes f_m_tiredAhead f_m_isReached f_m_toEnd f_m_upTo f_m_upNext f_m_byChanges f_m_bandPaces) H → va_D A (wMD cy hm v_taped v_walkers v_loads v_pieces v_changeCosts v_planned v_isMarch v_clauseMany v_place v_end v_bad v_clauses v_codes v_open v_stacked v_isOver v_isBehind v_atW v_atL v_atT v_atH v_atM v_atI v_atQ v_packing v_packed v_goPace v_goMinutes v_spentAt v_ranChanges f_m_tape f_m_knee f_m_weight f_m_isLame f_m_loadWeight f_m_owner f_m_food f_m_miles f_m_slope f_m_clauseLetter f_m_sumFrom f_m_codeFrom f_m_codeTo f_m_code f_m_codeArg f_m_newLetter f_m_newSum f_m_newFrom f_m_newTo f_m_newCode f_m_newArg f_m_stack f_m_worth f_m_isRefused f_m_least f_m_packPounds f_m_packOwner f_m_room f_m_givenTo f_m_canBe f_m_setPounds f_m_plainTime f_m_muleTime f_m_planTo f_m_march f_m_tired f_m_ranMinutes f_m_tiredAhead f_m_isReached f_m_toEnd f_m_upTo f_m_upNext f_m_byChanges f_m_bandPaces) → va_S A s.heap H locs → lv_has ls 5 [(3, .int l_4), (2, .int l_3), (0, .ref (hm 0)), (1, .int q)] → W p l e (gRm 2) s m args below meth c H locs 0 0 Q (F0 m 4 ls []) := by
    intro n
    induction n with
    | zero => intro l_3 l_4 hL4_5_0 hm; exact absurd hm (by omega)
    | succ n ih4_5 =>
      intro l_3 l_4 hL4_5_0 hmL4_5 H locs ls hP hD hS hl
      refine lv_iload_n hx hb dX10_allCarry_4 rfl (lv_at hl 0 rfl) ?_
      refine lv_aload_n hx hb dX10_allCarry_5 rfl (lv_at hl 2 rfl) ?_
      refine gt_MD_MD_walkers hx hb hts hown hK hP lwd_221 dX10_allCarry_6 ?_
      refine lv_icmp_ge (tgt := 39) hx hb dX10_allCarry_9 (by decide) (fun c_6 => ?_) (fun c_6 => ?_)
      · have gc_6 : v_walkers.toInt ≤ l_4.toInt := i_le (rfl : v_walkers.toInt = v_walkers.toInt) (rfl : l_4.toInt = l_4.toInt) c_6
        refine lv_iload_n hx hb dX10_allCarry_39 rfl (lv_at hl 1 rfl) ?_
        exact hrt l_3   hP hD hS rfl dX10_allCarry_40
      · have gc_6 : l_4.toInt < v_walkers.toInt := i_nle (rfl : v_walkers.toInt = v_walkers.toInt) (rfl : l_4.toInt = l_4.toInt) c_6
        refine lv_aload_n hx hb dX10_allCarry_12 rfl (lv_at hl 2 rfl) ?_
        refine lv_iload_n hx hb dX10_allCarry_13 rfl (lv_at hl 0 rfl) ?_
        refine lv_iload_n hx hb dX10_allCarry_14 rfl (lv_at hl 3 rfl) ?_
        refine lv_iconst (v := (-1)) hx hb dX10_allCarry_15 (by decide) ?_
        have k_7 : ((-1) : Int32).toInt = (-1) := by decide
        refine xi hD hS hA (xV (As := [.int l_4, .int q, .int (-1)]) (rest := []) hx hb hml hown hts hK hP hD hS hA NT_ok hN hAe hl.1 ⟨Nat.le_refl _, Nat.le_refl _⟩ 0 rfl rfl rfl (c_X10_carryAt l D cy hm v_taped v_walkers v_loads v_pieces v_changeCosts v_planned v_isMarch v_clauseMany v_place v_end v_bad v_clauses v_codes v_open v_stacked v_isOver v_isBehind v_atW v_atL v_atT v_atH v_atM v_atI v_atQ v_packing v_packed v_goPace v_goMinutes v_spentAt v_ranChanges f_m_tape f_m_knee f_m_weight f_m_isLame f_m_loadWeight f_m_owner f_m_food f_m_miles f_m_slope f_m_clauseLetter f_m_sumFrom f_m_codeFrom f_m_codeTo f_m_code f_m_codeArg f_m_newLetter f_m_newSum f_m_newFrom f_m_newTo f_m_newCode f_m_newArg f_m_stack f_m_worth f_m_isRefused f_m_least f_m_packPounds f_m_packOwner f_m_room f_m_givenTo f_m_canBe f_m_setPounds f_m_plainTime f_m_muleTime f_m_planTo f_m_march f_m_tired f_m_ranMinutes f_m_tiredAhead f_m_isReached f_m_toEnd f_m_upTo f_m_upNext f_m_byChanges f_m_bandPaces H.size l_4 q (-1) (by omega)) (gi_V lwd_608 lwd_609 lwd_610 lwd_5 lwd_611) ⟨rfl, hd_X10_carryAt⟩ ⟨Nat.le_of_ble_eq_true rfl, Nat.le_of_ble_eq_true rfl⟩ rfl (Nat.le_of_ble_eq_true rfl) dX10_allCarry_16) (fun r_9 u_8 H locs hw hP hD hS => ?_)
        try dsimp only at hw hP hD
        obtain ⟨p_10, p_11⟩ := hw
        refine lv_istore (lv' := [(4, .int r_9), (3, .int l_4), (2, .int l_3), (0, .ref (hm 0)), (1, .int q)]) hx hb dX10_allCarry_19 hl (by decide) rfl (fun ls hl => ?_)
        refine lv_iload hx hb dX10_allCarry_21 (lv_at hl 0 rfl) ?_
        refine lv_if_ge (tgt := 28) hx hb dX10_allCarry_23 (by decide) (fun c_12 => ?_) (fun c_12 => ?_)
        · have gc_12 : 0 ≤ r_9.toInt := i_le (by decide : (0 : Int32).toInt = 0) (rfl : r_9.toInt = r_9.toInt) c_12
          refine lv_iload_n hx hb dX10_allCarry_28 rfl (lv_at hl 2 rfl) ?_
          refine lv_iload hx hb dX10_allCarry_29 (lv_at hl 0 rfl) ?_
          refine lv_iadd hx hb dX10_allCarry_31 ?_
          refine lv_topi (fun n_13 en_13 => ?_)
          refine lv_istore_n (lv' := [(2, .int n_13), (4, .int r_9), (3, .int l_4), (0, .ref (hm 0)), (1, .int q)]) hx hb dX10_allCarry_32 rfl hl (by decide) rfl (fun ls hl => ?_)
          obtain ⟨n_14, en_14⟩ : ∃ y : Int32, y = l_4 + 1 := ⟨_, rfl⟩
          have tn_14 : n_14.toInt = l_4.toInt + 1 := i_add en_14 (rfl : l_4.toInt = l_4.toInt) (by decide : (1 : Int32).toInt = 1) (by omega) (by omega)
          refine lv_iinc (v := n_14) (lv' := [(3, .int n_14), (2, .int n_13), (4, .int r_9), (0, .ref (hm 0)), (1, .int q)]) hx hb dX10_allCarry_33 hl (k := 2) rfl (by rw [en_14]; rfl) (by decide) rfl (fun ls hl => ?_)
          refine lv_goto (tgt := 4) hx hb dX10_allCarry_36 (by decide) ?_
          exact ih4_5 n_13 n_14 (by omega) (by omega) _ _ _ hP hD hS (lv_sub hl [0, 1, 3, 4] rfl)
        · have gc_12 : r_9.toInt < 0 := i_nle (by decide : (0 : Int32).toInt = 0) (rfl : r_9.toInt = r_9.toInt) c_12
          refine lv_iconst (v := (-1)) hx hb dX10_allCarry_26 (by decide) ?_
          have k_15 : ((-1) : Int32).toInt = (-1) := by decide
          exact hrt (-1)   hP hD hS rfl dX10_allCarry_27
  have k_16 : (0 : Int32).toInt = 0 := by decide
  have k_17 : (0 : Int32).toInt = 0 := by decide
  exact L4_5 8589934592 0 0 (by omega) (by omega) _ _ _ hP hD hS (lv_sub hl [0, 1, 2, 3] rfl)
set_option maxHeartbeats 16000000 in
set_option maxRecDepth 100000 in
theorem c_X10_partsPace (l : Launch) (D : va_G) (cy : Nat → ClassId) (hm : Nat → Nat) (v_taped v_walkers v_loads v_pieces v_changeCosts v_planned v_isMarch v_clauseMany v_place v_end v_bad v_clauses v_codes v_open v_stacked v_isOver v_isBehind v_atW v_atL v_atT v_atH v_atM v_atI v_atQ v_packing v_packed v_goPace v_goMinutes v_spentAt v_ranChanges : Int32) (f_m_tape f_m_knee f_m_weight f_m_isLame f_m_loadWeight f_m_owner f_m_food f_m_miles f_m_slope f_m_clauseLetter f_m_sumFrom f_m_codeFrom f_m_codeTo f_m_code f_m_codeArg f_m_newLetter f_m_newSum f_m_newFrom f_m_newTo f_m_newCode f_m_newArg f_m_stack f_m_worth f_m_isRefused f_m_least f_m_packPounds f_m_packOwner f_m_room f_m_givenTo f_m_canBe f_m_setPounds f_m_plainTime f_m_muleTime f_m_planTo f_m_march f_m_tired f_m_ranMinutes f_m_tiredAhead f_m_isReached f_m_toEnd f_m_upTo f_m_upNext f_m_byChanges f_m_bandPaces : Nat → Int32) (sz : Nat) (pd : Int32) (hb_v_walkers : 0 ≤ v_walkers.toInt ∧ v_walkers.toInt ≤ 6) : gMi l yX10_partsPace cX10_partsPace 3 .int 3 [.ref (hm 0), .int pd] D cy (wMD cy hm v_taped v_walkers v_loads v_pieces v_changeCosts v_planned v_isMarch v_clauseMany v_place v_end v_bad v_clauses v_codes v_open v_stacked v_isOver v_isBehind v_atW v_atL v_atT v_atH v_atM v_atI v_atQ v_packing v_packed v_goPace v_goMinutes v_spentAt v_ranChanges f_m_tape f_m_knee f_m_weight f_m_isLame f_m_loadWeight f_m_owner f_m_food f_m_miles f_m_slope f_m_clauseLetter f_m_sumFrom f_m_codeFrom f_m_codeTo f_m_code f_m_codeArg f_m_newLetter f_m_newSum f_m_newFrom f_m_newTo f_m_newCode f_m_newArg f_m_stack f_m_worth f_m_isRefused f_m_least f_m_packPounds f_m_packOwner f_m_room f_m_givenTo f_m_canBe f_m_setPounds f_m_plainTime f_m_muleTime f_m_planTo f_m_march f_m_tired f_m_ranMinutes f_m_tiredAhead f_m_isReached f_m_toEnd f_m_upTo f_m_upNext f_m_byChanges f_m_bandPaces) NT sz (fun (r : Int32) (u : Unit) => (0 ≤ r.toInt ∧ r.toInt ≤ 60)) (fun u => wMD cy hm v_taped v_walkers v_loads v_pieces v_changeCosts v_planned v_isMarch v_clauseMany v_place v_end v_bad v_clauses v_codes v_open v_stacked v_isOver v_isBehind v_atW v_atL v_atT v_atH v_atM v_atI v_atQ v_packing v_packed v_goPace v_goMinutes v_spentAt v_ranChanges f_m_tape f_m_knee f_m_weight f_m_isLame f_m_loadWeight f_m_owner f_m_food f_m_miles f_m_slope f_m_clauseLetter f_m_sumFrom f_m_codeFrom f_m_codeTo f_m_code f_m_codeArg f_m_newLetter f_m_newSum f_m_newFrom f_m_newTo f_m_newCode f_m_newArg f_m_stack f_m_worth f_m_isRefused f_m_least f_m_packPounds f_m_packOwner f_m_room f_m_givenTo f_m_canBe f_m_setPounds f_m_plainTime f_m_muleTime f_m_planTo f_m_march f_m_tired f_m_ranMinutes f_m_tiredAhead f_m_isReached f_m_toEnd f_m_upTo f_m_upNext f_m_byChanges f_m_bandPaces) := by
  refine gMi_in (by decide) (Nat.le_of_ble_eq_true rfl) ?_
  intro p e s m args below meth c A ls Q hx hb hml hts hown hsz hP hK hD hN hAe hA hS hl hret
  subst hsz
  have hl : lv_has ls 3 [(0, .ref (hm 0)), (1, .int pd)] := hl
  have hrt := fun (r : Int32)  (hp : (0 ≤ r.toInt ∧ r.toInt ≤ 60)) {H : Heap} {locs : List Loc} {pc : Nat} {ls : Array Slot} => hret r () (H := H) (locs := locs) (pc := pc) (ls := ls) hp
  clear hret
  refine lv_bipush (v := 60) hx hb dX10_partsPace_0 (by decide) ?_
  refine lv_istore_n (lv' := [(2, .int 60), (0, .ref (hm 0)), (1, .int pd)]) hx hb dX10_partsPace_2 rfl hl (by decide) rfl (fun ls hl => ?_)
  have L3_3 : ∀ (n : Nat) (l_2 : Int32), (0 ≤ l_2.toInt ∧ l_2.toInt ≤ 60) → l_2.toInt + 1001 < n → ∀ (H : Heap) (locs : List Loc) (ls : Array Slot), va_P D vwCl (wMD cy hm v_taped v_walkers v_loads v_pieces v_changeCosts v_planned v_isMarch v_clauseMany v_place v_end v_bad v_clauses v_codes v_open v_stacked v_isOver v_isBehind v_atW v_atL v_atT v_atH v_atM v_atI v_atQ v_packing v_packed v_goPace v_goMinutes v_spentAt v_ranChanges f_m_tape f_m_knee f_m_weight f_m_isLame f_m_loadWeight f_m_owner f_m_food f_m_miles f_m_slope f_m_clauseLetter f_m_sumFrom f_m_codeFrom f_m_codeTo f_m_code f_m_codeArg f_m_newLetter f_m_newSum f_m_newFrom f_m_newTo f_m_newCode f_m_newArg f_m_stack f_m_worth f_m_isRefused f_m_least f_m_packPounds f_m_packOwner f_m_room f_m_givenTo f_m_canBe f_m_setPounds f_m_plainTime f_m_muleTime f_m_planTo f_m_march f_m_tired f_m_ranMinutes f_m_tiredAhead f_m_isReached f_m_toEnd f_m_upTo f_m_upNext f_m_byChanges f_m_bandPaces) H → va_D A (wMD cy hm v_taped v_walkers v_loads v_pieces v_changeCosts v_planned v_isMarch v_clauseMany v_place v_end v_bad v_clauses v_codes v_open v_stacked v_isOver v_isBehind v_atW v_atL v_atT v_atH v_atM v_atI v_atQ v_packing v_packed v_goPace v_goMinutes v_spentAt v_ranChanges f_m_tape f_m_knee f_m_weight f_m_isLame f_m_loadWeight f_m_owner f_m_food f_m_miles f_m_slope f_m_clauseLetter f_m_sumFrom f_m_codeFrom f_m_codeTo f_m_code f_m_codeArg f_m_newLetter f_m_newSum f_m_newFrom f_m_newTo f_m_newCode f_m_newArg f_m_stack f_m_worth f_m_isRefused f_m_least f_m_packPounds f_m_packOwner f_m_room f_m_givenTo f_m_canBe f_m_setPounds f_m_plainTime f_m_muleTime f_m_planTo f_m_march f_m_tired f_m_ranMinutes f_m_tiredAhead f_m_isReached f_m_toEnd f_m_upTo f_m_upNext f_m_byChanges f_m_bandPaces) → va_S A s.heap H locs → lv_has ls 3 [(2, .int l_2), (0, .ref (hm 0)), (1, .int pd)] → W p l e (gRm 3) s m args below meth c H locs 0 0 Q (F0 m 3 ls []) := by
    intro n
    induction n with
    | zero => intro l_2 hL3_3_0 hm; exact absurd hm (by omega)
    | succ n ih3_3 =>
      intro l_2 hL3_3_0 hmL3_3 H locs ls hP hD hS hl
      refine lv_iload_n hx hb dX10_partsPace_3 rfl (lv_at hl 0 rfl) ?_
      refine lv_if_le (tgt := 22) hx hb dX10_partsPace_4 (by decide) (fun c_4 => ?_) (fun c_4 => ?_)
      · have gc_4 : l_2.toInt ≤ 0 := i_le (rfl : l_2.toInt = l_2.toInt) (by decide : (0 : Int32).toInt = 0) c_4
        refine lv_iload_n hx hb dX10_partsPace_22 rfl (lv_at hl 0 rfl) ?_
        exact hrt l_2  (by omega) hP hD hS rfl dX10_partsPace_23
      · have gc_4 : 0 < l_2.toInt := i_nle (rfl : l_2.toInt = l_2.toInt) (by decide : (0 : Int32).toInt = 0) c_4
        refine lv_aload_n hx hb dX10_partsPace_7 rfl (lv_at hl 1 rfl) ?_
        refine lv_iload_n hx hb dX10_partsPace_8 rfl (lv_at hl 0 rfl) ?_
        refine xi hD hS hA (xV (As := [.int l_2]) (rest := []) hx hb hml hown hts hK hP hD hS hA NT_ok hN hAe hl.1 ⟨Nat.le_refl _, Nat.le_refl _⟩ 0 rfl rfl rfl (c_X10_allCarry l D cy hm v_taped v_walkers v_loads v_pieces v_changeCosts v_planned v_isMarch v_clauseMany v_place v_end v_bad v_clauses v_codes v_open v_stacked v_isOver v_isBehind v_atW v_atL v_atT v_atH v_atM v_atI v_atQ v_packing v_packed v_goPace v_goMinutes v_spentAt v_ranChanges f_m_tape f_m_knee f_m_weight f_m_isLame f_m_loadWeight f_m_owner f_m_food f_m_miles f_m_slope f_m_clauseLetter f_m_sumFrom f_m_codeFrom f_m_codeTo f_m_code f_m_codeArg f_m_newLetter f_m_newSum f_m_newFrom f_m_newTo f_m_newCode f_m_newArg f_m_stack f_m_worth f_m_isRefused f_m_least f_m_packPounds f_m_packOwner f_m_room f_m_givenTo f_m_canBe f_m_setPounds f_m_plainTime f_m_muleTime f_m_planTo f_m_march f_m_tired f_m_ranMinutes f_m_tiredAhead f_m_isReached f_m_toEnd f_m_upTo f_m_upNext f_m_byChanges f_m_bandPaces H.size l_2 (by omega)) (gi_V lwd_664 lwd_665 lwd_666 lwd_5 lwd_667) ⟨rfl, hd_X10_allCarry⟩ ⟨Nat.le_of_ble_eq_true rfl, Nat.le_of_ble_eq_true rfl⟩ rfl (Nat.le_of_ble_eq_true rfl) dX10_partsPace_9) (fun r_6 u_5 H locs hw hP hD hS => ?_)
        try dsimp only at hw hP hD
        clear hw
        refine lv_iload_n hx hb dX10_partsPace_12 rfl (lv_at hl 2 rfl) ?_
        refine lv_icmp_ge (tgt := 22) hx hb dX10_partsPace_13 (by decide) (fun c_7 => ?_) (fun c_7 => ?_)
        · have gc_7 : pd.toInt ≤ r_6.toInt := i_le (rfl : pd.toInt = pd.toInt) (rfl : r_6.toInt = r_6.toInt) c_7
          refine lv_iload_n hx hb dX10_partsPace_22 rfl (lv_at hl 0 rfl) ?_
          exact hrt l_2  (by omega) hP hD hS rfl dX10_partsPace_23
        · have gc_7 : r_6.toInt < pd.toInt := i_nle (rfl : pd.toInt = pd.toInt) (rfl : r_6.toInt = r_6.toInt) c_7
          obtain ⟨n_8, en_8⟩ : ∃ y : Int32, y = l_2 + (-1) := ⟨_, rfl⟩
          have tn_8 : n_8.toInt = l_2.toInt + (-1) := i_add en_8 (rfl : l_2.toInt = l_2.toInt) (by decide : ((-1) : Int32).toInt = (-1)) (by omega) (by omega)
          refine lv_iinc (v := n_8) (lv' := [(2, .int n_8), (0, .ref (hm 0)), (1, .int pd)]) hx hb dX10_partsPace_16 hl (k := 0) rfl (by rw [en_8]; rfl) (by decide) rfl (fun ls hl => ?_)
          refine lv_goto (tgt := 3) hx hb dX10_partsPace_19 (by decide) ?_
          exact ih3_3 n_8 (by omega) (by omega) _ _ _ hP hD hS (lv_sub hl [0, 1, 2] rfl)
  have k_9 : (60 : Int32).toInt = 60 := by decide
  exact L3_3 8589934592 60 (by omega) (by omega) _ _ _ hP hD hS (lv_sub hl [0, 1, 2] rfl)
set_option maxHeartbeats 16000000 in
set_option maxRecDepth 100000 in
theorem c_X10_parts (l : Launch) (D : va_G) (cy : Nat → ClassId) (hm : Nat → Nat) (v_taped v_walkers v_loads v_pieces v_changeCosts v_planned v_isMarch v_clauseMany v_place v_end v_bad v_clauses v_codes v_open v_stacked v_isOver v_isBehind v_atW v_atL v_atT v_atH v_atM v_atI v_atQ v_packing v_packed v_goPace v_goMinutes v_spentAt v_ranChanges : Int32) (f_m_tape f_m_knee f_m_weight f_m_isLame f_m_loadWeight f_m_owner f_m_food f_m_miles f_m_slope f_m_clauseLetter f_m_sumFrom f_m_codeFrom f_m_codeTo f_m_code f_m_codeArg f_m_newLetter f_m_newSum f_m_newFrom f_m_newTo f_m_newCode f_m_newArg f_m_stack f_m_worth f_m_isRefused f_m_least f_m_packPounds f_m_packOwner f_m_room f_m_givenTo f_m_canBe f_m_setPounds f_m_plainTime f_m_muleTime f_m_planTo f_m_march f_m_tired f_m_ranMinutes f_m_tiredAhead f_m_isReached f_m_toEnd f_m_upTo f_m_upNext f_m_byChanges f_m_bandPaces : Nat → Int32) (sz : Nat) (pd : Int32) (i : Int32) (all : Int32) (what : Int32) (hb_v_walkers : 0 ≤ v_walkers.toInt ∧ v_walkers.toInt ≤ 6) (hb_v_pieces : 0 ≤ v_pieces.toInt ∧ v_pieces.toInt ≤ 10) (hb_v_clauseMany : 0 ≤ v_clauseMany.toInt ∧ v_clauseMany.toInt ≤ 14) (hb_v_atW : 0 ≤ v_atW.toInt ∧ v_atW.toInt ≤ 5) (hr_m_weight : rg (0) 250 f_m_weight) (hr_m_isLame : rg (0) 1 f_m_isLame) (hr_m_miles : rg (0) 20 f_m_miles) (hr_m_isRefused : rg (0) 1 f_m_isRefused) (hwf : wfC v_clauseMany f_m_sumFrom f_m_codeFrom f_m_codeTo f_m_code) : gMi l yX10_parts cX10_parts 6 .int 8 [.ref (hm 0), .int pd, .int i, .int all, .int what] D cy (wMD cy hm v_taped v_walkers v_loads v_pieces v_changeCosts v_planned v_isMarch v_clauseMany v_place v_end v_bad v_clauses v_codes v_open v_stacked v_isOver v_isBehind v_atW v_atL v_atT v_atH v_atM v_atI v_atQ v_packing v_packed v_goPace v_goMinutes v_spentAt v_ranChanges f_m_tape f_m_knee f_m_weight f_m_isLame f_m_loadWeight f_m_owner f_m_food f_m_miles f_m_slope f_m_clauseLetter f_m_sumFrom f_m_codeFrom f_m_codeTo f_m_code f_m_codeArg f_m_newLetter f_m_newSum f_m_newFrom f_m_newTo f_m_newCode f_m_newArg f_m_stack f_m_worth f_m_isRefused f_m_least f_m_packPounds f_m_packOwner f_m_room f_m_givenTo f_m_canBe f_m_setPounds f_m_plainTime f_m_muleTime f_m_planTo f_m_march f_m_tired f_m_ranMinutes f_m_tiredAhead f_m_isReached f_m_toEnd f_m_upTo f_m_upNext f_m_byChanges f_m_bandPaces) NT sz (fun (r : Int32) (u : Int32 × Int32 × Int32 × Int32 × Int32 × Int32 × Int32 × (Nat → Int32) × (Nat → Int32) × (Nat → Int32)) => (0 ≤ (u.1).toInt ∧ (u.1).toInt ≤ 5) ∧ (rg (0) 1 (u.2.2.2.2.2.2.2.2.1))) (fun u => wMD cy hm v_taped v_walkers v_loads v_pieces v_changeCosts v_planned v_isMarch v_clauseMany v_place v_end v_bad v_clauses v_codes v_open v_stacked v_isOver v_isBehind (u.1) (u.2.1) (u.2.2.1) (u.2.2.2.1) (u.2.2.2.2.1) (u.2.2.2.2.2.1) (u.2.2.2.2.2.2.1) v_packing v_packed v_goPace v_goMinutes v_spentAt v_ranChanges f_m_tape f_m_knee f_m_weight f_m_isLame f_m_loadWeight f_m_owner f_m_food f_m_miles f_m_slope f_m_clauseLetter f_m_sumFrom f_m_codeFrom f_m_codeTo f_m_code f_m_codeArg f_m_newLetter f_m_newSum f_m_newFrom f_m_newTo f_m_newCode f_m_newArg f_m_stack (u.2.2.2.2.2.2.2.1) (u.2.2.2.2.2.2.2.2.1) (u.2.2.2.2.2.2.2.2.2) f_m_packPounds f_m_packOwner f_m_room f_m_givenTo f_m_canBe f_m_setPounds f_m_plainTime f_m_muleTime f_m_planTo f_m_march f_m_tired f_m_ranMinutes f_m_tiredAhead f_m_isReached f_m_toEnd f_m_upTo f_m_upNext f_m_byChanges f_m_bandPaces) := by
  refine gMi_in (by decide) (Nat.le_of_ble_eq_true rfl) ?_
  intro p e s m args below meth c A ls Q hx hb hml hts hown hsz hP hK hD hN hAe hA hS hl hret
  subst hsz
  have hl : lv_has ls 6 [(0, .ref (hm 0)), (1, .int pd), (2, .int i), (3, .int all), (4, .int what)] := hl
  have hrt := fun (r : Int32) (v_atW' : Int32) (v_atL' : Int32) (v_atT' : Int32) (v_atH' : Int32) (v_atM' : Int32) (v_atI' : Int32) (v_atQ' : Int32) (f_m_worth' : Nat → Int32) (f_m_isRefused' : Nat → Int32) (f_m_least' : Nat → Int32) (hp : (0 ≤ v_atW'.toInt ∧ v_atW'.toInt ≤ 5) ∧ (rg (0) 1 f_m_isRefused')) {H : Heap} {locs : List Loc} {pc : Nat} {ls : Array Slot} => hret r (v_atW', v_atL', v_atT', v_atH', v_atM', v_atI', v_atQ', f_m_worth', f_m_isRefused', f_m_least') (H := H) (locs := locs) (pc := pc) (ls := ls) hp
  clear hret
  refine lv_iload_n hx hb dX10_parts_0 rfl (lv_at hl 1 rfl) ?_
  refine lv_i2l (v := pd.toInt64) hx hb dX10_parts_1 rfl ?_
  have hl_1 : pd.toInt64.toInt = pd.toInt := i_l (rfl : pd.toInt = pd.toInt)
  refine lv_lconst (v := 0) hx hb dX10_parts_2 (by decide) ?_
  refine lv_ldc2 hx hb hown (hts _ lwd_643) dX10_parts_3 ?_
  have k_2 : (0 : Int64).toInt = 0 := by decide
  have k_3 : (2400 : Int64).toInt = 2400 := by decide
  refine xi hD hS hA (xS (As := [.long pd.toInt64, .long 0, .long 2400]) (rest := []) hx hb hml hown hts hK hP hD hS hA NT_ok hN hAe hl.1 ⟨Nat.le_refl _, Nat.le_refl _⟩ (c_X10_lies l D cy hm v_taped v_walkers v_loads v_pieces v_changeCosts v_planned v_isMarch v_clauseMany v_place v_end v_bad v_clauses v_codes v_open v_stacked v_isOver v_isBehind v_atW v_atL v_atT v_atH v_atM v_atI v_atQ v_packing v_packed v_goPace v_goMinutes v_spentAt v_ranChanges f_m_tape f_m_knee f_m_weight f_m_isLame f_m_loadWeight f_m_owner f_m_food f_m_miles f_m_slope f_m_clauseLetter f_m_sumFrom f_m_codeFrom f_m_codeTo f_m_code f_m_codeArg f_m_newLetter f_m_newSum f_m_newFrom f_m_newTo f_m_newCode f_m_newArg f_m_stack f_m_worth f_m_isRefused f_m_least f_m_packPounds f_m_packOwner f_m_room f_m_givenTo f_m_canBe f_m_setPounds f_m_plainTime f_m_muleTime f_m_planTo f_m_march f_m_tired f_m_ranMinutes f_m_tiredAhead f_m_isReached f_m_toEnd f_m_upTo f_m_upNext f_m_byChanges f_m_bandPaces s.heap.size pd.toInt64 0 2400) (gi_S lwd_226 lwd_227 lwd_5 lwd_228) hd_X10_lies ⟨Nat.le_of_ble_eq_true rfl, Nat.le_of_ble_eq_true rfl⟩ rfl (Nat.le_of_ble_eq_true rfl) dX10_parts_6) (fun r_5 u_4 H locs hw hP hD hS => ?_)
  try dsimp only at hw hP hD
  obtain ⟨p_6, p_7⟩ := hw
  refine lv_if_eq (tgt := 34) hx hb dX10_parts_9 (by decide) (fun c_8 => ?_) (fun c_8 => ?_)
  · have gc_8 : r_5.toInt = 0 := i_eq (rfl : r_5.toInt = r_5.toInt) (by decide : (0 : Int32).toInt = 0) c_8
    refine lv_iconst (v := (-1)) hx hb dX10_parts_34 (by decide) ?_
    have k_9 : ((-1) : Int32).toInt = (-1) := by decide
    exact hrt (-1) v_atW v_atL v_atT v_atH v_atM v_atI v_atQ f_m_worth f_m_isRefused f_m_least ⟨(by omega), hr_m_isRefused⟩ hP hD hS rfl dX10_parts_35
  · have gc_8 : r_5.toInt ≠ 0 := i_ne (rfl : r_5.toInt = r_5.toInt) (by decide : (0 : Int32).toInt = 0) c_8
    refine lv_aload_n hx hb dX10_parts_12 rfl (lv_at hl 0 rfl) ?_
    refine lv_iload_n hx hb dX10_parts_13 rfl (lv_at hl 2 rfl) ?_
    refine lv_iload_n hx hb dX10_parts_14 rfl (lv_at hl 3 rfl) ?_
    refine xi hD hS hA (xV (As := [.int i, .int all]) (rest := []) hx hb hml hown hts hK hP hD hS hA NT_ok hN hAe hl.1 ⟨Nat.le_refl _, Nat.le_refl _⟩ 0 rfl rfl rfl (c_X10_canAsk l D cy hm v_taped v_walkers v_loads v_pieces v_changeCosts v_planned v_isMarch v_clauseMany v_place v_end v_bad v_clauses v_codes v_open v_stacked v_isOver v_isBehind v_atW v_atL v_atT v_atH v_atM v_atI v_atQ v_packing v_packed v_goPace v_goMinutes v_spentAt v_ranChanges f_m_tape f_m_knee f_m_weight f_m_isLame f_m_loadWeight f_m_owner f_m_food f_m_miles f_m_slope f_m_clauseLetter f_m_sumFrom f_m_codeFrom f_m_codeTo f_m_code f_m_codeArg f_m_newLetter f_m_newSum f_m_newFrom f_m_newTo f_m_newCode f_m_newArg f_m_stack f_m_worth f_m_isRefused f_m_least f_m_packPounds f_m_packOwner f_m_room f_m_givenTo f_m_canBe f_m_setPounds f_m_plainTime f_m_muleTime f_m_planTo f_m_march f_m_tired f_m_ranMinutes f_m_tiredAhead f_m_isReached f_m_toEnd f_m_upTo f_m_upNext f_m_byChanges f_m_bandPaces H.size i all (by omega) (by omega)) (gi_V lwd_645 lwd_646 lwd_647 lwd_5 lwd_648) ⟨rfl, hd_X10_canAsk⟩ ⟨Nat.le_of_ble_eq_true rfl, Nat.le_of_ble_eq_true rfl⟩ rfl (Nat.le_of_ble_eq_true rfl) dX10_parts_15) (fun r_11 u_10 H locs hw hP hD hS => ?_)
    try dsimp only at hw hP hD
    obtain ⟨p_12, p_13⟩ := hw
    refine lv_if_eq (tgt := 34) hx hb dX10_parts_18 (by decide) (fun c_14 => ?_) (fun c_14 => ?_)
    · have gc_14 : r_11.toInt = 0 := i_eq (rfl : r_11.toInt = r_11.toInt) (by decide : (0 : Int32).toInt = 0) c_14
      refine lv_iconst (v := (-1)) hx hb dX10_parts_34 (by decide) ?_
      have k_15 : ((-1) : Int32).toInt = (-1) := by decide
      exact hrt (-1) v_atW v_atL v_atT v_atH v_atM v_atI v_atQ f_m_worth f_m_isRefused f_m_least ⟨(by omega), hr_m_isRefused⟩ hP hD hS rfl dX10_parts_35
    · have gc_14 : r_11.toInt ≠ 0 := i_ne (rfl : r_11.toInt = r_11.toInt) (by decide : (0 : Int32).toInt = 0) c_14
      refine lv_iload hx hb dX10_parts_21 (lv_at hl 4 rfl) ?_
      refine lv_i2l (v := what.toInt64) hx hb dX10_parts_23 rfl ?_
      have hl_16 : what.toInt64.toInt = what.toInt := i_l (rfl : what.toInt = what.toInt)
      refine lv_lconst (v := 0) hx hb dX10_parts_24 (by decide) ?_
      refine lv_ldc2 hx hb hown (hts _ lwd_644) dX10_parts_25 ?_
      have k_17 : (2 : Int64).toInt = 2 := by decide
      refine xi hD hS hA (xS (As := [.long what.toInt64, .long 0, .long 2]) (rest := []) hx hb hml hown hts hK hP hD hS hA NT_ok hN hAe hl.1 ⟨Nat.le_refl _, Nat.le_refl _⟩ (c_X10_lies l D cy hm v_taped v_walkers v_loads v_pieces v_changeCosts v_planned v_isMarch v_clauseMany v_place v_end v_bad v_clauses v_codes v_open v_stacked v_isOver v_isBehind v_atW v_atL v_atT v_atH v_atM v_atI v_atQ v_packing v_packed v_goPace v_goMinutes v_spentAt v_ranChanges f_m_tape f_m_knee f_m_weight f_m_isLame f_m_loadWeight f_m_owner f_m_food f_m_miles f_m_slope f_m_clauseLetter f_m_sumFrom f_m_codeFrom f_m_codeTo f_m_code f_m_codeArg f_m_newLetter f_m_newSum f_m_newFrom f_m_newTo f_m_newCode f_m_newArg f_m_stack f_m_worth f_m_isRefused f_m_least f_m_packPounds f_m_packOwner f_m_room f_m_givenTo f_m_canBe f_m_setPounds f_m_plainTime f_m_muleTime f_m_planTo f_m_march f_m_tired f_m_ranMinutes f_m_tiredAhead f_m_isReached f_m_toEnd f_m_upTo f_m_upNext f_m_byChanges f_m_bandPaces H.size what.toInt64 0 2) (gi_S lwd_226 lwd_227 lwd_5 lwd_228) hd_X10_lies ⟨Nat.le_of_ble_eq_true rfl, Nat.le_of_ble_eq_true rfl⟩ rfl (Nat.le_of_ble_eq_true rfl) dX10_parts_28) (fun r_19 u_18 H locs hw hP hD hS => ?_)
      try dsimp only at hw hP hD
      obtain ⟨p_20, p_21⟩ := hw
      refine lv_if_ne (tgt := 36) hx hb dX10_parts_31 (by decide) (fun c_22 => ?_) (fun c_22 => ?_)
      · have gc_22 : r_19.toInt ≠ 0 := i_ne (rfl : r_19.toInt = r_19.toInt) (by decide : (0 : Int32).toInt = 0) c_22
        refine lv_aload_n hx hb dX10_parts_36 rfl (lv_at hl 0 rfl) ?_
        refine lv_iload_n hx hb dX10_parts_37 rfl (lv_at hl 2 rfl) ?_
        refine lv_iload_n hx hb dX10_parts_38 rfl (lv_at hl 3 rfl) ?_
        refine xv hD hS hA (xV (As := [.int i, .int all]) (rest := []) hx hb hml hown hts hK hP hD hS hA NT_ok hN hAe hl.1 ⟨Nat.le_refl _, Nat.le_refl _⟩ 0 rfl rfl rfl (c_X10_lays l D cy hm v_taped v_walkers v_loads v_pieces v_changeCosts v_planned v_isMarch v_clauseMany v_place v_end v_bad v_clauses v_codes v_open v_stacked v_isOver v_isBehind v_atW v_atL v_atT v_atH v_atM v_atI v_atQ v_packing v_packed v_goPace v_goMinutes v_spentAt v_ranChanges f_m_tape f_m_knee f_m_weight f_m_isLame f_m_loadWeight f_m_owner f_m_food f_m_miles f_m_slope f_m_clauseLetter f_m_sumFrom f_m_codeFrom f_m_codeTo f_m_code f_m_codeArg f_m_newLetter f_m_newSum f_m_newFrom f_m_newTo f_m_newCode f_m_newArg f_m_stack f_m_worth f_m_isRefused f_m_least f_m_packPounds f_m_packOwner f_m_room f_m_givenTo f_m_canBe f_m_setPounds f_m_plainTime f_m_muleTime f_m_planTo f_m_march f_m_tired f_m_ranMinutes f_m_tiredAhead f_m_isReached f_m_toEnd f_m_upTo f_m_upNext f_m_byChanges f_m_bandPaces H.size i all (by omega) (by omega) (by omega) hr_m_weight hr_m_isLame hr_m_miles hr_m_isRefused (by omega) (by omega) hwf) (gi_V lwd_653 lwd_654 lwd_655 lwd_5 lwd_656) ⟨rfl, hd_X10_lays⟩ ⟨Nat.le_of_ble_eq_true rfl, Nat.le_of_ble_eq_true rfl⟩ rfl (Nat.le_of_ble_eq_true rfl) dX10_parts_39) (fun u_23 H locs hw hP hD hS => ?_)
        obtain ⟨zatW_25, zatL_26, zatT_27, zatH_28, zatM_29, zatI_30, zatQ_31, zworth_32, zisRefused_33, zleast_34⟩ := u_23
        try dsimp only at hw hP hD
        obtain ⟨p_35, p_36⟩ := hw
        refine lv_aload_n hx hb dX10_parts_42 rfl (lv_at hl 0 rfl) ?_
        refine lv_iload_n hx hb dX10_parts_43 rfl (lv_at hl 1 rfl) ?_
        refine xi hD hS hA (xV (As := [.int pd]) (rest := []) hx hb hml hown hts hK hP hD hS hA NT_ok hN hAe hl.1 ⟨Nat.le_refl _, Nat.le_refl _⟩ 0 rfl rfl rfl (c_X10_partsPace l D cy hm v_taped v_walkers v_loads v_pieces v_changeCosts v_planned v_isMarch v_clauseMany v_place v_end v_bad v_clauses v_codes v_open v_stacked v_isOver v_isBehind zatW_25 zatL_26 zatT_27 zatH_28 zatM_29 zatI_30 zatQ_31 v_packing v_packed v_goPace v_goMinutes v_spentAt v_ranChanges f_m_tape f_m_knee f_m_weight f_m_isLame f_m_loadWeight f_m_owner f_m_food f_m_miles f_m_slope f_m_clauseLetter f_m_sumFrom f_m_codeFrom f_m_codeTo f_m_code f_m_codeArg f_m_newLetter f_m_newSum f_m_newFrom f_m_newTo f_m_newCode f_m_newArg f_m_stack zworth_32 zisRefused_33 zleast_34 f_m_packPounds f_m_packOwner f_m_room f_m_givenTo f_m_canBe f_m_setPounds f_m_plainTime f_m_muleTime f_m_planTo f_m_march f_m_tired f_m_ranMinutes f_m_tiredAhead f_m_isReached f_m_toEnd f_m_upTo f_m_upNext f_m_byChanges f_m_bandPaces H.size pd (by omega)) (gi_V lwd_660 lwd_661 lwd_662 lwd_5 lwd_663) ⟨rfl, hd_X10_partsPace⟩ ⟨Nat.le_of_ble_eq_true rfl, Nat.le_of_ble_eq_true rfl⟩ rfl (Nat.le_of_ble_eq_true rfl) dX10_parts_44) (fun r_38 u_37 H locs hw hP hD hS => ?_)
        try dsimp only at hw hP hD
        have p_39 := hw
        clear hw
        refine lv_istore (lv' := [(5, .int r_38), (0, .ref (hm 0)), (1, .int pd), (2, .int i), (3, .int all), (4, .int what)]) hx hb dX10_parts_47 hl (by decide) rfl (fun ls hl => ?_)
        refine lv_iload hx hb dX10_parts_49 (lv_at hl 5 rfl) ?_
        refine lv_if_ne (tgt := 57) hx hb dX10_parts_51 (by decide) (fun c_40 => ?_) (fun c_40 => ?_)
        · have gc_40 : what.toInt ≠ 0 := i_ne (rfl : what.toInt = what.toInt) (by decide : (0 : Int32).toInt = 0) c_40
          refine lv_iload hx hb dX10_parts_57 (lv_at hl 0 rfl) ?_
          refine lv_if_ne (tgt := 75) hx hb dX10_parts_59 (by decide) (fun c_41 => ?_) (fun c_41 => ?_)
          · have gc_41 : r_38.toInt ≠ 0 := i_ne (rfl : r_38.toInt = r_38.toInt) (by decide : (0 : Int32).toInt = 0) c_41
            refine lv_iload hx hb dX10_parts_75 (lv_at hl 5 rfl) ?_
            refine lv_iconst (v := 1) hx hb dX10_parts_77 (by decide) ?_
            refine lv_icmp_ne (tgt := 92) hx hb dX10_parts_78 (by decide) (fun c_42 => ?_) (fun c_42 => ?_)
            · have gc_42 : what.toInt ≠ 1 := i_ne (rfl : what.toInt = what.toInt) (by decide : (1 : Int32).toInt = 1) c_42
              refine lv_aload_n hx hb dX10_parts_92 rfl (lv_at hl 1 rfl) ?_
              refine lv_iload_n hx hb dX10_parts_93 rfl (lv_at hl 3 rfl) ?_
              refine lv_iload hx hb dX10_parts_94 (lv_at hl 0 rfl) ?_
              refine xi hD hS hA (xV (As := [.int i, .int r_38]) (rest := []) hx hb hml hown hts hK hP hD hS hA NT_ok hN hAe hl.1 ⟨Nat.le_refl _, Nat.le_refl _⟩ 0 rfl rfl rfl (c_X10_minutesOf l D cy hm v_taped v_walkers v_loads v_pieces v_changeCosts v_planned v_isMarch v_clauseMany v_place v_end v_bad v_clauses v_codes v_open v_stacked v_isOver v_isBehind zatW_25 zatL_26 zatT_27 zatH_28 zatM_29 zatI_30 zatQ_31 v_packing v_packed v_goPace v_goMinutes v_spentAt v_ranChanges f_m_tape f_m_knee f_m_weight f_m_isLame f_m_loadWeight f_m_owner f_m_food f_m_miles f_m_slope f_m_clauseLetter f_m_sumFrom f_m_codeFrom f_m_codeTo f_m_code f_m_codeArg f_m_newLetter f_m_newSum f_m_newFrom f_m_newTo f_m_newCode f_m_newArg f_m_stack zworth_32 zisRefused_33 zleast_34 f_m_packPounds f_m_packOwner f_m_room f_m_givenTo f_m_canBe f_m_setPounds f_m_plainTime f_m_muleTime f_m_planTo f_m_march f_m_tired f_m_ranMinutes f_m_tiredAhead f_m_isReached f_m_toEnd f_m_upTo f_m_upNext f_m_byChanges f_m_bandPaces H.size i r_38 hr_m_miles (by omega) (by omega)) (gi_V lwd_668 lwd_669 lwd_670 lwd_5 lwd_671) ⟨rfl, hd_X10_minutesOf⟩ ⟨Nat.le_of_ble_eq_true rfl, Nat.le_of_ble_eq_true rfl⟩ rfl (Nat.le_of_ble_eq_true rfl) dX10_parts_96) (fun r_44 u_43 H locs hw hP hD hS => ?_)
              try dsimp only at hw hP hD
              have p_45 := hw
              clear hw
              exact hrt r_44 zatW_25 zatL_26 zatT_27 zatH_28 zatM_29 zatI_30 zatQ_31 zworth_32 zisRefused_33 zleast_34 ⟨(by omega), p_36⟩ hP hD hS rfl dX10_parts_99
            · have gc_42 : what.toInt = 1 := i_eq (rfl : what.toInt = what.toInt) (by decide : (1 : Int32).toInt = 1) c_42
              refine lv_aload_n hx hb dX10_parts_81 rfl (lv_at hl 1 rfl) ?_
              refine lv_iload hx hb dX10_parts_82 (lv_at hl 0 rfl) ?_
              refine xi hD hS hA (xV (As := [.int r_38]) (rest := []) hx hb hml hown hts hK hP hD hS hA NT_ok hN hAe hl.1 ⟨Nat.le_refl _, Nat.le_refl _⟩ 0 rfl rfl rfl (c_X10_allCarry l D cy hm v_taped v_walkers v_loads v_pieces v_changeCosts v_planned v_isMarch v_clauseMany v_place v_end v_bad v_clauses v_codes v_open v_stacked v_isOver v_isBehind zatW_25 zatL_26 zatT_27 zatH_28 zatM_29 zatI_30 zatQ_31 v_packing v_packed v_goPace v_goMinutes v_spentAt v_ranChanges f_m_tape f_m_knee f_m_weight f_m_isLame f_m_loadWeight f_m_owner f_m_food f_m_miles f_m_slope f_m_clauseLetter f_m_sumFrom f_m_codeFrom f_m_codeTo f_m_code f_m_codeArg f_m_newLetter f_m_newSum f_m_newFrom f_m_newTo f_m_newCode f_m_newArg f_m_stack zworth_32 zisRefused_33 zleast_34 f_m_packPounds f_m_packOwner f_m_room f_m_givenTo f_m_canBe f_m_setPounds f_m_plainTime f_m_muleTime f_m_planTo f_m_march f_m_tired f_m_ranMinutes f_m_tiredAhead f_m_isReached f_m_toEnd f_m_upTo f_m_upNext f_m_byChanges f_m_bandPaces H.size r_38 (by omega)) (gi_V lwd_664 lwd_665 lwd_666 lwd_5 lwd_667) ⟨rfl, hd_X10_allCarry⟩ ⟨Nat.le_of_ble_eq_true rfl, Nat.le_of_ble_eq_true rfl⟩ rfl (Nat.le_of_ble_eq_true rfl) dX10_parts_84) (fun r_47 u_46 H locs hw hP hD hS => ?_)
              try dsimp only at hw hP hD
              clear hw
              refine lv_iload_n hx hb dX10_parts_87 rfl (lv_at hl 2 rfl) ?_
              refine lv_isub hx hb dX10_parts_88 ?_
              refine lv_topi (fun n_48 en_48 => ?_)
              refine lv_goto (tgt := 99) hx hb dX10_parts_89 (by decide) ?_
              exact hrt n_48 zatW_25 zatL_26 zatT_27 zatH_28 zatM_29 zatI_30 zatQ_31 zworth_32 zisRefused_33 zleast_34 ⟨(by omega), p_36⟩ hP hD hS rfl dX10_parts_99
          · have gc_41 : r_38.toInt = 0 := i_eq (rfl : r_38.toInt = r_38.toInt) (by decide : (0 : Int32).toInt = 0) c_41
            refine lv_iload hx hb dX10_parts_62 (lv_at hl 5 rfl) ?_
            refine lv_iconst (v := 1) hx hb dX10_parts_64 (by decide) ?_
            refine lv_icmp_ne (tgt := 72) hx hb dX10_parts_65 (by decide) (fun c_49 => ?_) (fun c_49 => ?_)
            · have gc_49 : what.toInt ≠ 1 := i_ne (rfl : what.toInt = what.toInt) (by decide : (1 : Int32).toInt = 1) c_49
              refine lv_bipush (v := (-2)) hx hb dX10_parts_72 (by decide) ?_
              have k_50 : ((-2) : Int32).toInt = (-2) := by decide
              exact hrt (-2) zatW_25 zatL_26 zatT_27 zatH_28 zatM_29 zatI_30 zatQ_31 zworth_32 zisRefused_33 zleast_34 ⟨(by omega), p_36⟩ hP hD hS rfl dX10_parts_74
            · have gc_49 : what.toInt = 1 := i_eq (rfl : what.toInt = what.toInt) (by decide : (1 : Int32).toInt = 1) c_49
              refine lv_iconst (v := 0) hx hb dX10_parts_68 (by decide) ?_
              refine lv_goto (tgt := 74) hx hb dX10_parts_69 (by decide) ?_
              have k_51 : (0 : Int32).toInt = 0 := by decide
              exact hrt 0 zatW_25 zatL_26 zatT_27 zatH_28 zatM_29 zatI_30 zatQ_31 zworth_32 zisRefused_33 zleast_34 ⟨(by omega), p_36⟩ hP hD hS rfl dX10_parts_74
        · have gc_40 : what.toInt = 0 := i_eq (rfl : what.toInt = what.toInt) (by decide : (0 : Int32).toInt = 0) c_40
          refine lv_iload hx hb dX10_parts_54 (lv_at hl 0 rfl) ?_
          exact hrt r_38 zatW_25 zatL_26 zatT_27 zatH_28 zatM_29 zatI_30 zatQ_31 zworth_32 zisRefused_33 zleast_34 ⟨(by omega), p_36⟩ hP hD hS rfl dX10_parts_56
      · have gc_22 : r_19.toInt = 0 := i_eq (rfl : r_19.toInt = r_19.toInt) (by decide : (0 : Int32).toInt = 0) c_22
        refine lv_iconst (v := (-1)) hx hb dX10_parts_34 (by decide) ?_
        have k_52 : ((-1) : Int32).toInt = (-1) := by decide
        exact hrt (-1) v_atW v_atL v_atT v_atH v_atM v_atI v_atQ f_m_worth f_m_isRefused f_m_least ⟨(by omega), hr_m_isRefused⟩ hP hD hS rfl dX10_parts_35
set_option maxHeartbeats 16000000 in
set_option maxRecDepth 100000 in
theorem c_X10_packs (l : Launch) (D : va_G) (cy : Nat → ClassId) (hm : Nat → Nat) (v_taped v_walkers v_loads v_pieces v_changeCosts v_planned v_isMarch v_clauseMany v_place v_end v_bad v_clauses v_codes v_open v_stacked v_isOver v_isBehind v_atW v_atL v_atT v_atH v_atM v_atI v_atQ v_packing v_packed v_goPace v_goMinutes v_spentAt v_ranChanges : Int32) (f_m_tape f_m_knee f_m_weight f_m_isLame f_m_loadWeight f_m_owner f_m_food f_m_miles f_m_slope f_m_clauseLetter f_m_sumFrom f_m_codeFrom f_m_codeTo f_m_code f_m_codeArg f_m_newLetter f_m_newSum f_m_newFrom f_m_newTo f_m_newCode f_m_newArg f_m_stack f_m_worth f_m_isRefused f_m_least f_m_packPounds f_m_packOwner f_m_room f_m_givenTo f_m_canBe f_m_setPounds f_m_plainTime f_m_muleTime f_m_planTo f_m_march f_m_tired f_m_ranMinutes f_m_tiredAhead f_m_isReached f_m_toEnd f_m_upTo f_m_upNext f_m_byChanges f_m_bandPaces : Nat → Int32) (sz : Nat) (i : Int32) (who : Int32) (own : Int32) (hb_v_loads : 0 ≤ v_loads.toInt ∧ v_loads.toInt ≤ 9) (hb_v_packed : 0 ≤ v_packed.toInt ∧ v_packed.toInt ≤ 10) (hr_m_loadWeight : rg (0) 120 f_m_loadWeight) (hr_m_owner : rg (-1) 5 f_m_owner) (hr_m_food : rg (0) 20 f_m_food) (hr_m_packPounds : rg (0) 250 f_m_packPounds) (hr_m_packOwner : rg (-1) 5 f_m_packOwner) (ha_i : 0 ≤ i.toInt ∧ i.toInt ≤ 9) (ha_own : 0 ≤ own.toInt ∧ own.toInt ≤ 1) : gMv l yX10_packs cX10_packs 5 2 [.ref (hm 0), .int i, .int who, .int own] D cy (wMD cy hm v_taped v_walkers v_loads v_pieces v_changeCosts v_planned v_isMarch v_clauseMany v_place v_end v_bad v_clauses v_codes v_open v_stacked v_isOver v_isBehind v_atW v_atL v_atT v_atH v_atM v_atI v_atQ v_packing v_packed v_goPace v_goMinutes v_spentAt v_ranChanges f_m_tape f_m_knee f_m_weight f_m_isLame f_m_loadWeight f_m_owner f_m_food f_m_miles f_m_slope f_m_clauseLetter f_m_sumFrom f_m_codeFrom f_m_codeTo f_m_code f_m_codeArg f_m_newLetter f_m_newSum f_m_newFrom f_m_newTo f_m_newCode f_m_newArg f_m_stack f_m_worth f_m_isRefused f_m_least f_m_packPounds f_m_packOwner f_m_room f_m_givenTo f_m_canBe f_m_setPounds f_m_plainTime f_m_muleTime f_m_planTo f_m_march f_m_tired f_m_ranMinutes f_m_tiredAhead f_m_isReached f_m_toEnd f_m_upTo f_m_upNext f_m_byChanges f_m_bandPaces) NT sz (fun (u : Int32 × Int32 × (Nat → Int32) × (Nat → Int32)) => ((u.2.1).toInt = v_loads.toInt) ∧ (0 ≤ (u.2.1).toInt ∧ (u.2.1).toInt ≤ 10) ∧ (rg (0) 250 (u.2.2.1)) ∧ (rg (-1) 5 (u.2.2.2))) (fun u => wMD cy hm v_taped v_walkers v_loads v_pieces v_changeCosts v_planned v_isMarch v_clauseMany v_place v_end v_bad v_clauses v_codes v_open v_stacked v_isOver v_isBehind v_atW v_atL v_atT v_atH v_atM v_atI v_atQ (u.1) (u.2.1) v_goPace v_goMinutes v_spentAt v_ranChanges f_m_tape f_m_knee f_m_weight f_m_isLame f_m_loadWeight f_m_owner f_m_food f_m_miles f_m_slope f_m_clauseLetter f_m_sumFrom f_m_codeFrom f_m_codeTo f_m_code f_m_codeArg f_m_newLetter f_m_newSum f_m_newFrom f_m_newTo f_m_newCode f_m_newArg f_m_stack f_m_worth f_m_isRefused f_m_least (u.2.2.1) (u.2.2.2) f_m_room f_m_givenTo f_m_canBe f_m_setPounds f_m_plainTime f_m_muleTime f_m_planTo f_m_march f_m_tired f_m_ranMinutes f_m_tiredAhead f_m_isReached f_m_toEnd f_m_upTo f_m_upNext f_m_byChanges f_m_bandPaces) := by
  refine gMv_in (by decide) (Nat.le_of_ble_eq_true rfl) ?_
  intro p e s m args below meth c A ls Q hx hb hml hts hown hsz hP hK hD hN hAe hA hS hl hret
  subst hsz
  have hl : lv_has ls 5 [(0, .ref (hm 0)), (1, .int i), (2, .int who), (3, .int own)] := hl
  have hrt := fun (v_packing' : Int32) (v_packed' : Int32) (f_m_packPounds' : Nat → Int32) (f_m_packOwner' : Nat → Int32) (hp : (v_packed'.toInt = v_loads.toInt) ∧ (0 ≤ v_packed'.toInt ∧ v_packed'.toInt ≤ 10) ∧ (rg (0) 250 f_m_packPounds') ∧ (rg (-1) 5 f_m_packOwner')) {H : Heap} {locs : List Loc} {pc : Nat} {ls : Array Slot} => hret (v_packing', v_packed', f_m_packPounds', f_m_packOwner') (H := H) (locs := locs) (pc := pc) (ls := ls) hp
  clear hret
  refine lv_aload_n hx hb dX10_packs_0 rfl (lv_at hl 0 rfl) ?_
  refine lv_iload_n hx hb dX10_packs_1 rfl (lv_at hl 2 rfl) ?_
  refine pt_MD_MD_packing (x := who) hx hb hts hown hK hP hD hS lwd_744 dX10_packs_2 (fun H locs hP hD hS => ?_)
  refine lv_aload_n hx hb dX10_packs_5 rfl (lv_at hl 0 rfl) ?_
  refine lv_aload_n hx hb dX10_packs_6 rfl (lv_at hl 0 rfl) ?_
  refine gt_MD_MD_loads hx hb hts hown hK hP lwd_247 dX10_packs_7 ?_
  refine pt_MD_MD_packed (x := v_loads) hx hb hts hown hK hP hD hS lwd_745 dX10_packs_10 (fun H locs hP hD hS => ?_)
  refine lv_iconst (v := 0) hx hb dX10_packs_13 (by decide) ?_
  refine lv_istore (lv' := [(4, .int 0), (0, .ref (hm 0)), (1, .int i), (2, .int who), (3, .int own)]) hx hb dX10_packs_14 hl (by decide) rfl (fun ls hl => ?_)
  have L16_7 : ∀ (n : Nat) (f_4 : Nat → Int32) (f_5 : Nat → Int32) (l_6 : Int32), (rg (-1) 5 f_4) → (rg (0) 250 f_5) → (0 ≤ l_6.toInt ∧ l_6.toInt ≤ 9) → 10 - l_6.toInt < n → ∀ (H : Heap) (locs : List Loc) (ls : Array Slot), va_P D vwCl (wMD cy hm v_taped v_walkers v_loads v_pieces v_changeCosts v_planned v_isMarch v_clauseMany v_place v_end v_bad v_clauses v_codes v_open v_stacked v_isOver v_isBehind v_atW v_atL v_atT v_atH v_atM v_atI v_atQ who v_loads v_goPace v_goMinutes v_spentAt v_ranChanges f_m_tape f_m_knee f_m_weight f_m_isLame f_m_loadWeight f_m_owner f_m_food f_m_miles f_m_slope f_m_clauseLetter f_m_sumFrom f_m_codeFrom f_m_codeTo f_m_code f_m_codeArg f_m_newLetter f_m_newSum f_m_newFrom f_m_newTo f_m_newCode f_m_newArg f_m_stack f_m_worth f_m_isRefused f_m_least f_5 f_4 f_m_room f_m_givenTo f_m_canBe f_m_setPounds f_m_plainTime f_m_muleTime f_m_planTo f_m_march f_m_tired f_m_ranMinutes f_m_tiredAhead f_m_isReached f_m_toEnd f_m_upTo f_m_upNext f_m_byChanges f_m_bandPaces) H → va_D A (wMD cy hm v_taped v_walkers v_loads v_pieces v_changeCosts v_planned v_isMarch v_clauseMany v_place v_end v_bad v_clauses v_codes v_open v_stacked v_isOver v_isBehind v_atW v_atL v_atT v_atH v_atM v_atI v_atQ who v_loads v_goPace v_goMinutes v_spentAt v_ranChanges f_m_tape f_m_knee f_m_weight f_m_isLame f_m_loadWeight f_m_owner f_m_food f_m_miles f_m_slope f_m_clauseLetter f_m_sumFrom f_m_codeFrom f_m_codeTo f_m_code f_m_codeArg f_m_newLetter f_m_newSum f_m_newFrom f_m_newTo f_m_newCode f_m_newArg f_m_stack f_m_worth f_m_isRefused f_m_least f_5 f_4 f_m_room f_m_givenTo f_m_canBe f_m_setPounds f_m_plainTime f_m_muleTime f_m_planTo f_m_march f_m_tired f_m_ranMinutes f_m_tiredAhead f_m_isReached f_m_toEnd f_m_upTo f_m_upNext f_m_byChanges f_m_bandPaces) → va_S A s.heap H locs → lv_has ls 5 [(4, .int l_6), (0, .ref (hm 0)), (1, .int i), (2, .int who), (3, .int own)] → W p l e (gRm 2) s m args below meth c H locs 0 0 Q (F0 m 16 ls []) := by
    intro n
    induction n with
    | zero => intro f_4 f_5 l_6 hL16_7_0 hL16_7_1 hL16_7_2 hm; exact absurd hm (by omega)
    | succ n ih16_7 =>
      intro f_4 f_5 l_6 hL16_7_0 hL16_7_1 hL16_7_2 hmL16_7 H locs ls hP hD hS hl
      refine lv_iload hx hb dX10_packs_16 (lv_at hl 0 rfl) ?_
      refine lv_aload_n hx hb dX10_packs_18 rfl (lv_at hl 1 rfl) ?_
      refine gt_MD_MD_loads hx hb hts hown hK hP lwd_247 dX10_packs_19 ?_
      refine lv_icmp_ge (tgt := 92) hx hb dX10_packs_22 (by decide) (fun c_8 => ?_) (fun c_8 => ?_)
      · have gc_8 : v_loads.toInt ≤ l_6.toInt := i_le (rfl : v_loads.toInt = v_loads.toInt) (rfl : l_6.toInt = l_6.toInt) c_8
        exact hrt who v_loads f_5 f_4 ⟨(by omega), (by omega), hL16_7_1, hL16_7_0⟩ hP hD hS dX10_packs_92
      · have gc_8 : l_6.toInt < v_loads.toInt := i_nle (rfl : v_loads.toInt = v_loads.toInt) (rfl : l_6.toInt = l_6.toInt) c_8
        refine lv_aload_n hx hb dX10_packs_25 rfl (lv_at hl 1 rfl) ?_
        refine gt_MD_MD_packPounds hx hb hts hown hK hP lwd_181 dX10_packs_26 ?_
        refine lv_iload hx hb dX10_packs_29 (lv_at hl 0 rfl) ?_
        refine lv_aload_n hx hb dX10_packs_31 rfl (lv_at hl 1 rfl) ?_
        refine lv_iload hx hb dX10_packs_32 (lv_at hl 0 rfl) ?_
        refine lv_iload_n hx hb dX10_packs_34 rfl (lv_at hl 2 rfl) ?_
        refine xi hD hS hA (xV (As := [.int l_6, .int i]) (rest := [.int l_6, .ref (hm 26)]) hx hb hml hown hts hK hP hD hS hA NT_ok hN hAe hl.1 ⟨Nat.le_refl _, Nat.le_refl _⟩ 0 rfl rfl rfl (c_X10_poundsOf l D cy hm v_taped v_walkers v_loads v_pieces v_changeCosts v_planned v_isMarch v_clauseMany v_place v_end v_bad v_clauses v_codes v_open v_stacked v_isOver v_isBehind v_atW v_atL v_atT v_atH v_atM v_atI v_atQ who v_loads v_goPace v_goMinutes v_spentAt v_ranChanges f_m_tape f_m_knee f_m_weight f_m_isLame f_m_loadWeight f_m_owner f_m_food f_m_miles f_m_slope f_m_clauseLetter f_m_sumFrom f_m_codeFrom f_m_codeTo f_m_code f_m_codeArg f_m_newLetter f_m_newSum f_m_newFrom f_m_newTo f_m_newCode f_m_newArg f_m_stack f_m_worth f_m_isRefused f_m_least f_5 f_4 f_m_room f_m_givenTo f_m_canBe f_m_setPounds f_m_plainTime f_m_muleTime f_m_planTo f_m_march f_m_tired f_m_ranMinutes f_m_tiredAhead f_m_isReached f_m_toEnd f_m_upTo f_m_upNext f_m_byChanges f_m_bandPaces H.size l_6 i hr_m_loadWeight hr_m_food (by omega) (by omega)) (gi_V lwd_746 lwd_747 lwd_748 lwd_5 lwd_749) ⟨rfl, hd_X10_poundsOf⟩ ⟨Nat.le_of_ble_eq_true rfl, Nat.le_of_ble_eq_true rfl⟩ rfl (Nat.le_of_ble_eq_true rfl) dX10_packs_35) (fun r_10 u_9 H locs hw hP hD hS => ?_)
        try dsimp only at hw hP hD
        obtain ⟨p_11, p_12⟩ := hw
        refine as_m_packPounds (x := r_10) hx hb hK hP hD hS hL16_7_1 (i_in (rfl : l_6.toInt = l_6.toInt) (by omega) (by omega)) (by omega) dX10_packs_38 (fun f_13 ef_13 rf_13 H locs hP hD hS => ?_)
        refine lv_aload_n hx hb dX10_packs_39 rfl (lv_at hl 1 rfl) ?_
        refine gt_MD_MD_packOwner hx hb hts hown hK hP lwd_182 dX10_packs_40 ?_
        refine lv_iload hx hb dX10_packs_43 (lv_at hl 0 rfl) ?_
        refine lv_iload_n hx hb dX10_packs_45 rfl (lv_at hl 4 rfl) ?_
        refine lv_if_eq (tgt := 84) hx hb dX10_packs_46 (by decide) (fun c_14 => ?_) (fun c_14 => ?_)
        · have gc_14 : own.toInt = 0 := i_eq (rfl : own.toInt = own.toInt) (by decide : (0 : Int32).toInt = 0) c_14
          refine lv_iconst (v := (-1)) hx hb dX10_packs_84 (by decide) ?_
          refine as_m_packOwner (x := (-1)) hx hb hK hP hD hS hL16_7_0 (i_in (rfl : l_6.toInt = l_6.toInt) (by omega) (by omega)) (by decide) dX10_packs_85 (fun f_15 ef_15 rf_15 H locs hP hD hS => ?_)
          obtain ⟨n_16, en_16⟩ : ∃ y : Int32, y = l_6 + 1 := ⟨_, rfl⟩
          have tn_16 : n_16.toInt = l_6.toInt + 1 := i_add en_16 (rfl : l_6.toInt = l_6.toInt) (by decide : (1 : Int32).toInt = 1) (by omega) (by omega)
          refine lv_iinc (v := n_16) (lv' := [(4, .int n_16), (0, .ref (hm 0)), (1, .int i), (2, .int who), (3, .int own)]) hx hb dX10_packs_86 hl (k := 0) rfl (by rw [en_16]; rfl) (by decide) rfl (fun ls hl => ?_)
          refine lv_goto (tgt := 16) hx hb dX10_packs_89 (by decide) ?_
          exact ih16_7 f_15 f_13 n_16 rf_15 rf_13 (by omega) (by omega) _ _ _ hP hD hS (lv_sub hl [0, 1, 2, 3, 4] rfl)
        · have gc_14 : own.toInt ≠ 0 := i_ne (rfl : own.toInt = own.toInt) (by decide : (0 : Int32).toInt = 0) c_14
          refine lv_aload_n hx hb dX10_packs_49 rfl (lv_at hl 1 rfl) ?_
          refine gt_MD_MD_owner hx hb hts hown hK hP lwd_161 dX10_packs_50 ?_
          refine lv_iload hx hb dX10_packs_53 (lv_at hl 0 rfl) ?_
          refine al_m_owner hx hb hK hP hr_m_owner (i_in (rfl : l_6.toInt = l_6.toInt) (by omega) (by omega)) dX10_packs_55 (fun n_17 en_17 bn_17 => ?_)
          refine lv_iconst (v := (-1)) hx hb dX10_packs_56 (by decide) ?_
          refine lv_icmp_eq (tgt := 84) hx hb dX10_packs_57 (by decide) (fun c_18 => ?_) (fun c_18 => ?_)
          · have gc_18 : n_17.toInt = (-1) := i_eq (rfl : n_17.toInt = n_17.toInt) (by decide : ((-1) : Int32).toInt = (-1)) c_18
            refine lv_iconst (v := (-1)) hx hb dX10_packs_84 (by decide) ?_
            refine as_m_packOwner (x := (-1)) hx hb hK hP hD hS hL16_7_0 (i_in (rfl : l_6.toInt = l_6.toInt) (by omega) (by omega)) (by decide) dX10_packs_85 (fun f_19 ef_19 rf_19 H locs hP hD hS => ?_)
            obtain ⟨n_20, en_20⟩ : ∃ y : Int32, y = l_6 + 1 := ⟨_, rfl⟩
            have tn_20 : n_20.toInt = l_6.toInt + 1 := i_add en_20 (rfl : l_6.toInt = l_6.toInt) (by decide : (1 : Int32).toInt = 1) (by omega) (by omega)
            refine lv_iinc (v := n_20) (lv' := [(4, .int n_20), (0, .ref (hm 0)), (1, .int i), (2, .int who), (3, .int own)]) hx hb dX10_packs_86 hl (k := 0) rfl (by rw [en_20]; rfl) (by decide) rfl (fun ls hl => ?_)
            refine lv_goto (tgt := 16) hx hb dX10_packs_89 (by decide) ?_
            exact ih16_7 f_19 f_13 n_20 rf_19 rf_13 (by omega) (by omega) _ _ _ hP hD hS (lv_sub hl [0, 1, 2, 3, 4] rfl)
          · have gc_18 : n_17.toInt ≠ (-1) := i_ne (rfl : n_17.toInt = n_17.toInt) (by decide : ((-1) : Int32).toInt = (-1)) c_18
            refine lv_iload_n hx hb dX10_packs_60 rfl (lv_at hl 3 rfl) ?_
            refine lv_aload_n hx hb dX10_packs_61 rfl (lv_at hl 1 rfl) ?_
            refine gt_MD_MD_owner hx hb hts hown hK hP lwd_161 dX10_packs_62 ?_
            refine lv_iload hx hb dX10_packs_65 (lv_at hl 0 rfl) ?_
            refine al_m_owner hx hb hK hP hr_m_owner (i_in (rfl : l_6.toInt = l_6.toInt) (by omega) (by omega)) dX10_packs_67 (fun n_21 en_21 bn_21 => ?_)
            obtain rfl : n_17 = n_21 := en_17.trans en_21.symm
            refine xi hD hS hA (xS (As := [.int who, .int n_17]) (rest := [.int l_6, .ref (hm 27)]) hx hb hml hown hts hK hP hD hS hA NT_ok hN hAe hl.1 ⟨Nat.le_refl _, Nat.le_refl _⟩ (c_X10_has l D cy hm v_taped v_walkers v_loads v_pieces v_changeCosts v_planned v_isMarch v_clauseMany v_place v_end v_bad v_clauses v_codes v_open v_stacked v_isOver v_isBehind v_atW v_atL v_atT v_atH v_atM v_atI v_atQ who v_loads v_goPace v_goMinutes v_spentAt v_ranChanges f_m_tape f_m_knee f_m_weight f_m_isLame f_m_loadWeight f_m_owner f_m_food f_m_miles f_m_slope f_m_clauseLetter f_m_sumFrom f_m_codeFrom f_m_codeTo f_m_code f_m_codeArg f_m_newLetter f_m_newSum f_m_newFrom f_m_newTo f_m_newCode f_m_newArg f_m_stack f_m_worth f_m_isRefused f_m_least f_13 f_4 f_m_room f_m_givenTo f_m_canBe f_m_setPounds f_m_plainTime f_m_muleTime f_m_planTo f_m_march f_m_tired f_m_ranMinutes f_m_tiredAhead f_m_isReached f_m_toEnd f_m_upTo f_m_upNext f_m_byChanges f_m_bandPaces H.size who n_17) (gi_S lwd_750 lwd_751 lwd_5 lwd_752) hd_X10_has ⟨Nat.le_of_ble_eq_true rfl, Nat.le_of_ble_eq_true rfl⟩ rfl (Nat.le_of_ble_eq_true rfl) dX10_packs_68) (fun r_23 u_22 H locs hw hP hD hS => ?_)
            try dsimp only at hw hP hD
            obtain ⟨p_24, p_25⟩ := hw
            refine lv_if_eq (tgt := 84) hx hb dX10_packs_71 (by decide) (fun c_26 => ?_) (fun c_26 => ?_)
            · have gc_26 : r_23.toInt = 0 := i_eq (rfl : r_23.toInt = r_23.toInt) (by decide : (0 : Int32).toInt = 0) c_26
              refine lv_iconst (v := (-1)) hx hb dX10_packs_84 (by decide) ?_
              refine as_m_packOwner (x := (-1)) hx hb hK hP hD hS hL16_7_0 (i_in (rfl : l_6.toInt = l_6.toInt) (by omega) (by omega)) (by decide) dX10_packs_85 (fun f_27 ef_27 rf_27 H locs hP hD hS => ?_)
              obtain ⟨n_28, en_28⟩ : ∃ y : Int32, y = l_6 + 1 := ⟨_, rfl⟩
              have tn_28 : n_28.toInt = l_6.toInt + 1 := i_add en_28 (rfl : l_6.toInt = l_6.toInt) (by decide : (1 : Int32).toInt = 1) (by omega) (by omega)
              refine lv_iinc (v := n_28) (lv' := [(4, .int n_28), (0, .ref (hm 0)), (1, .int i), (2, .int who), (3, .int own)]) hx hb dX10_packs_86 hl (k := 0) rfl (by rw [en_28]; rfl) (by decide) rfl (fun ls hl => ?_)
              refine lv_goto (tgt := 16) hx hb dX10_packs_89 (by decide) ?_
              exact ih16_7 f_27 f_13 n_28 rf_27 rf_13 (by omega) (by omega) _ _ _ hP hD hS (lv_sub hl [0, 1, 2, 3, 4] rfl)
            · have gc_26 : r_23.toInt ≠ 0 := i_ne (rfl : r_23.toInt = r_23.toInt) (by decide : (0 : Int32).toInt = 0) c_26
              refine lv_aload_n hx hb dX10_packs_74 rfl (lv_at hl 1 rfl) ?_
              refine gt_MD_MD_owner hx hb hts hown hK hP lwd_161 dX10_packs_75 ?_
              refine lv_iload hx hb dX10_packs_78 (lv_at hl 0 rfl) ?_
              refine al_m_owner hx hb hK hP hr_m_owner (i_in (rfl : l_6.toInt = l_6.toInt) (by omega) (by omega)) dX10_packs_80 (fun n_29 en_29 bn_29 => ?_)
              obtain rfl : n_17 = n_29 := en_17.trans en_29.symm
              refine lv_goto (tgt := 85) hx hb dX10_packs_81 (by decide) ?_
              refine as_m_packOwner (x := n_17) hx hb hK hP hD hS hL16_7_0 (i_in (rfl : l_6.toInt = l_6.toInt) (by omega) (by omega)) (by omega) dX10_packs_85 (fun f_30 ef_30 rf_30 H locs hP hD hS => ?_)
              obtain ⟨n_31, en_31⟩ : ∃ y : Int32, y = l_6 + 1 := ⟨_, rfl⟩
              have tn_31 : n_31.toInt = l_6.toInt + 1 := i_add en_31 (rfl : l_6.toInt = l_6.toInt) (by decide : (1 : Int32).toInt = 1) (by omega) (by omega)
              refine lv_iinc (v := n_31) (lv' := [(4, .int n_31), (0, .ref (hm 0)), (1, .int i), (2, .int who), (3, .int own)]) hx hb dX10_packs_86 hl (k := 0) rfl (by rw [en_31]; rfl) (by decide) rfl (fun ls hl => ?_)
              refine lv_goto (tgt := 16) hx hb dX10_packs_89 (by decide) ?_
              exact ih16_7 f_30 f_13 n_31 rf_30 rf_13 (by omega) (by omega) _ _ _ hP hD hS (lv_sub hl [0, 1, 2, 3, 4] rfl)
  have k_32 : (0 : Int32).toInt = 0 := by decide
  exact L16_7 8589934592 f_m_packOwner f_m_packPounds 0 hr_m_packOwner hr_m_packPounds (by omega) (by omega) _ _ _ hP hD hS (lv_sub hl [0, 1, 2, 3, 4] rfl)
