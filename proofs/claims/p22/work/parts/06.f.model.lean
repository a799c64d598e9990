set_option maxHeartbeats 16000000 in
set_option maxRecDepth 100000 in
theorem c_X10_isChange (l : Launch) (D : va_G) (cy : Nat → ClassId) (hm : Nat → Nat) (v_taped v_walkers v_loads v_pieces v_changeCosts v_planned v_isMarch v_clauseMany v_place v_end v_bad v_clauses v_codes v_open v_stacked v_isOver v_isBehind v_atW v_atL v_atT v_atH v_atM v_atI v_atQ v_packing v_packed v_goPace v_goMinutes v_spentAt v_ranChanges : Int32) (f_m_tape f_m_knee f_m_weight f_m_isLame f_m_loadWeight f_m_owner f_m_food f_m_miles f_m_slope f_m_clauseLetter f_m_sumFrom f_m_codeFrom f_m_codeTo f_m_code f_m_codeArg f_m_newLetter f_m_newSum f_m_newFrom f_m_newTo f_m_newCode f_m_newArg f_m_stack f_m_worth f_m_isRefused f_m_least f_m_packPounds f_m_packOwner f_m_room f_m_givenTo f_m_canBe f_m_setPounds f_m_plainTime f_m_muleTime f_m_planTo f_m_march f_m_tired f_m_ranMinutes f_m_tiredAhead f_m_isReached f_m_toEnd f_m_upTo f_m_upNext f_m_byChanges f_m_bandPaces : Nat → Int32) (sz : Nat) (i : Int32) (hr_m_march : rg (0) 17 f_m_march) (ha_i : 0 ≤ i.toInt ∧ i.toInt ≤ 9) : gMi l yX10_isChange cX10_isChange 2 .boolean 1 [.ref (hm 0), .int i] D cy (wMD cy hm v_taped v_walkers v_loads v_pieces v_changeCosts v_planned v_isMarch v_clauseMany v_place v_end v_bad v_clauses v_codes v_open v_stacked v_isOver v_isBehind v_atW v_atL v_atT v_atH v_atM v_atI v_atQ v_packing v_packed v_goPace v_goMinutes v_spentAt v_ranChanges f_m_tape f_m_knee f_m_weight f_m_isLame f_m_loadWeight f_m_owner f_m_food f_m_miles f_m_slope f_m_clauseLetter f_m_sumFrom f_m_codeFrom f_m_codeTo f_m_code f_m_codeArg f_m_newLetter f_m_newSum f_m_newFrom f_m_newTo f_m_newCode f_m_newArg f_m_stack f_m_worth f_m_isRefused f_m_least f_m_packPounds f_m_packOwner f_m_room f_m_givenTo f_m_canBe f_m_setPounds f_m_plainTime f_m_muleTime f_m_planTo f_m_march f_m_tired f_m_ranMinutes f_m_tiredAhead f_m_isReached f_m_toEnd f_m_upTo f_m_upNext f_m_byChanges f_m_bandPaces) NT sz (fun (r : Int32) (u : Unit) => (0 ≤ r.toInt ∧ r.toInt ≤ 1)) (fun u => wMD cy hm v_taped v_walkers v_loads v_pieces v_changeCosts v_planned v_isMarch v_clauseMany v_place v_end v_bad v_clauses v_codes v_open v_stacked v_isOver v_isBehind v_atW v_atL v_atT v_atH v_atM v_atI v_atQ v_packing v_packed v_goPace v_goMinutes v_spentAt v_ranChanges f_m_tape f_m_knee f_m_weight f_m_isLame f_m_loadWeight f_m_owner f_m_food f_m_miles f_m_slope f_m_clauseLetter f_m_sumFrom f_m_codeFrom f_m_codeTo f_m_code f_m_codeArg f_m_newLetter f_m_newSum f_m_newFrom f_m_newTo f_m_newCode f_m_newArg f_m_stack f_m_worth f_m_isRefused f_m_least f_m_packPounds f_m_packOwner f_m_room f_m_givenTo f_m_canBe f_m_setPounds f_m_plainTime f_m_muleTime f_m_planTo f_m_march f_m_tired f_m_ranMinutes f_m_tiredAhead f_m_isReached f_m_toEnd f_m_upTo f_m_upNext f_m_byChanges f_m_bandPaces) := by
  refine gMi_in (by decide) (Nat.le_of_ble_eq_true rfl) ?_
  intro p e s m args below meth c A ls Q hx hb hml hts hown hsz hP hK hD hN hAe hA hS hl hret
  subst hsz
  have hl : lv_has ls 2 [(0, .ref (hm 0)), (1, .int i)] := hl
  have hrt := fun (r : Int32)  (hp : (0 ≤ r.toInt ∧ r.toInt ≤ 1)) {H : Heap} {locs : List Loc} {pc : Nat} {ls : Array Slot} => hret r () (H := H) (locs := locs) (pc := pc) (ls := ls) hp
  clear hret
  refine lv_iload_n hx hb dX10_isChange_0 rfl (lv_at hl 1 rfl) ?_
  refine lv_if_le (tgt := 31) hx hb dX10_isChange_1 (by decide) (fun c_1 => ?_) (fun c_1 => ?_)
  · have gc_1 : i.toInt ≤ 0 := i_le (rfl : i.toInt = i.toInt) (by decide : (0 : Int32).toInt = 0) c_1
    refine lv_iconst (v := 0) hx hb dX10_isChange_31 (by decide) ?_
    have k_2 : (0 : Int32).toInt = 0 := by decide
    exact hrt 0  (by omega) hP hD hS rfl dX10_isChange_32
  · have gc_1 : 0 < i.toInt := i_nle (rfl : i.toInt = i.toInt) (by decide : (0 : Int32).toInt = 0) c_1
    refine lv_aload_n hx hb dX10_isChange_4 rfl (lv_at hl 0 rfl) ?_
    refine gt_MD_MD_march hx hb hts hown hK hP lwd_190 dX10_isChange_5 ?_
    refine lv_iload_n hx hb dX10_isChange_8 rfl (lv_at hl 1 rfl) ?_
    refine al_m_march hx hb hK hP hr_m_march (i_in (rfl : i.toInt = i.toInt) (by omega) (by omega)) dX10_isChange_9 (fun n_3 en_3 bn_3 => ?_)
    refine lv_bipush (v := 6) hx hb dX10_isChange_10 (by decide) ?_
    refine lv_irem hx hb dX10_isChange_12 (by decide) ?_
    refine lv_topi (fun n_4 en_4 => ?_)
    have tn_4 : n_4.toInt = n_3.toInt % 6 := i_rem en_4 (rfl : n_3.toInt = n_3.toInt) (by decide : (6 : Int32).toInt = 6) (by omega) (by omega)
    refine lv_aload_n hx hb dX10_isChange_13 rfl (lv_at hl 0 rfl) ?_
    refine gt_MD_MD_march hx hb hts hown hK hP lwd_190 dX10_isChange_14 ?_
    refine lv_iload_n hx hb dX10_isChange_17 rfl (lv_at hl 1 rfl) ?_
    refine lv_iconst (v := 1) hx hb dX10_isChange_18 (by decide) ?_
    refine lv_isub hx hb dX10_isChange_19 ?_
    refine lv_topi (fun n_5 en_5 => ?_)
    have tn_5 : n_5.toInt = i.toInt - 1 := i_sub en_5 (rfl : i.toInt = i.toInt) (by decide : (1 : Int32).toInt = 1) (by omega) (by omega)
    refine al_m_march hx hb hK hP hr_m_march (i_in tn_5 (by omega) (by omega)) dX10_isChange_20 (fun n_6 en_6 bn_6 => ?_)
    refine lv_bipush (v := 6) hx hb dX10_isChange_21 (by decide) ?_
    refine lv_irem hx hb dX10_isChange_23 (by decide) ?_
    refine lv_topi (fun n_7 en_7 => ?_)
    have tn_7 : n_7.toInt = n_6.toInt % 6 := i_rem en_7 (rfl : n_6.toInt = n_6.toInt) (by decide : (6 : Int32).toInt = 6) (by omega) (by omega)
    refine lv_icmp_eq (tgt := 31) hx hb dX10_isChange_24 (by decide) (fun c_8 => ?_) (fun c_8 => ?_)
    · have gc_8 : n_3.toInt % 6 = n_6.toInt % 6 := i_eq tn_4 tn_7 c_8
      refine lv_iconst (v := 0) hx hb dX10_isChange_31 (by decide) ?_
      have k_9 : (0 : Int32).toInt = 0 := by decide
      exact hrt 0  (by omega) hP hD hS rfl dX10_isChange_32
    · have gc_8 : n_3.toInt % 6 ≠ n_6.toInt % 6 := i_ne tn_4 tn_7 c_8
      refine lv_iconst (v := 1) hx hb dX10_isChange_27 (by decide) ?_
      refine lv_goto (tgt := 32) hx hb dX10_isChange_28 (by decide) ?_
      have k_10 : (1 : Int32).toInt = 1 := by decide
      exact hrt 1  (by omega) hP hD hS rfl dX10_isChange_32
set_option maxHeartbeats 16000000 in
set_option maxRecDepth 100000 in
theorem c_X10_runs (l : Launch) (D : va_G) (cy : Nat → ClassId) (hm : Nat → Nat) (v_taped v_walkers v_loads v_pieces v_changeCosts v_planned v_isMarch v_clauseMany v_place v_end v_bad v_clauses v_codes v_open v_stacked v_isOver v_isBehind v_atW v_atL v_atT v_atH v_atM v_atI v_atQ v_packing v_packed v_goPace v_goMinutes v_spentAt v_ranChanges : Int32) (f_m_tape f_m_knee f_m_weight f_m_isLame f_m_loadWeight f_m_owner f_m_food f_m_miles f_m_slope f_m_clauseLetter f_m_sumFrom f_m_codeFrom f_m_codeTo f_m_code f_m_codeArg f_m_newLetter f_m_newSum f_m_newFrom f_m_newTo f_m_newCode f_m_newArg f_m_stack f_m_worth f_m_isRefused f_m_least f_m_packPounds f_m_packOwner f_m_room f_m_givenTo f_m_canBe f_m_setPounds f_m_plainTime f_m_muleTime f_m_planTo f_m_march f_m_tired f_m_ranMinutes f_m_tiredAhead f_m_isReached f_m_toEnd f_m_upTo f_m_upNext f_m_byChanges f_m_bandPaces : Nat → Int32) (sz : Nat) (hb_v_walkers : 0 ≤ v_walkers.toInt ∧ v_walkers.toInt ≤ 6) (hb_v_loads : 0 ≤ v_loads.toInt ∧ v_loads.toInt ≤ 9) (hb_v_pieces : 0 ≤ v_pieces.toInt ∧ v_pieces.toInt ≤ 10) (hb_v_clauseMany : 0 ≤ v_clauseMany.toInt ∧ v_clauseMany.toInt ≤ 14) (hb_v_atW : 0 ≤ v_atW.toInt ∧ v_atW.toInt ≤ 5) (hb_v_goPace : 0 ≤ v_goPace.toInt ∧ v_goPace.toInt ≤ 60) (hb_v_spentAt : -1 ≤ v_spentAt.toInt ∧ v_spentAt.toInt ≤ 9) (hr_m_weight : rg (0) 250 f_m_weight) (hr_m_isLame : rg (0) 1 f_m_isLame) (hr_m_loadWeight : rg (0) 120 f_m_loadWeight) (hr_m_food : rg (0) 20 f_m_food) (hr_m_miles : rg (0) 20 f_m_miles) (hr_m_isRefused : rg (0) 1 f_m_isRefused) (hr_m_march : rg (0) 17 f_m_march) (hr_m_tired : rg (0) 5 f_m_tired) (hr_m_tiredAhead : rg (0) 46655 f_m_tiredAhead) (hwf : wfC v_clauseMany f_m_sumFrom f_m_codeFrom f_m_codeTo f_m_code) : gMv l yX10_runs cX10_runs 2 8 [.ref (hm 0)] D cy (wMD cy hm v_taped v_walkers v_loads v_pieces v_changeCosts v_planned v_isMarch v_clauseMany v_place v_end v_bad v_clauses v_codes v_open v_stacked v_isOver v_isBehind v_atW v_atL v_atT v_atH v_atM v_atI v_atQ v_packing v_packed v_goPace v_goMinutes v_spentAt v_ranChanges f_m_tape f_m_knee f_m_weight f_m_isLame f_m_loadWeight f_m_owner f_m_food f_m_miles f_m_slope f_m_clauseLetter f_m_sumFrom f_m_codeFrom f_m_codeTo f_m_code f_m_codeArg f_m_newLetter f_m_newSum f_m_newFrom f_m_newTo f_m_newCode f_m_newArg f_m_stack f_m_worth f_m_isRefused f_m_least f_m_packPounds f_m_packOwner f_m_room f_m_givenTo f_m_canBe f_m_setPounds f_m_plainTime f_m_muleTime f_m_planTo f_m_march f_m_tired f_m_ranMinutes f_m_tiredAhead f_m_isReached f_m_toEnd f_m_upTo f_m_upNext f_m_byChanges f_m_bandPaces) NT sz (fun (u : Int32 × Int32 × Int32 × Int32 × Int32 × Int32 × Int32 × Int32 × Int32 × Int32 × Int32 × (Nat → Int32) × (Nat → Int32) × (Nat → Int32) × (Nat → Int32) × (Nat → Int32)) => (0 ≤ (u.1).toInt ∧ (u.1).toInt ≤ 5) ∧ (0 ≤ (u.2.2.2.2.2.2.2.1).toInt ∧ (u.2.2.2.2.2.2.2.1).toInt ≤ 60) ∧ (-1 ≤ (u.2.2.2.2.2.2.2.2.2.1).toInt ∧ (u.2.2.2.2.2.2.2.2.2.1).toInt ≤ 9) ∧ (rg (0) 1 (u.2.2.2.2.2.2.2.2.2.2.2.2.1)) ∧ (rg (0) 5 (u.2.2.2.2.2.2.2.2.2.2.2.2.2.1)) ∧ (rg (0) 46655 (u.2.2.2.2.2.2.2.2.2.2.2.2.2.2.2))) (fun u => wMD cy hm v_taped v_walkers v_loads v_pieces v_changeCosts v_planned v_isMarch v_clauseMany v_place v_end v_bad v_clauses v_codes v_open v_stacked v_isOver v_isBehind (u.1) (u.2.1) (u.2.2.1) (u.2.2.2.1) (u.2.2.2.2.1) (u.2.2.2.2.2.1) (u.2.2.2.2.2.2.1) v_packing v_packed (u.2.2.2.2.2.2.2.1) (u.2.2.2.2.2.2.2.2.1) (u.2.2.2.2.2.2.2.2.2.1) (u.2.2.2.2.2.2.2.2.2.2.1) f_m_tape f_m_knee f_m_weight f_m_isLame f_m_loadWeight f_m_owner f_m_food f_m_miles f_m_slope f_m_clauseLetter f_m_sumFrom f_m_codeFrom f_m_codeTo f_m_code f_m_codeArg f_m_newLetter f_m_newSum f_m_newFrom f_m_newTo f_m_newCode f_m_newArg f_m_stack (u.2.2.2.2.2.2.2.2.2.2.2.1) (u.2.2.2.2.2.2.2.2.2.2.2.2.1) f_m_least f_m_packPounds f_m_packOwner f_m_room f_m_givenTo f_m_canBe f_m_setPounds f_m_plainTime f_m_muleTime f_m_planTo f_m_march (u.2.2.2.2.2.2.2.2.2.2.2.2.2.1) (u.2.2.2.2.2.2.2.2.2.2.2.2.2.2.1) (u.2.2.2.2.2.2.2.2.2.2.2.2.2.2.2) f_m_isReached f_m_toEnd f_m_upTo f_m_upNext f_m_byChanges f_m_bandPaces) := by
  refine gMv_in (by decide) (Nat.le_of_ble_eq_true rfl) ?_
  intro p e s m args below meth c A ls Q hx hb hml hts hown hsz hP hK hD hN hAe hA hS hl hret
  subst hsz
  have hl : lv_has ls 2 [(0, .ref (hm 0))] := hl
  have hrt := fun (v_atW' : Int32) (v_atL' : Int32) (v_atT' : Int32) (v_atH' : Int32) (v_atM' : Int32) (v_atI' : Int32) (v_atQ' : Int32) (v_goPace' : Int32) (v_goMinutes' : Int32) (v_spentAt' : Int32) (v_ranChanges' : Int32) (f_m_worth' : Nat → Int32) (f_m_isRefused' : Nat → Int32) (f_m_tired' : Nat → Int32) (f_m_ranMinutes' : Nat → Int32) (f_m_tiredAhead' : Nat → Int32) (hp : (0 ≤ v_atW'.toInt ∧ v_atW'.toInt ≤ 5) ∧ (0 ≤ v_goPace'.toInt ∧ v_goPace'.toInt ≤ 60) ∧ (-1 ≤ v_spentAt'.toInt ∧ v_spentAt'.toInt ≤ 9) ∧ (rg (0) 1 f_m_isRefused') ∧ (rg (0) 5 f_m_tired') ∧ (rg (0) 46655 f_m_tiredAhead')) {H : Heap} {locs : List Loc} {pc : Nat} {ls : Array Slot} => hret (v_atW', v_atL', v_atT', v_atH', v_atM', v_atI', v_atQ', v_goPace', v_goMinutes', v_spentAt', v_ranChanges', f_m_worth', f_m_isRefused', f_m_tired', f_m_ranMinutes', f_m_tiredAhead') (H := H) (locs := locs) (pc := pc) (ls := ls) hp
  clear hret
  refine lv_aload_n hx hb dX10_runs_0 rfl (lv_at hl 0 rfl) ?_
  refine lv_iconst (v := (-1)) hx hb dX10_runs_1 (by decide) ?_
  refine pt_MD_MD_spentAt (x := (-1)) hx hb hts hown hK hP hD hS lwd_984 dX10_runs_2 (fun H locs hP hD hS => ?_)
  refine lv_aload_n hx hb dX10_runs_5 rfl (lv_at hl 0 rfl) ?_
  refine lv_iconst (v := 0) hx hb dX10_runs_6 (by decide) ?_
  refine pt_MD_MD_ranChanges (x := 0) hx hb hts hown hK hP hD hS lwd_985 dX10_runs_7 (fun H locs hP hD hS => ?_)
  refine lv_aload_n hx hb dX10_runs_10 rfl (lv_at hl 0 rfl) ?_
  refine lv_iconst (v := 0) hx hb dX10_runs_11 (by decide) ?_
  have k_1 : (0 : Int32).toInt = 0 := by decide
  refine xv hD hS hA (xV (As := [.int 0]) (rest := []) hx hb hml hown hts hK hP hD hS hA NT_ok hN hAe hl.1 ⟨Nat.le_refl _, Nat.le_refl _⟩ 0 rfl rfl rfl (c_X10_takesTired l D cy hm v_taped v_walkers v_loads v_pieces v_changeCosts v_planned v_isMarch v_clauseMany v_place v_end v_bad v_clauses v_codes v_open v_stacked v_isOver v_isBehind v_atW v_atL v_atT v_atH v_atM v_atI v_atQ v_packing v_packed v_goPace v_goMinutes (-1) 0 f_m_tape f_m_knee f_m_weight f_m_isLame f_m_loadWeight f_m_owner f_m_food f_m_miles f_m_slope f_m_clauseLetter f_m_sumFrom f_m_codeFrom f_m_codeTo f_m_code f_m_codeArg f_m_newLetter f_m_newSum f_m_newFrom f_m_newTo f_m_newCode f_m_newArg f_m_stack f_m_worth f_m_isRefused f_m_least f_m_packPounds f_m_packOwner f_m_room f_m_givenTo f_m_canBe f_m_setPounds f_m_plainTime f_m_muleTime f_m_planTo f_m_march f_m_tired f_m_ranMinutes f_m_tiredAhead f_m_isReached f_m_toEnd f_m_upTo f_m_upNext f_m_byChanges f_m_bandPaces H.size 0 hr_m_tired (by omega)) (gi_V lwd_991 lwd_992 lwd_993 lwd_5 lwd_994) ⟨rfl, hd_X10_takesTired⟩ ⟨Nat.le_of_ble_eq_true rfl, Nat.le_of_ble_eq_true rfl⟩ rfl (Nat.le_of_ble_eq_true rfl) dX10_runs_12) (fun u_2 H locs hw hP hD hS => ?_)
  obtain ⟨ztired_4, rfl⟩ : ∃ z, z = u_2 := ⟨_, rfl⟩
  try dsimp only at hw hP hD
  obtain ⟨p_5, p_6⟩ := hw
  refine lv_aload_n hx hb dX10_runs_15 rfl (lv_at hl 0 rfl) ?_
  refine gt_MD_MD_tiredAhead hx hb hts hown hK hP lwd_193 dX10_runs_16 ?_
  refine lv_iconst (v := 0) hx hb dX10_runs_19 (by decide) ?_
  refine lv_iconst (v := 0) hx hb dX10_runs_20 (by decide) ?_
  refine as_m_tiredAhead (x := 0) hx hb hK hP hD hS hr_m_tiredAhead (i_in (by decide : (0 : Int32).toInt = 0) (by decide) (by decide)) (by decide) dX10_runs_21 (fun f_7 ef_7 rf_7 H locs hP hD hS => ?_)
  refine lv_iconst (v := 0) hx hb dX10_runs_22 (by decide) ?_
  refine lv_istore_n (lv' := [(1, .int 0), (0, .ref (hm 0))]) hx hb dX10_runs_23 rfl hl (by decide) rfl (fun ls hl => ?_)
  have L24_42 : ∀ (n : Nat) (f_25 : Nat → Int32) (f_26 : Nat → Int32) (f_27 : Nat → Int32) (f_28 : Nat → Int32) (f_29 : Nat → Int32) (l_30 : Int32) (w_31 : Int32) (w_32 : Int32) (w_33 : Int32) (w_34 : Int32) (w_35 : Int32) (w_36 : Int32) (w_37 : Int32) (w_38 : Int32) (w_39 : Int32) (w_40 : Int32) (w_41 : Int32), (rg (0) 1 f_25) → (rg (0) 5 f_27) → (rg (0) 46655 f_28) → (0 ≤ l_30.toInt ∧ l_30.toInt ≤ 10) → (0 ≤ w_37.toInt ∧ w_37.toInt ≤ 5) → (0 ≤ w_39.toInt ∧ w_39.toInt ≤ 60) → (-1 ≤ w_41.toInt ∧ w_41.toInt ≤ 9) → 11 - l_30.toInt < n → ∀ (H : Heap) (locs : List Loc) (ls : Array Slot), va_P D vwCl (wMD cy hm v_taped v_walkers v_loads v_pieces v_changeCosts v_planned v_isMarch v_clauseMany v_place v_end v_bad v_clauses v_codes v_open v_stacked v_isOver v_isBehind w_37 w_33 w_36 w_31 w_34 w_32 w_35 v_packing v_packed w_39 w_38 w_41 w_40 f_m_tape f_m_knee f_m_weight f_m_isLame f_m_loadWeight f_m_owner f_m_food f_m_miles f_m_slope f_m_clauseLetter f_m_sumFrom f_m_codeFrom f_m_codeTo f_m_code f_m_codeArg f_m_newLetter f_m_newSum f_m_newFrom f_m_newTo f_m_newCode f_m_newArg f_m_stack f_29 f_25 f_m_least f_m_packPounds f_m_packOwner f_m_room f_m_givenTo f_m_canBe f_m_setPounds f_m_plainTime f_m_muleTime f_m_planTo f_m_march f_27 f_26 f_28 f_m_isReached f_m_toEnd f_m_upTo f_m_upNext f_m_byChanges f_m_bandPaces) H → va_D A (wMD cy hm v_taped v_walkers v_loads v_pieces v_changeCosts v_planned v_isMarch v_clauseMany v_place v_end v_bad v_clauses v_codes v_open v_stacked v_isOver v_isBehind w_37 w_33 w_36 w_31 w_34 w_32 w_35 v_packing v_packed w_39 w_38 w_41 w_40 f_m_tape f_m_knee f_m_weight f_m_isLame f_m_loadWeight f_m_owner f_m_food f_m_miles f_m_slope f_m_clauseLetter f_m_sumFrom f_m_codeFrom f_m_codeTo f_m_code f_m_codeArg f_m_newLetter f_m_newSum f_m_newFrom f_m_newTo f_m_newCode f_m_newArg f_m_stack f_29 f_25 f_m_least f_m_packPounds f_m_packOwner f_m_room f_m_givenTo f_m_canBe f_m_setPounds f_m_plainTime f_m_muleTime f_m_planTo f_m_march f_27 f_26 f_28 f_m_isReached f_m_toEnd f_m_upTo f_m_upNext f_m_byChanges f_m_bandPaces) → va_S A s.heap H locs → lv_has ls 2 [(1, .int l_30), (0, .ref (hm 0))] → W p l e (gRm 8) s m args below meth c H locs 0 0 Q (F0 m 24 ls []) := by
    intro n
    induction n with
    | zero => intro f_25 f_26 f_27 f_28 f_29 l_30 w_31 w_32 w_33 w_34 w_35 w_36 w_37 w_38 w_39 w_40 w_41 hL24_42_0 hL24_42_1 hL24_42_2 hL24_42_3 hL24_42_4 hL24_42_5 hL24_42_6 hm; exact absurd hm (by omega)
    | succ n ih24_42 =>
      intro f_25 f_26 f_27 f_28 f_29 l_30 w_31 w_32 w_33 w_34 w_35 w_36 w_37 w_38 w_39 w_40 w_41 hL24_42_0 hL24_42_1 hL24_42_2 hL24_42_3 hL24_42_4 hL24_42_5 hL24_42_6 hmL24_42 H locs ls hP hD hS hl
      refine lv_iload_n hx hb dX10_runs_24 rfl (lv_at hl 0 rfl) ?_
      refine lv_aload_n hx hb dX10_runs_25 rfl (lv_at hl 1 rfl) ?_
      refine gt_MD_MD_pieces hx hb hts hown hK hP lwd_265 dX10_runs_26 ?_
      refine lv_icmp_ge (tgt := 129) hx hb dX10_runs_29 (by decide) (fun c_43 => ?_) (fun c_43 => ?_)
      · have gc_43 : v_pieces.toInt ≤ l_30.toInt := i_le (rfl : v_pieces.toInt = v_pieces.toInt) (rfl : l_30.toInt = l_30.toInt) c_43
        exact hrt w_37 w_33 w_36 w_31 w_34 w_32 w_35 w_39 w_38 w_41 w_40 f_29 f_25 f_27 f_26 f_28 ⟨(by omega), (by omega), (by omega), hL24_42_0, hL24_42_1, hL24_42_2⟩ hP hD hS dX10_runs_129
      · have gc_43 : l_30.toInt < v_pieces.toInt := i_nle (rfl : v_pieces.toInt = v_pieces.toInt) (rfl : l_30.toInt = l_30.toInt) c_43
        refine lv_aload_n hx hb dX10_runs_32 rfl (lv_at hl 1 rfl) ?_
        refine gt_MD_MD_spentAt hx hb hts hown hK hP lwd_984 dX10_runs_33 ?_
        refine lv_iconst (v := (-1)) hx hb dX10_runs_36 (by decide) ?_
        refine lv_icmp_ne (tgt := 129) hx hb dX10_runs_37 (by decide) (fun c_44 => ?_) (fun c_44 => ?_)
        · have gc_44 : w_41.toInt ≠ (-1) := i_ne (rfl : w_41.toInt = w_41.toInt) (by decide : ((-1) : Int32).toInt = (-1)) c_44
          exact hrt w_37 w_33 w_36 w_31 w_34 w_32 w_35 w_39 w_38 w_41 w_40 f_29 f_25 f_27 f_26 f_28 ⟨(by omega), (by omega), (by omega), hL24_42_0, hL24_42_1, hL24_42_2⟩ hP hD hS dX10_runs_129
        · have gc_44 : w_41.toInt = (-1) := i_eq (rfl : w_41.toInt = w_41.toInt) (by decide : ((-1) : Int32).toInt = (-1)) c_44
          refine lv_aload_n hx hb dX10_runs_40 rfl (lv_at hl 1 rfl) ?_
          refine lv_iload_n hx hb dX10_runs_41 rfl (lv_at hl 0 rfl) ?_
          refine lv_aload_n hx hb dX10_runs_42 rfl (lv_at hl 1 rfl) ?_
          refine gt_MD_MD_march hx hb hts hown hK hP lwd_190 dX10_runs_43 ?_
          refine lv_iload_n hx hb dX10_runs_46 rfl (lv_at hl 0 rfl) ?_
          refine al_m_march hx hb hK hP hr_m_march (i_in (rfl : l_30.toInt = l_30.toInt) (by omega) (by omega)) dX10_runs_47 (fun n_45 en_45 bn_45 => ?_)
          refine xi hD hS hA (xV (As := [.int l_30, .int n_45]) (rest := []) hx hb hml hown hts hK hP hD hS hA NT_ok hN hAe hl.1 ⟨Nat.le_refl _, Nat.le_refl _⟩ 0 rfl rfl rfl (c_X10_goesOver l D cy hm v_taped v_walkers v_loads v_pieces v_changeCosts v_planned v_isMarch v_clauseMany v_place v_end v_bad v_clauses v_codes v_open v_stacked v_isOver v_isBehind w_37 w_33 w_36 w_31 w_34 w_32 w_35 v_packing v_packed w_39 w_38 w_41 w_40 f_m_tape f_m_knee f_m_weight f_m_isLame f_m_loadWeight f_m_owner f_m_food f_m_miles f_m_slope f_m_clauseLetter f_m_sumFrom f_m_codeFrom f_m_codeTo f_m_code f_m_codeArg f_m_newLetter f_m_newSum f_m_newFrom f_m_newTo f_m_newCode f_m_newArg f_m_stack f_29 f_25 f_m_least f_m_packPounds f_m_packOwner f_m_room f_m_givenTo f_m_canBe f_m_setPounds f_m_plainTime f_m_muleTime f_m_planTo f_m_march f_27 f_26 f_28 f_m_isReached f_m_toEnd f_m_upTo f_m_upNext f_m_byChanges f_m_bandPaces H.size l_30 n_45 (by omega) (by omega) (by omega) (by omega) (by omega) hr_m_weight hr_m_isLame hr_m_loadWeight hr_m_food hr_m_miles hL24_42_0 hL24_42_1 (by omega) (by omega) hwf) (gi_V lwd_995 lwd_996 lwd_997 lwd_5 lwd_998) ⟨rfl, hd_X10_goesOver⟩ ⟨Nat.le_of_ble_eq_true rfl, Nat.le_of_ble_eq_true rfl⟩ rfl (Nat.le_of_ble_eq_true rfl) dX10_runs_48) (fun r_47 u_46 H locs hw hP hD hS => ?_)
          obtain ⟨zatW_48, zatL_49, zatT_50, zatH_51, zatM_52, zatI_53, zatQ_54, zgoPace_55, zgoMinutes_56, zworth_57, zisRefused_58, ztired_59⟩ := u_46
          try dsimp only at hw hP hD
          obtain ⟨p_60, p_61, p_62, p_63, p_64, p_65⟩ := hw
          refine lv_if_ne (tgt := 62) hx hb dX10_runs_51 (by decide) (fun c_66 => ?_) (fun c_66 => ?_)
          · have gc_66 : r_47.toInt ≠ 0 := i_ne (rfl : r_47.toInt = r_47.toInt) (by decide : (0 : Int32).toInt = 0) c_66
            refine lv_aload_n hx hb dX10_runs_62 rfl (lv_at hl 1 rfl) ?_
            refine gt_MD_MD_ranMinutes hx hb hts hown hK hP lwd_192 dX10_runs_63 ?_
            refine lv_iload_n hx hb dX10_runs_66 rfl (lv_at hl 0 rfl) ?_
            refine lv_aload_n hx hb dX10_runs_67 rfl (lv_at hl 1 rfl) ?_
            refine gt_MD_MD_goMinutes hx hb hts hown hK hP lwd_990 dX10_runs_68 ?_
            refine lv_aload_n hx hb dX10_runs_71 rfl (lv_at hl 1 rfl) ?_
            refine lv_iload_n hx hb dX10_runs_72 rfl (lv_at hl 0 rfl) ?_
            refine xi hD hS hA (xV (As := [.int l_30]) (rest := [.int zgoMinutes_56, .int l_30, .ref (hm 37)]) hx hb hml hown hts hK hP hD hS hA NT_ok hN hAe hl.1 ⟨Nat.le_refl _, Nat.le_refl _⟩ 0 rfl rfl rfl (c_X10_isChange l D cy hm v_taped v_walkers v_loads v_pieces v_changeCosts v_planned v_isMarch v_clauseMany v_place v_end v_bad v_clauses v_codes v_open v_stacked v_isOver v_isBehind zatW_48 zatL_49 zatT_50 zatH_51 zatM_52 zatI_53 zatQ_54 v_packing v_packed zgoPace_55 zgoMinutes_56 w_41 w_40 f_m_tape f_m_knee f_m_weight f_m_isLame f_m_loadWeight f_m_owner f_m_food f_m_miles f_m_slope f_m_clauseLetter f_m_sumFrom f_m_codeFrom f_m_codeTo f_m_code f_m_codeArg f_m_newLetter f_m_newSum f_m_newFrom f_m_newTo f_m_newCode f_m_newArg f_m_stack zworth_57 zisRefused_58 f_m_least f_m_packPounds f_m_packOwner f_m_room f_m_givenTo f_m_canBe f_m_setPounds f_m_plainTime f_m_muleTime f_m_planTo f_m_march ztired_59 f_26 f_28 f_m_isReached f_m_toEnd f_m_upTo f_m_upNext f_m_byChanges f_m_bandPaces H.size l_30 hr_m_march (by omega)) (gi_V lwd_1012 lwd_1013 lwd_1014 lwd_5 lwd_1015) ⟨rfl, hd_X10_isChange⟩ ⟨Nat.le_of_ble_eq_true rfl, Nat.le_of_ble_eq_true rfl⟩ rfl (Nat.le_of_ble_eq_true rfl) dX10_runs_73) (fun r_68 u_67 H locs hw hP hD hS => ?_)
            try dsimp only at hw hP hD
            have p_69 := hw
            clear hw
            refine lv_if_eq (tgt := 86) hx hb dX10_runs_76 (by decide) (fun c_70 => ?_) (fun c_70 => ?_)
            · have gc_70 : r_68.toInt = 0 := i_eq (rfl : r_68.toInt = r_68.toInt) (by decide : (0 : Int32).toInt = 0) c_70
              refine lv_iconst (v := 0) hx hb dX10_runs_86 (by decide) ?_
              refine lv_iadd hx hb dX10_runs_87 ?_
              have hb_71 := And.intro (i_bot zgoMinutes_56) (i_top zgoMinutes_56)
              refine lv_topi (fun n_72 en_72 => ?_)
              have tn_72 : n_72.toInt = zgoMinutes_56.toInt + 0 := i_add en_72 (rfl : zgoMinutes_56.toInt = zgoMinutes_56.toInt) (by decide : (0 : Int32).toInt = 0) (by omega) (by omega)
              refine as_m_ranMinutes (x := n_72) hx hb hK hP hD hS (i_in (rfl : l_30.toInt = l_30.toInt) (by omega) (by omega)) dX10_runs_88 (fun f_73 ef_73 H locs hP hD hS => ?_)
              refine lv_aload_n hx hb dX10_runs_89 rfl (lv_at hl 1 rfl) ?_
              refine lv_dup hx hb dX10_runs_90 rfl ?_
              refine gt_MD_MD_ranChanges hx hb hts hown hK hP lwd_985 dX10_runs_91 ?_
              refine lv_aload_n hx hb dX10_runs_94 rfl (lv_at hl 1 rfl) ?_
              refine lv_iload_n hx hb dX10_runs_95 rfl (lv_at hl 0 rfl) ?_
              refine xi hD hS hA (xV (As := [.int l_30]) (rest := [.int w_40, .ref (hm 0)]) hx hb hml hown hts hK hP hD hS hA NT_ok hN hAe hl.1 ⟨Nat.le_refl _, Nat.le_refl _⟩ 0 rfl rfl rfl (c_X10_isChange l D cy hm v_taped v_walkers v_loads v_pieces v_changeCosts v_planned v_isMarch v_clauseMany v_place v_end v_bad v_clauses v_codes v_open v_stacked v_isOver v_isBehind zatW_48 zatL_49 zatT_50 zatH_51 zatM_52 zatI_53 zatQ_54 v_packing v_packed zgoPace_55 zgoMinutes_56 w_41 w_40 f_m_tape f_m_knee f_m_weight f_m_isLame f_m_loadWeight f_m_owner f_m_food f_m_miles f_m_slope f_m_clauseLetter f_m_sumFrom f_m_codeFrom f_m_codeTo f_m_code f_m_codeArg f_m_newLetter f_m_newSum f_m_newFrom f_m_newTo f_m_newCode f_m_newArg f_m_stack zworth_57 zisRefused_58 f_m_least f_m_packPounds f_m_packOwner f_m_room f_m_givenTo f_m_canBe f_m_setPounds f_m_plainTime f_m_muleTime f_m_planTo f_m_march ztired_59 f_73 f_28 f_m_isReached f_m_toEnd f_m_upTo f_m_upNext f_m_byChanges f_m_bandPaces H.size l_30 hr_m_march (by omega)) (gi_V lwd_1012 lwd_1013 lwd_1014 lwd_5 lwd_1015) ⟨rfl, hd_X10_isChange⟩ ⟨Nat.le_of_ble_eq_true rfl, Nat.le_of_ble_eq_true rfl⟩ rfl (Nat.le_of_ble_eq_true rfl) dX10_runs_96) (fun r_75 u_74 H locs hw hP hD hS => ?_)
              try dsimp only at hw hP hD
              have p_76 := hw
              clear hw
              refine lv_if_eq (tgt := 106) hx hb dX10_runs_99 (by decide) (fun c_77 => ?_) (fun c_77 => ?_)
              · have gc_77 : r_75.toInt = 0 := i_eq (rfl : r_75.toInt = r_75.toInt) (by decide : (0 : Int32).toInt = 0) c_77
                refine lv_iconst (v := 0) hx hb dX10_runs_106 (by decide) ?_
                refine lv_iadd hx hb dX10_runs_107 ?_
                have hb_78 := And.intro (i_bot w_40) (i_top w_40)
                refine lv_topi (fun n_79 en_79 => ?_)
                have tn_79 : n_79.toInt = w_40.toInt + 0 := i_add en_79 (rfl : w_40.toInt = w_40.toInt) (by decide : (0 : Int32).toInt = 0) (by omega) (by omega)
                refine pt_MD_MD_ranChanges (x := n_79) hx hb hts hown hK hP hD hS lwd_985 dX10_runs_108 (fun H locs hP hD hS => ?_)
                refine lv_aload_n hx hb dX10_runs_111 rfl (lv_at hl 1 rfl) ?_
                refine gt_MD_MD_tiredAhead hx hb hts hown hK hP lwd_193 dX10_runs_112 ?_
                refine lv_iload_n hx hb dX10_runs_115 rfl (lv_at hl 0 rfl) ?_
                refine lv_iconst (v := 1) hx hb dX10_runs_116 (by decide) ?_
                refine lv_iadd hx hb dX10_runs_117 ?_
                refine lv_topi (fun n_80 en_80 => ?_)
                have tn_80 : n_80.toInt = l_30.toInt + 1 := i_add en_80 (rfl : l_30.toInt = l_30.toInt) (by decide : (1 : Int32).toInt = 1) (by omega) (by omega)
                refine lv_aload_n hx hb dX10_runs_118 rfl (lv_at hl 1 rfl) ?_
                refine xi hD hS hA (xV (As := []) (rest := [.int n_80, .ref (hm 38)]) hx hb hml hown hts hK hP hD hS hA NT_ok hN hAe hl.1 ⟨Nat.le_refl _, Nat.le_refl _⟩ 0 rfl rfl rfl (c_X10_allTired l D cy hm v_taped v_walkers v_loads v_pieces v_changeCosts v_planned v_isMarch v_clauseMany v_place v_end v_bad v_clauses v_codes v_open v_stacked v_isOver v_isBehind zatW_48 zatL_49 zatT_50 zatH_51 zatM_52 zatI_53 zatQ_54 v_packing v_packed zgoPace_55 zgoMinutes_56 w_41 n_79 f_m_tape f_m_knee f_m_weight f_m_isLame f_m_loadWeight f_m_owner f_m_food f_m_miles f_m_slope f_m_clauseLetter f_m_sumFrom f_m_codeFrom f_m_codeTo f_m_code f_m_codeArg f_m_newLetter f_m_newSum f_m_newFrom f_m_newTo f_m_newCode f_m_newArg f_m_stack zworth_57 zisRefused_58 f_m_least f_m_packPounds f_m_packOwner f_m_room f_m_givenTo f_m_canBe f_m_setPounds f_m_plainTime f_m_muleTime f_m_planTo f_m_march ztired_59 f_73 f_28 f_m_isReached f_m_toEnd f_m_upTo f_m_upNext f_m_byChanges f_m_bandPaces H.size (by omega) p_65) (gi_V lwd_1016 lwd_1017 lwd_1018 lwd_5 lwd_1019) ⟨rfl, hd_X10_allTired⟩ ⟨Nat.le_of_ble_eq_true rfl, Nat.le_of_ble_eq_true rfl⟩ rfl (Nat.le_of_ble_eq_true rfl) dX10_runs_119) (fun r_82 u_81 H locs hw hP hD hS => ?_)
                try dsimp only at hw hP hD
                obtain ⟨p_83, p_84, p_85⟩ := hw
                refine as_m_tiredAhead (x := r_82) hx hb hK hP hD hS hL24_42_2 (i_in tn_80 (by omega) (by omega)) (by omega) dX10_runs_122 (fun f_86 ef_86 rf_86 H locs hP hD hS => ?_)
                obtain ⟨n_87, en_87⟩ : ∃ y : Int32, y = l_30 + 1 := ⟨_, rfl⟩
                have tn_87 : n_87.toInt = l_30.toInt + 1 := i_add en_87 (rfl : l_30.toInt = l_30.toInt) (by decide : (1 : Int32).toInt = 1) (by omega) (by omega)
                refine lv_iinc (v := n_87) (lv' := [(1, .int n_87), (0, .ref (hm 0))]) hx hb dX10_runs_123 hl (k := 0) rfl (by rw [en_87]; rfl) (by decide) rfl (fun ls hl => ?_)
                refine lv_goto (tgt := 24) hx hb dX10_runs_126 (by decide) ?_
                exact ih24_42 zisRefused_58 f_73 ztired_59 f_86 zworth_57 n_87 zatH_51 zatI_53 zatL_49 zatM_52 zatQ_54 zatT_50 zatW_48 zgoMinutes_56 zgoPace_55 n_79 w_41 p_64 p_65 rf_86 (by omega) (by omega) (by omega) (by omega) (by omega) _ _ _ hP hD hS (lv_sub hl [0, 1] rfl)
              · have gc_77 : r_75.toInt ≠ 0 := i_ne (rfl : r_75.toInt = r_75.toInt) (by decide : (0 : Int32).toInt = 0) c_77
                refine lv_iconst (v := 1) hx hb dX10_runs_102 (by decide) ?_
                refine lv_goto (tgt := 107) hx hb dX10_runs_103 (by decide) ?_
                refine lv_iadd hx hb dX10_runs_107 ?_
                refine lv_topi (fun n_88 en_88 => ?_)
                refine pt_MD_MD_ranChanges (x := n_88) hx hb hts hown hK hP hD hS lwd_985 dX10_runs_108 (fun H locs hP hD hS => ?_)
                refine lv_aload_n hx hb dX10_runs_111 rfl (lv_at hl 1 rfl) ?_
                refine gt_MD_MD_tiredAhead hx hb hts hown hK hP lwd_193 dX10_runs_112 ?_
                refine lv_iload_n hx hb dX10_runs_115 rfl (lv_at hl 0 rfl) ?_
                refine lv_iconst (v := 1) hx hb dX10_runs_116 (by decide) ?_
                refine lv_iadd hx hb dX10_runs_117 ?_
                refine lv_topi (fun n_89 en_89 => ?_)
                have tn_89 : n_89.toInt = l_30.toInt + 1 := i_add en_89 (rfl : l_30.toInt = l_30.toInt) (by decide : (1 : Int32).toInt = 1) (by omega) (by omega)
                refine lv_aload_n hx hb dX10_runs_118 rfl (lv_at hl 1 rfl) ?_
                refine xi hD hS hA (xV (As := []) (rest := [.int n_89, .ref (hm 38)]) hx hb hml hown hts hK hP hD hS hA NT_ok hN hAe hl.1 ⟨Nat.le_refl _, Nat.le_refl _⟩ 0 rfl rfl rfl (c_X10_allTired l D cy hm v_taped v_walkers v_loads v_pieces v_changeCosts v_planned v_isMarch v_clauseMany v_place v_end v_bad v_clauses v_codes v_open v_stacked v_isOver v_isBehind zatW_48 zatL_49 zatT_50 zatH_51 zatM_52 zatI_53 zatQ_54 v_packing v_packed zgoPace_55 zgoMinutes_56 w_41 n_88 f_m_tape f_m_knee f_m_weight f_m_isLame f_m_loadWeight f_m_owner f_m_food f_m_miles f_m_slope f_m_clauseLetter f_m_sumFrom f_m_codeFrom f_m_codeTo f_m_code f_m_codeArg f_m_newLetter f_m_newSum f_m_newFrom f_m_newTo f_m_newCode f_m_newArg f_m_stack zworth_57 zisRefused_58 f_m_least f_m_packPounds f_m_packOwner f_m_room f_m_givenTo f_m_canBe f_m_setPounds f_m_plainTime f_m_muleTime f_m_planTo f_m_march ztired_59 f_73 f_28 f_m_isReached f_m_toEnd f_m_upTo f_m_upNext f_m_byChanges f_m_bandPaces H.size (by omega) p_65) (gi_V lwd_1016 lwd_1017 lwd_1018 lwd_5 lwd_1019) ⟨rfl, hd_X10_allTired⟩ ⟨Nat.le_of_ble_eq_true rfl, Nat.le_of_ble_eq_true rfl⟩ rfl (Nat.le_of_ble_eq_true rfl) dX10_runs_119) (fun r_91 u_90 H locs hw hP hD hS => ?_)
                try dsimp only at hw hP hD
                obtain ⟨p_92, p_93, p_94⟩ := hw
                refine as_m_tiredAhead (x := r_91) hx hb hK hP hD hS hL24_42_2 (i_in tn_89 (by omega) (by omega)) (by omega) dX10_runs_122 (fun f_95 ef_95 rf_95 H locs hP hD hS => ?_)
                obtain ⟨n_96, en_96⟩ : ∃ y : Int32, y = l_30 + 1 := ⟨_, rfl⟩
                have tn_96 : n_96.toInt = l_30.toInt + 1 := i_add en_96 (rfl : l_30.toInt = l_30.toInt) (by decide : (1 : Int32).toInt = 1) (by omega) (by omega)
                refine lv_iinc (v := n_96) (lv' := [(1, .int n_96), (0, .ref (hm 0))]) hx hb dX10_runs_123 hl (k := 0) rfl (by rw [en_96]; rfl) (by decide) rfl (fun ls hl => ?_)
                refine lv_goto (tgt := 24) hx hb dX10_runs_126 (by decide) ?_
                exact ih24_42 zisRefused_58 f_73 ztired_59 f_95 zworth_57 n_96 zatH_51 zatI_53 zatL_49 zatM_52 zatQ_54 zatT_50 zatW_48 zgoMinutes_56 zgoPace_55 n_88 w_41 p_64 p_65 rf_95 (by omega) (by omega) (by omega) (by omega) (by omega) _ _ _ hP hD hS (lv_sub hl [0, 1] rfl)
            · have gc_70 : r_68.toInt ≠ 0 := i_ne (rfl : r_68.toInt = r_68.toInt) (by decide : (0 : Int32).toInt = 0) c_70
              refine lv_aload_n hx hb dX10_runs_79 rfl (lv_at hl 1 rfl) ?_
              refine gt_MD_MD_changeCosts hx hb hts hown hK hP lwd_156 dX10_runs_80 ?_
              refine lv_goto (tgt := 87) hx hb dX10_runs_83 (by decide) ?_
              refine lv_iadd hx hb dX10_runs_87 ?_
              refine lv_topi (fun n_97 en_97 => ?_)
              refine as_m_ranMinutes (x := n_97) hx hb hK hP hD hS (i_in (rfl : l_30.toInt = l_30.toInt) (by omega) (by omega)) dX10_runs_88 (fun f_98 ef_98 H locs hP hD hS => ?_)
              refine lv_aload_n hx hb dX10_runs_89 rfl (lv_at hl 1 rfl) ?_
              refine lv_dup hx hb dX10_runs_90 rfl ?_
              refine gt_MD_MD_ranChanges hx hb hts hown hK hP lwd_985 dX10_runs_91 ?_
              refine lv_aload_n hx hb dX10_runs_94 rfl (lv_at hl 1 rfl) ?_
              refine lv_iload_n hx hb dX10_runs_95 rfl (lv_at hl 0 rfl) ?_
              refine xi hD hS hA (xV (As := [.int l_30]) (rest := [.int w_40, .ref (hm 0)]) hx hb hml hown hts hK hP hD hS hA NT_ok hN hAe hl.1 ⟨Nat.le_refl _, Nat.le_refl _⟩ 0 rfl rfl rfl (c_X10_isChange l D cy hm v_taped v_walkers v_loads v_pieces v_changeCosts v_planned v_isMarch v_clauseMany v_place v_end v_bad v_clauses v_codes v_open v_stacked v_isOver v_isBehind zatW_48 zatL_49 zatT_50 zatH_51 zatM_52 zatI_53 zatQ_54 v_packing v_packed zgoPace_55 zgoMinutes_56 w_41 w_40 f_m_tape f_m_knee f_m_weight f_m_isLame f_m_loadWeight f_m_owner f_m_food f_m_miles f_m_slope f_m_clauseLetter f_m_sumFrom f_m_codeFrom f_m_codeTo f_m_code f_m_codeArg f_m_newLetter f_m_newSum f_m_newFrom f_m_newTo f_m_newCode f_m_newArg f_m_stack zworth_57 zisRefused_58 f_m_least f_m_packPounds f_m_packOwner f_m_room f_m_givenTo f_m_canBe f_m_setPounds f_m_plainTime f_m_muleTime f_m_planTo f_m_march ztired_59 f_98 f_28 f_m_isReached f_m_toEnd f_m_upTo f_m_upNext f_m_byChanges f_m_bandPaces H.size l_30 hr_m_march (by omega)) (gi_V lwd_1012 lwd_1013 lwd_1014 lwd_5 lwd_1015) ⟨rfl, hd_X10_isChange⟩ ⟨Nat.le_of_ble_eq_true rfl, Nat.le_of_ble_eq_true rfl⟩ rfl (Nat.le_of_ble_eq_true rfl) dX10_runs_96) (fun r_100 u_99 H locs hw hP hD hS => ?_)
              try dsimp only at hw hP hD
              have p_101 := hw
              clear hw
              refine lv_if_eq (tgt := 106) hx hb dX10_runs_99 (by decide) (fun c_102 => ?_) (fun c_102 => ?_)
              · have gc_102 : r_100.toInt = 0 := i_eq (rfl : r_100.toInt = r_100.toInt) (by decide : (0 : Int32).toInt = 0) c_102
                refine lv_iconst (v := 0) hx hb dX10_runs_106 (by decide) ?_
                refine lv_iadd hx hb dX10_runs_107 ?_
                have hb_103 := And.intro (i_bot w_40) (i_top w_40)
                refine lv_topi (fun n_104 en_104 => ?_)
                have tn_104 : n_104.toInt = w_40.toInt + 0 := i_add en_104 (rfl : w_40.toInt = w_40.toInt) (by decide : (0 : Int32).toInt = 0) (by omega) (by omega)
                refine pt_MD_MD_ranChanges (x := n_104) hx hb hts hown hK hP hD hS lwd_985 dX10_runs_108 (fun H locs hP hD hS => ?_)
                refine lv_aload_n hx hb dX10_runs_111 rfl (lv_at hl 1 rfl) ?_
                refine gt_MD_MD_tiredAhead hx hb hts hown hK hP lwd_193 dX10_runs_112 ?_
                refine lv_iload_n hx hb dX10_runs_115 rfl (lv_at hl 0 rfl) ?_
                refine lv_iconst (v := 1) hx hb dX10_runs_116 (by decide) ?_
                refine lv_iadd hx hb dX10_runs_117 ?_
                refine lv_topi (fun n_105 en_105 => ?_)
                have tn_105 : n_105.toInt = l_30.toInt + 1 := i_add en_105 (rfl : l_30.toInt = l_30.toInt) (by decide : (1 : Int32).toInt = 1) (by omega) (by omega)
                refine lv_aload_n hx hb dX10_runs_118 rfl (lv_at hl 1 rfl) ?_
                refine xi hD hS hA (xV (As := []) (rest := [.int n_105, .ref (hm 38)]) hx hb hml hown hts hK hP hD hS hA NT_ok hN hAe hl.1 ⟨Nat.le_refl _, Nat.le_refl _⟩ 0 rfl rfl rfl (c_X10_allTired l D cy hm v_taped v_walkers v_loads v_pieces v_changeCosts v_planned v_isMarch v_clauseMany v_place v_end v_bad v_clauses v_codes v_open v_stacked v_isOver v_isBehind zatW_48 zatL_49 zatT_50 zatH_51 zatM_52 zatI_53 zatQ_54 v_packing v_packed zgoPace_55 zgoMinutes_56 w_41 n_104 f_m_tape f_m_knee f_m_weight f_m_isLame f_m_loadWeight f_m_owner f_m_food f_m_miles f_m_slope f_m_clauseLetter f_m_sumFrom f_m_codeFrom f_m_codeTo f_m_code f_m_codeArg f_m_newLetter f_m_newSum f_m_newFrom f_m_newTo f_m_newCode f_m_newArg f_m_stack zworth_57 zisRefused_58 f_m_least f_m_packPounds f_m_packOwner f_m_room f_m_givenTo f_m_canBe f_m_setPounds f_m_plainTime f_m_muleTime f_m_planTo f_m_march ztired_59 f_98 f_28 f_m_isReached f_m_toEnd f_m_upTo f_m_upNext f_m_byChanges f_m_bandPaces H.size (by omega) p_65) (gi_V lwd_1016 lwd_1017 lwd_1018 lwd_5 lwd_1019) ⟨rfl, hd_X10_allTired⟩ ⟨Nat.le_of_ble_eq_true rfl, Nat.le_of_ble_eq_true rfl⟩ rfl (Nat.le_of_ble_eq_true rfl) dX10_runs_119) (fun r_107 u_106 H locs hw hP hD hS => ?_)
                try dsimp only at hw hP hD
                obtain ⟨p_108, p_109, p_110⟩ := hw
                refine as_m_tiredAhead (x := r_107) hx hb hK hP hD hS hL24_42_2 (i_in tn_105 (by omega) (by omega)) (by omega) dX10_runs_122 (fun f_111 ef_111 rf_111 H locs hP hD hS => ?_)
                obtain ⟨n_112, en_112⟩ : ∃ y : Int32, y = l_30 + 1 := ⟨_, rfl⟩
                have tn_112 : n_112.toInt = l_30.toInt + 1 := i_add en_112 (rfl : l_30.toInt = l_30.toInt) (by decide : (1 : Int32).toInt = 1) (by omega) (by omega)
                refine lv_iinc (v := n_112) (lv' := [(1, .int n_112), (0, .ref (hm 0))]) hx hb dX10_runs_123 hl (k := 0) rfl (by rw [en_112]; rfl) (by decide) rfl (fun ls hl => ?_)
                refine lv_goto (tgt := 24) hx hb dX10_runs_126 (by decide) ?_
                exact ih24_42 zisRefused_58 f_98 ztired_59 f_111 zworth_57 n_112 zatH_51 zatI_53 zatL_49 zatM_52 zatQ_54 zatT_50 zatW_48 zgoMinutes_56 zgoPace_55 n_104 w_41 p_64 p_65 rf_111 (by omega) (by omega) (by omega) (by omega) (by omega) _ _ _ hP hD hS (lv_sub hl [0, 1] rfl)
              · have gc_102 : r_100.toInt ≠ 0 := i_ne (rfl : r_100.toInt = r_100.toInt) (by decide : (0 : Int32).toInt = 0) c_102
                refine lv_iconst (v := 1) hx hb dX10_runs_102 (by decide) ?_
                refine lv_goto (tgt := 107) hx hb dX10_runs_103 (by decide) ?_
                refine lv_iadd hx hb dX10_runs_107 ?_
                refine lv_topi (fun n_113 en_113 => ?_)
                refine pt_MD_MD_ranChanges (x := n_113) hx hb hts hown hK hP hD hS lwd_985 dX10_runs_108 (fun H locs hP hD hS => ?_)
                refine lv_aload_n hx hb dX10_runs_111 rfl (lv_at hl 1 rfl) ?_
                refine gt_MD_MD_tiredAhead hx hb hts hown hK hP lwd_193 dX10_runs_112 ?_
                refine lv_iload_n hx hb dX10_runs_115 rfl (lv_at hl 0 rfl) ?_
                refine lv_iconst (v := 1) hx hb dX10_runs_116 (by decide) ?_
                refine lv_iadd hx hb dX10_runs_117 ?_
                refine lv_topi (fun n_114 en_114 => ?_)
                have tn_114 : n_114.toInt = l_30.toInt + 1 := i_add en_114 (rfl : l_30.toInt = l_30.toInt) (by decide : (1 : Int32).toInt = 1) (by omega) (by omega)
                refine lv_aload_n hx hb dX10_runs_118 rfl (lv_at hl 1 rfl) ?_
                refine xi hD hS hA (xV (As := []) (rest := [.int n_114, .ref (hm 38)]) hx hb hml hown hts hK hP hD hS hA NT_ok hN hAe hl.1 ⟨Nat.le_refl _, Nat.le_refl _⟩ 0 rfl rfl rfl (c_X10_allTired l D cy hm v_taped v_walkers v_loads v_pieces v_changeCosts v_planned v_isMarch v_clauseMany v_place v_end v_bad v_clauses v_codes v_open v_stacked v_isOver v_isBehind zatW_48 zatL_49 zatT_50 zatH_51 zatM_52 zatI_53 zatQ_54 v_packing v_packed zgoPace_55 zgoMinutes_56 w_41 n_113 f_m_tape f_m_knee f_m_weight f_m_isLame f_m_loadWeight f_m_owner f_m_food f_m_miles f_m_slope f_m_clauseLetter f_m_sumFrom f_m_codeFrom f_m_codeTo f_m_code f_m_codeArg f_m_newLetter f_m_newSum f_m_newFrom f_m_newTo f_m_newCode f_m_newArg f_m_stack zworth_57 zisRefused_58 f_m_least f_m_packPounds f_m_packOwner f_m_room f_m_givenTo f_m_canBe f_m_setPounds f_m_plainTime f_m_muleTime f_m_planTo f_m_march ztired_59 f_98 f_28 f_m_isReached f_m_toEnd f_m_upTo f_m_upNext f_m_byChanges f_m_bandPaces H.size (by omega) p_65) (gi_V lwd_1016 lwd_1017 lwd_1018 lwd_5 lwd_1019) ⟨rfl, hd_X10_allTired⟩ ⟨Nat.le_of_ble_eq_true rfl, Nat.le_of_ble_eq_true rfl⟩ rfl (Nat.le_of_ble_eq_true rfl) dX10_runs_119) (fun r_116 u_115 H locs hw hP hD hS => ?_)
                try dsimp only at hw hP hD
                obtain ⟨p_117, p_118, p_119⟩ := hw
                refine as_m_tiredAhead (x := r_116) hx hb hK hP hD hS hL24_42_2 (i_in tn_114 (by omega) (by omega)) (by omega) dX10_runs_122 (fun f_120 ef_120 rf_120 H locs hP hD hS => ?_)
                obtain ⟨n_121, en_121⟩ : ∃ y : Int32, y = l_30 + 1 := ⟨_, rfl⟩
                have tn_121 : n_121.toInt = l_30.toInt + 1 := i_add en_121 (rfl : l_30.toInt = l_30.toInt) (by decide : (1 : Int32).toInt = 1) (by omega) (by omega)
                refine lv_iinc (v := n_121) (lv' := [(1, .int n_121), (0, .ref (hm 0))]) hx hb dX10_runs_123 hl (k := 0) rfl (by rw [en_121]; rfl) (by decide) rfl (fun ls hl => ?_)
                refine lv_goto (tgt := 24) hx hb dX10_runs_126 (by decide) ?_
                exact ih24_42 zisRefused_58 f_98 ztired_59 f_120 zworth_57 n_121 zatH_51 zatI_53 zatL_49 zatM_52 zatQ_54 zatT_50 zatW_48 zgoMinutes_56 zgoPace_55 n_113 w_41 p_64 p_65 rf_120 (by omega) (by omega) (by omega) (by omega) (by omega) _ _ _ hP hD hS (lv_sub hl [0, 1] rfl)
          · have gc_66 : r_47.toInt = 0 := i_eq (rfl : r_47.toInt = r_47.toInt) (by decide : (0 : Int32).toInt = 0) c_66
            refine lv_aload_n hx hb dX10_runs_54 rfl (lv_at hl 1 rfl) ?_
            refine lv_iload_n hx hb dX10_runs_55 rfl (lv_at hl 0 rfl) ?_
            refine pt_MD_MD_spentAt (x := l_30) hx hb hts hown hK hP hD hS lwd_984 dX10_runs_56 (fun H locs hP hD hS => ?_)
            refine lv_goto (tgt := 123) hx hb dX10_runs_59 (by decide) ?_
            obtain ⟨n_122, en_122⟩ : ∃ y : Int32, y = l_30 + 1 := ⟨_, rfl⟩
            have tn_122 : n_122.toInt = l_30.toInt + 1 := i_add en_122 (rfl : l_30.toInt = l_30.toInt) (by decide : (1 : Int32).toInt = 1) (by omega) (by omega)
            refine lv_iinc (v := n_122) (lv' := [(1, .int n_122), (0, .ref (hm 0))]) hx hb dX10_runs_123 hl (k := 0) rfl (by rw [en_122]; rfl) (by decide) rfl (fun ls hl => ?_)
            refine lv_goto (tgt := 24) hx hb dX10_runs_126 (by decide) ?_
            exact ih24_42 zisRefused_58 f_26 ztired_59 f_28 zworth_57 n_122 zatH_51 zatI_53 zatL_49 zatM_52 zatQ_54 zatT_50 zatW_48 zgoMinutes_56 zgoPace_55 w_40 l_30 p_64 p_65 hL24_42_2 (by omega) (by omega) (by omega) (by omega) (by omega) _ _ _ hP hD hS (lv_sub hl [0, 1] rfl)
  have k_123 : (0 : Int32).toInt = 0 := by decide
  have k_124 : (0 : Int32).toInt = 0 := by decide
  have k_125 : ((-1) : Int32).toInt = (-1) := by decide
  exact L24_42 8589934592 f_m_isRefused f_m_ranMinutes ztired_4 f_7 f_m_worth 0 v_atH v_atI v_atL v_atM v_atQ v_atT v_atW v_goMinutes v_goPace 0 (-1) hr_m_isRefused p_6 rf_7 (by omega) (by omega) (by omega) (by omega) (by omega) _ _ _ hP hD hS (lv_sub hl [0, 1] rfl)
set_option maxHeartbeats 16000000 in
set_option maxRecDepth 100000 in
theorem c_X10_gone (l : Launch) (D : va_G) (cy : Nat → ClassId) (hm : Nat → Nat) (v_taped v_walkers v_loads v_pieces v_changeCosts v_planned v_isMarch v_clauseMany v_place v_end v_bad v_clauses v_codes v_open v_stacked v_isOver v_isBehind v_atW v_atL v_atT v_atH v_atM v_atI v_atQ v_packing v_packed v_goPace v_goMinutes v_spentAt v_ranChanges : Int32) (f_m_tape f_m_knee f_m_weight f_m_isLame f_m_loadWeight f_m_owner f_m_food f_m_miles f_m_slope f_m_clauseLetter f_m_sumFrom f_m_codeFrom f_m_codeTo f_m_code f_m_codeArg f_m_newLetter f_m_newSum f_m_newFrom f_m_newTo f_m_newCode f_m_newArg f_m_stack f_m_worth f_m_isRefused f_m_least f_m_packPounds f_m_packOwner f_m_room f_m_givenTo f_m_canBe f_m_setPounds f_m_plainTime f_m_muleTime f_m_planTo f_m_march f_m_tired f_m_ranMinutes f_m_tiredAhead f_m_isReached f_m_toEnd f_m_upTo f_m_upNext f_m_byChanges f_m_bandPaces : Nat → Int32) (sz : Nat) (hb_v_pieces : 0 ≤ v_pieces.toInt ∧ v_pieces.toInt ≤ 10) (hb_v_spentAt : -1 ≤ v_spentAt.toInt ∧ v_spentAt.toInt ≤ 9) : gMi l yX10_gone cX10_gone 1 .int 1 [.ref (hm 0)] D cy (wMD cy hm v_taped v_walkers v_loads v_pieces v_changeCosts v_planned v_isMarch v_clauseMany v_place v_end v_bad v_clauses v_codes v_open v_stacked v_isOver v_isBehind v_atW v_atL v_atT v_atH v_atM v_atI v_atQ v_packing v_packed v_goPace v_goMinutes v_spentAt v_ranChanges f_m_tape f_m_knee f_m_weight f_m_isLame f_m_loadWeight f_m_owner f_m_food f_m_miles f_m_slope f_m_clauseLetter f_m_sumFrom f_m_codeFrom f_m_codeTo f_m_code f_m_codeArg f_m_newLetter f_m_newSum f_m_newFrom f_m_newTo f_m_newCode f_m_newArg f_m_stack f_m_worth f_m_isRefused f_m_least f_m_packPounds f_m_packOwner f_m_room f_m_givenTo f_m_canBe f_m_setPounds f_m_plainTime f_m_muleTime f_m_planTo f_m_march f_m_tired f_m_ranMinutes f_m_tiredAhead f_m_isReached f_m_toEnd f_m_upTo f_m_upNext f_m_byChanges f_m_bandPaces) NT sz (fun (r : Int32) (u : Unit) => (0 ≤ r.toInt ∧ r.toInt ≤ 10)) (fun u => wMD cy hm v_taped v_walkers v_loads v_pieces v_changeCosts v_planned v_isMarch v_clauseMany v_place v_end v_bad v_clauses v_codes v_open v_stacked v_isOver v_isBehind v_atW v_atL v_atT v_atH v_atM v_atI v_atQ v_packing v_packed v_goPace v_goMinutes v_spentAt v_ranChanges f_m_tape f_m_knee f_m_weight f_m_isLame f_m_loadWeight f_m_owner f_m_food f_m_miles f_m_slope f_m_clauseLetter f_m_sumFrom f_m_codeFrom f_m_codeTo f_m_code f_m_codeArg f_m_newLetter f_m_newSum f_m_newFrom f_m_newTo f_m_newCode f_m_newArg f_m_stack f_m_worth f_m_isRefused f_m_least f_m_packPounds f_m_packOwner f_m_room f_m_givenTo f_m_canBe f_m_setPounds f_m_plainTime f_m_muleTime f_m_planTo f_m_march f_m_tired f_m_ranMinutes f_m_tiredAhead f_m_isReached f_m_toEnd f_m_upTo f_m_upNext f_m_byChanges f_m_bandPaces) := by
  refine gMi_in (by decide) (Nat.le_of_ble_eq_true rfl) ?_
  intro p e s m args below meth c A ls Q hx hb hml hts hown hsz hP hK hD hN hAe hA hS hl hret
  subst hsz
  have hl : lv_has ls 1 [(0, .ref (hm 0))] := hl
  have hrt := fun (r : Int32)  (hp : (0 ≤ r.toInt ∧ r.toInt ≤ 10)) {H : Heap} {locs : List Loc} {pc : Nat} {ls : Array Slot} => hret r () (H := H) (locs := locs) (pc := pc) (ls := ls) hp
  clear hret
  refine lv_aload_n hx hb dX10_gone_0 rfl (lv_at hl 0 rfl) ?_
  refine gt_MD_MD_spentAt hx hb hts hown hK hP lwd_984 dX10_gone_1 ?_
  refine lv_iconst (v := (-1)) hx hb dX10_gone_4 (by decide) ?_
  refine lv_icmp_ne (tgt := 15) hx hb dX10_gone_5 (by decide) (fun c_1 => ?_) (fun c_1 => ?_)
  · have gc_1 : v_spentAt.toInt ≠ (-1) := i_ne (rfl : v_spentAt.toInt = v_spentAt.toInt) (by decide : ((-1) : Int32).toInt = (-1)) c_1
    refine lv_aload_n hx hb dX10_gone_15 rfl (lv_at hl 0 rfl) ?_
    refine gt_MD_MD_spentAt hx hb hts hown hK hP lwd_984 dX10_gone_16 ?_
    exact hrt v_spentAt  (by omega) hP hD hS rfl dX10_gone_19
  · have gc_1 : v_spentAt.toInt = (-1) := i_eq (rfl : v_spentAt.toInt = v_spentAt.toInt) (by decide : ((-1) : Int32).toInt = (-1)) c_1
    refine lv_aload_n hx hb dX10_gone_8 rfl (lv_at hl 0 rfl) ?_
    refine gt_MD_MD_pieces hx hb hts hown hK hP lwd_265 dX10_gone_9 ?_
    refine lv_goto (tgt := 19) hx hb dX10_gone_12 (by decide) ?_
    exact hrt v_pieces  (by omega) hP hD hS rfl dX10_gone_19
set_option maxHeartbeats 16000000 in
set_option maxRecDepth 100000 in
theorem c_X10_ran (l : Launch) (D : va_G) (cy : Nat → ClassId) (hm : Nat → Nat) (v_taped v_walkers v_loads v_pieces v_changeCosts v_planned v_isMarch v_clauseMany v_place v_end v_bad v_clauses v_codes v_open v_stacked v_isOver v_isBehind v_atW v_atL v_atT v_atH v_atM v_atI v_atQ v_packing v_packed v_goPace v_goMinutes v_spentAt v_ranChanges : Int32) (f_m_tape f_m_knee f_m_weight f_m_isLame f_m_loadWeight f_m_owner f_m_food f_m_miles f_m_slope f_m_clauseLetter f_m_sumFrom f_m_codeFrom f_m_codeTo f_m_code f_m_codeArg f_m_newLetter f_m_newSum f_m_newFrom f_m_newTo f_m_newCode f_m_newArg f_m_stack f_m_worth f_m_isRefused f_m_least f_m_packPounds f_m_packOwner f_m_room f_m_givenTo f_m_canBe f_m_setPounds f_m_plainTime f_m_muleTime f_m_planTo f_m_march f_m_tired f_m_ranMinutes f_m_tiredAhead f_m_isReached f_m_toEnd f_m_upTo f_m_upNext f_m_byChanges f_m_bandPaces : Nat → Int32) (sz : Nat) (what : Int32) (hb_v_walkers : 0 ≤ v_walkers.toInt ∧ v_walkers.toInt ≤ 6) (hb_v_loads : 0 ≤ v_loads.toInt ∧ v_loads.toInt ≤ 9) (hb_v_pieces : 0 ≤ v_pieces.toInt ∧ v_pieces.toInt ≤ 10) (hb_v_isMarch : 0 ≤ v_isMarch.toInt ∧ v_isMarch.toInt ≤ 1) (hb_v_clauseMany : 0 ≤ v_clauseMany.toInt ∧ v_clauseMany.toInt ≤ 14) (hb_v_atW : 0 ≤ v_atW.toInt ∧ v_atW.toInt ≤ 5) (hb_v_goPace : 0 ≤ v_goPace.toInt ∧ v_goPace.toInt ≤ 60) (hb_v_spentAt : -1 ≤ v_spentAt.toInt ∧ v_spentAt.toInt ≤ 9) (hr_m_weight : rg (0) 250 f_m_weight) (hr_m_isLame : rg (0) 1 f_m_isLame) (hr_m_loadWeight : rg (0) 120 f_m_loadWeight) (hr_m_food : rg (0) 20 f_m_food) (hr_m_miles : rg (0) 20 f_m_miles) (hr_m_isRefused : rg (0) 1 f_m_isRefused) (hr_m_march : rg (0) 17 f_m_march) (hr_m_tired : rg (0) 5 f_m_tired) (hr_m_tiredAhead : rg (0) 46655 f_m_tiredAhead) (hwf : wfC v_clauseMany f_m_sumFrom f_m_codeFrom f_m_codeTo f_m_code) : gMi l yX10_ran cX10_ran 4 .int 9 [.ref (hm 0), .int what] D cy (wMD cy hm v_taped v_walkers v_loads v_pieces v_changeCosts v_planned v_isMarch v_clauseMany v_place v_end v_bad v_clauses v_codes v_open v_stacked v_isOver v_isBehind v_atW v_atL v_atT v_atH v_atM v_atI v_atQ v_packing v_packed v_goPace v_goMinutes v_spentAt v_ranChanges f_m_tape f_m_knee f_m_weight f_m_isLame f_m_loadWeight f_m_owner f_m_food f_m_miles f_m_slope f_m_clauseLetter f_m_sumFrom f_m_codeFrom f_m_codeTo f_m_code f_m_codeArg f_m_newLetter f_m_newSum f_m_newFrom f_m_newTo f_m_newCode f_m_newArg f_m_stack f_m_worth f_m_isRefused f_m_least f_m_packPounds f_m_packOwner f_m_room f_m_givenTo f_m_canBe f_m_setPounds f_m_plainTime f_m_muleTime f_m_planTo f_m_march f_m_tired f_m_ranMinutes f_m_tiredAhead f_m_isReached f_m_toEnd f_m_upTo f_m_upNext f_m_byChanges f_m_bandPaces) NT sz (fun (r : Int32) (u : Int32 × Int32 × Int32 × Int32 × Int32 × Int32 × Int32 × Int32 × Int32 × Int32 × Int32 × (Nat → Int32) × (Nat → Int32) × (Nat → Int32) × (Nat → Int32) × (Nat → Int32)) => (0 ≤ (u.1).toInt ∧ (u.1).toInt ≤ 5) ∧ (0 ≤ (u.2.2.2.2.2.2.2.1).toInt ∧ (u.2.2.2.2.2.2.2.1).toInt ≤ 60) ∧ (-1 ≤ (u.2.2.2.2.2.2.2.2.2.1).toInt ∧ (u.2.2.2.2.2.2.2.2.2.1).toInt ≤ 9) ∧ (rg (0) 1 (u.2.2.2.2.2.2.2.2.2.2.2.2.1)) ∧ (rg (0) 5 (u.2.2.2.2.2.2.2.2.2.2.2.2.2.1)) ∧ (rg (0) 46655 (u.2.2.2.2.2.2.2.2.2.2.2.2.2.2.2))) (fun u => wMD cy hm v_taped v_walkers v_loads v_pieces v_changeCosts v_planned v_isMarch v_clauseMany v_place v_end v_bad v_clauses v_codes v_open v_stacked v_isOver v_isBehind (u.1) (u.2.1) (u.2.2.1) (u.2.2.2.1) (u.2.2.2.2.1) (u.2.2.2.2.2.1) (u.2.2.2.2.2.2.1) v_packing v_packed (u.2.2.2.2.2.2.2.1) (u.2.2.2.2.2.2.2.2.1) (u.2.2.2.2.2.2.2.2.2.1) (u.2.2.2.2.2.2.2.2.2.2.1) f_m_tape f_m_knee f_m_weight f_m_isLame f_m_loadWeight f_m_owner f_m_food f_m_miles f_m_slope f_m_clauseLetter f_m_sumFrom f_m_codeFrom f_m_codeTo f_m_code f_m_codeArg f_m_newLetter f_m_newSum f_m_newFrom f_m_newTo f_m_newCode f_m_newArg f_m_stack (u.2.2.2.2.2.2.2.2.2.2.2.1) (u.2.2.2.2.2.2.2.2.2.2.2.2.1) f_m_least f_m_packPounds f_m_packOwner f_m_room f_m_givenTo f_m_canBe f_m_setPounds f_m_plainTime f_m_muleTime f_m_planTo f_m_march (u.2.2.2.2.2.2.2.2.2.2.2.2.2.1) (u.2.2.2.2.2.2.2.2.2.2.2.2.2.2.1) (u.2.2.2.2.2.2.2.2.2.2.2.2.2.2.2) f_m_isReached f_m_toEnd f_m_upTo f_m_upNext f_m_byChanges f_m_bandPaces) := by
  refine gMi_in (by decide) (Nat.le_of_ble_eq_true rfl) ?_
  intro p e s m args below meth c A ls Q hx hb hml hts hown hsz hP hK hD hN hAe hA hS hl hret
  subst hsz
  have hl : lv_has ls 4 [(0, .ref (hm 0)), (1, .int what)] := hl
  have hrt := fun (r : Int32) (v_atW' : Int32) (v_atL' : Int32) (v_atT' : Int32) (v_atH' : Int32) (v_atM' : Int32) (v_atI' : Int32) (v_atQ' : Int32) (v_goPace' : Int32) (v_goMinutes' : Int32) (v_spentAt' : Int32) (v_ranChanges' : Int32) (f_m_worth' : Nat → Int32) (f_m_isRefused' : Nat → Int32) (f_m_tired' : Nat → Int32) (f_m_ranMinutes' : Nat → Int32) (f_m_tiredAhead' : Nat → Int32) (hp : (0 ≤ v_atW'.toInt ∧ v_atW'.toInt ≤ 5) ∧ (0 ≤ v_goPace'.toInt ∧ v_goPace'.toInt ≤ 60) ∧ (-1 ≤ v_spentAt'.toInt ∧ v_spentAt'.toInt ≤ 9) ∧ (rg (0) 1 f_m_isRefused') ∧ (rg (0) 5 f_m_tired') ∧ (rg (0) 46655 f_m_tiredAhead')) {H : Heap} {locs : List Loc} {pc : Nat} {ls : Array Slot} => hret r (v_atW', v_atL', v_atT', v_atH', v_atM', v_atI', v_atQ', v_goPace', v_goMinutes', v_spentAt', v_ranChanges', f_m_worth', f_m_isRefused', f_m_tired', f_m_ranMinutes', f_m_tiredAhead') (H := H) (locs := locs) (pc := pc) (ls := ls) hp
  clear hret
  refine lv_iload_n hx hb dX10_ran_0 rfl (lv_at hl 1 rfl) ?_
  refine lv_i2l (v := what.toInt64) hx hb dX10_ran_1 rfl ?_
  have hl_1 : what.toInt64.toInt = what.toInt := i_l (rfl : what.toInt = what.toInt)
  refine lv_lconst (v := 0) hx hb dX10_ran_2 (by decide) ?_
  refine lv_ldc2 hx hb hown (hts _ lwd_983) dX10_ran_3 ?_
  have k_2 : (0 : Int64).toInt = 0 := by decide
  have k_3 : (3 : Int64).toInt = 3 := by decide
  refine xi hD hS hA (xS (As := [.long what.toInt64, .long 0, .long 3]) (rest := []) hx hb hml hown hts hK hP hD hS hA NT_ok hN hAe hl.1 ⟨Nat.le_refl _, Nat.le_refl _⟩ (c_X10_lies l D cy hm v_taped v_walkers v_loads v_pieces v_changeCosts v_planned v_isMarch v_clauseMany v_place v_end v_bad v_clauses v_codes v_open v_stacked v_isOver v_isBehind v_atW v_atL v_atT v_atH v_atM v_atI v_atQ v_packing v_packed v_goPace v_goMinutes v_spentAt v_ranChanges f_m_tape f_m_knee f_m_weight f_m_isLame f_m_loadWeight f_m_owner f_m_food f_m_miles f_m_slope f_m_clauseLetter f_m_sumFrom f_m_codeFrom f_m_codeTo f_m_code f_m_codeArg f_m_newLetter f_m_newSum f_m_newFrom f_m_newTo f_m_newCode f_m_newArg f_m_stack f_m_worth f_m_isRefused f_m_least f_m_packPounds f_m_packOwner f_m_room f_m_givenTo f_m_canBe f_m_setPounds f_m_plainTime f_m_muleTime f_m_planTo f_m_march f_m_tired f_m_ranMinutes f_m_tiredAhead f_m_isReached f_m_toEnd f_m_upTo f_m_upNext f_m_byChanges f_m_bandPaces s.heap.size what.toInt64 0 3) (gi_S lwd_226 lwd_227 lwd_5 lwd_228) hd_X10_lies ⟨Nat.le_of_ble_eq_true rfl, Nat.le_of_ble_eq_true rfl⟩ rfl (Nat.le_of_ble_eq_true rfl) dX10_ran_6) (fun r_5 u_4 H locs hw hP hD hS => ?_)
  try dsimp only at hw hP hD
  obtain ⟨p_6, p_7⟩ := hw
  refine lv_if_ne (tgt := 14) hx hb dX10_ran_9 (by decide) (fun c_8 => ?_) (fun c_8 => ?_)
  · have gc_8 : r_5.toInt ≠ 0 := i_ne (rfl : r_5.toInt = r_5.toInt) (by decide : (0 : Int32).toInt = 0) c_8
    refine lv_aload_n hx hb dX10_ran_14 rfl (lv_at hl 0 rfl) ?_
    refine gt_MD_MD_isMarch hx hb hts hown hK hP lwd_225 dX10_ran_15 ?_
    refine lv_if_ne (tgt := 24) hx hb dX10_ran_18 (by decide) (fun c_9 => ?_) (fun c_9 => ?_)
    · have gc_9 : v_isMarch.toInt ≠ 0 := i_ne (rfl : v_isMarch.toInt = v_isMarch.toInt) (by decide : (0 : Int32).toInt = 0) c_9
      refine lv_aload_n hx hb dX10_ran_24 rfl (lv_at hl 0 rfl) ?_
      refine xv hD hS hA (xV (As := []) (rest := []) hx hb hml hown hts hK hP hD hS hA NT_ok hN hAe hl.1 ⟨Nat.le_refl _, Nat.le_refl _⟩ 0 rfl rfl rfl (c_X10_runs l D cy hm v_taped v_walkers v_loads v_pieces v_changeCosts v_planned v_isMarch v_clauseMany v_place v_end v_bad v_clauses v_codes v_open v_stacked v_isOver v_isBehind v_atW v_atL v_atT v_atH v_atM v_atI v_atQ v_packing v_packed v_goPace v_goMinutes v_spentAt v_ranChanges f_m_tape f_m_knee f_m_weight f_m_isLame f_m_loadWeight f_m_owner f_m_food f_m_miles f_m_slope f_m_clauseLetter f_m_sumFrom f_m_codeFrom f_m_codeTo f_m_code f_m_codeArg f_m_newLetter f_m_newSum f_m_newFrom f_m_newTo f_m_newCode f_m_newArg f_m_stack f_m_worth f_m_isRefused f_m_least f_m_packPounds f_m_packOwner f_m_room f_m_givenTo f_m_canBe f_m_setPounds f_m_plainTime f_m_muleTime f_m_planTo f_m_march f_m_tired f_m_ranMinutes f_m_tiredAhead f_m_isReached f_m_toEnd f_m_upTo f_m_upNext f_m_byChanges f_m_bandPaces H.size (by omega) (by omega) (by omega) (by omega) (by omega) (by omega) (by omega) hr_m_weight hr_m_isLame hr_m_loadWeight hr_m_food hr_m_miles hr_m_isRefused hr_m_march hr_m_tired hr_m_tiredAhead hwf) (gi_V lwd_986 lwd_987 lwd_988 lwd_5 lwd_989) ⟨rfl, hd_X10_runs⟩ ⟨Nat.le_of_ble_eq_true rfl, Nat.le_of_ble_eq_true rfl⟩ rfl (Nat.le_of_ble_eq_true rfl) dX10_ran_25) (fun u_10 H locs hw hP hD hS => ?_)
      obtain ⟨zatW_12, zatL_13, zatT_14, zatH_15, zatM_16, zatI_17, zatQ_18, zgoPace_19, zgoMinutes_20, zspentAt_21, zranChanges_22, zworth_23, zisRefused_24, ztired_25, zranMinutes_26, ztiredAhead_27⟩ := u_10
      try dsimp only at hw hP hD
      obtain ⟨p_28, p_29, p_30, p_31, p_32, p_33⟩ := hw
      refine lv_iconst (v := 0) hx hb dX10_ran_28 (by decide) ?_
      refine lv_istore_n (lv' := [(2, .int 0), (0, .ref (hm 0)), (1, .int what)]) hx hb dX10_ran_29 rfl hl (by decide) rfl (fun ls hl => ?_)
      refine lv_iconst (v := 0) hx hb dX10_ran_30 (by decide) ?_
      refine lv_istore_n (lv' := [(3, .int 0), (2, .int 0), (0, .ref (hm 0)), (1, .int what)]) hx hb dX10_ran_31 rfl hl (by decide) rfl (fun ls hl => ?_)
      have L32_38 : ∀ (n : Nat) (l_36 : Int32) (l_37 : Int32), (0 ≤ l_37.toInt ∧ l_37.toInt ≤ 10) → 11 - l_37.toInt < n → ∀ (H : Heap) (locs : List Loc) (ls : Array Slot), va_P D vwCl (wMD cy hm v_taped v_walkers v_loads v_pieces v_changeCosts v_planned v_isMarch v_clauseMany v_place v_end v_bad v_clauses v_codes v_open v_stacked v_isOver v_isBehind zatW_12 zatL_13 zatT_14 zatH_15 zatM_16 zatI_17 zatQ_18 v_packing v_packed zgoPace_19 zgoMinutes_20 zspentAt_21 zranChanges_22 f_m_tape f_m_knee f_m_weight f_m_isLame f_m_loadWeight f_m_owner f_m_food f_m_miles f_m_slope f_m_clauseLetter f_m_sumFrom f_m_codeFrom f_m_codeTo f_m_code f_m_codeArg f_m_newLetter f_m_newSum f_m_newFrom f_m_newTo f_m_newCode f_m_newArg f_m_stack zworth_23 zisRefused_24 f_m_least f_m_packPounds f_m_packOwner f_m_room f_m_givenTo f_m_canBe f_m_setPounds f_m_plainTime f_m_muleTime f_m_planTo f_m_march ztired_25 zranMinutes_26 ztiredAhead_27 f_m_isReached f_m_toEnd f_m_upTo f_m_upNext f_m_byChanges f_m_bandPaces) H → va_D A (wMD cy hm v_taped v_walkers v_loads v_pieces v_changeCosts v_planned v_isMarch v_clauseMany v_place v_end v_bad v_clauses v_codes v_open v_stacked v_isOver v_isBehind zatW_12 zatL_13 zatT_14 zatH_15 zatM_16 zatI_17 zatQ_18 v_packing v_packed zgoPace_19 zgoMinutes_20 zspentAt_21 zranChanges_22 f_m_tape f_m_knee f_m_weight f_m_isLame f_m_loadWeight f_m_owner f_m_food f_m_miles f_m_slope f_m_clauseLetter f_m_sumFrom f_m_codeFrom f_m_codeTo f_m_code f_m_codeArg f_m_newLetter f_m_newSum f_m_newFrom f_m_newTo f_m_newCode f_m_newArg f_m_stack zworth_23 zisRefused_24 f_m_least f_m_packPounds f_m_packOwner f_m_room f_m_givenTo f_m_canBe f_m_setPounds f_m_plainTime f_m_muleTime f_m_planTo f_m_march ztired_25 zranMinutes_26 ztiredAhead_27 f_m_isReached f_m_toEnd f_m_upTo f_m_upNext f_m_byChanges f_m_bandPaces) → va_S A s.heap H locs → lv_has ls 4 [(3, .int l_37), (2, .int l_36), (0, .ref (hm 0)), (1, .int what)] → W p l e (gRm 9) s m args below meth c H locs 0 0 Q (F0 m 32 ls []) := by
        intro n
        induction n with
        | zero => intro l_36 l_37 hL32_38_0 hm; exact absurd hm (by omega)
        | succ n ih32_38 =>
          intro l_36 l_37 hL32_38_0 hmL32_38 H locs ls hP hD hS hl
          refine lv_iload_n hx hb dX10_ran_32 rfl (lv_at hl 0 rfl) ?_
          refine lv_aload_n hx hb dX10_ran_33 rfl (lv_at hl 2 rfl) ?_
          refine xi hD hS hA (xV (As := []) (rest := [.int l_37]) hx hb hml hown hts hK hP hD hS hA NT_ok hN hAe hl.1 ⟨Nat.le_refl _, Nat.le_refl _⟩ 0 rfl rfl rfl (c_X10_gone l D cy hm v_taped v_walkers v_loads v_pieces v_changeCosts v_planned v_isMarch v_clauseMany v_place v_end v_bad v_clauses v_codes v_open v_stacked v_isOver v_isBehind zatW_12 zatL_13 zatT_14 zatH_15 zatM_16 zatI_17 zatQ_18 v_packing v_packed zgoPace_19 zgoMinutes_20 zspentAt_21 zranChanges_22 f_m_tape f_m_knee f_m_weight f_m_isLame f_m_loadWeight f_m_owner f_m_food f_m_miles f_m_slope f_m_clauseLetter f_m_sumFrom f_m_codeFrom f_m_codeTo f_m_code f_m_codeArg f_m_newLetter f_m_newSum f_m_newFrom f_m_newTo f_m_newCode f_m_newArg f_m_stack zworth_23 zisRefused_24 f_m_least f_m_packPounds f_m_packOwner f_m_room f_m_givenTo f_m_canBe f_m_setPounds f_m_plainTime f_m_muleTime f_m_planTo f_m_march ztired_25 zranMinutes_26 ztiredAhead_27 f_m_isReached f_m_toEnd f_m_upTo f_m_upNext f_m_byChanges f_m_bandPaces H.size (by omega) (by omega)) (gi_V lwd_1020 lwd_1021 lwd_1022 lwd_5 lwd_1023) ⟨rfl, hd_X10_gone⟩ ⟨Nat.le_of_ble_eq_true rfl, Nat.le_of_ble_eq_true rfl⟩ rfl (Nat.le_of_ble_eq_true rfl) dX10_ran_34) (fun r_40 u_39 H locs hw hP hD hS => ?_)
          try dsimp only at hw hP hD
          have p_41 := hw
          clear hw
          refine lv_icmp_ge (tgt := 55) hx hb dX10_ran_37 (by decide) (fun c_42 => ?_) (fun c_42 => ?_)
          · have gc_42 : r_40.toInt ≤ l_37.toInt := i_le (rfl : r_40.toInt = r_40.toInt) (rfl : l_37.toInt = l_37.toInt) c_42
            refine lv_iload_n hx hb dX10_ran_55 rfl (lv_at hl 3 rfl) ?_
            refine lv_if_ne (tgt := 63) hx hb dX10_ran_56 (by decide) (fun c_43 => ?_) (fun c_43 => ?_)
            · have gc_43 : what.toInt ≠ 0 := i_ne (rfl : what.toInt = what.toInt) (by decide : (0 : Int32).toInt = 0) c_43
              refine lv_iload_n hx hb dX10_ran_63 rfl (lv_at hl 3 rfl) ?_
              refine lv_iconst (v := 1) hx hb dX10_ran_64 (by decide) ?_
              refine lv_icmp_ne (tgt := 80) hx hb dX10_ran_65 (by decide) (fun c_44 => ?_) (fun c_44 => ?_)
              · have gc_44 : what.toInt ≠ 1 := i_ne (rfl : what.toInt = what.toInt) (by decide : (1 : Int32).toInt = 1) c_44
                refine lv_iload_n hx hb dX10_ran_80 rfl (lv_at hl 3 rfl) ?_
                refine lv_iconst (v := 2) hx hb dX10_ran_81 (by decide) ?_
                refine lv_icmp_ne (tgt := 92) hx hb dX10_ran_82 (by decide) (fun c_45 => ?_) (fun c_45 => ?_)
                · have gc_45 : what.toInt ≠ 2 := i_ne (rfl : what.toInt = what.toInt) (by decide : (2 : Int32).toInt = 2) c_45
                  refine lv_aload_n hx hb dX10_ran_92 rfl (lv_at hl 2 rfl) ?_
                  refine gt_MD_MD_ranChanges hx hb hts hown hK hP lwd_985 dX10_ran_93 ?_
                  exact hrt zranChanges_22 zatW_12 zatL_13 zatT_14 zatH_15 zatM_16 zatI_17 zatQ_18 zgoPace_19 zgoMinutes_20 zspentAt_21 zranChanges_22 zworth_23 zisRefused_24 ztired_25 zranMinutes_26 ztiredAhead_27 ⟨(by omega), (by omega), (by omega), p_31, p_32, p_33⟩ hP hD hS rfl dX10_ran_96
                · have gc_45 : what.toInt = 2 := i_eq (rfl : what.toInt = what.toInt) (by decide : (2 : Int32).toInt = 2) c_45
                  refine lv_aload_n hx hb dX10_ran_85 rfl (lv_at hl 2 rfl) ?_
                  refine gt_MD_MD_spentAt hx hb hts hown hK hP lwd_984 dX10_ran_86 ?_
                  refine lv_goto (tgt := 96) hx hb dX10_ran_89 (by decide) ?_
                  exact hrt zspentAt_21 zatW_12 zatL_13 zatT_14 zatH_15 zatM_16 zatI_17 zatQ_18 zgoPace_19 zgoMinutes_20 zspentAt_21 zranChanges_22 zworth_23 zisRefused_24 ztired_25 zranMinutes_26 ztiredAhead_27 ⟨(by omega), (by omega), (by omega), p_31, p_32, p_33⟩ hP hD hS rfl dX10_ran_96
              · have gc_44 : what.toInt = 1 := i_eq (rfl : what.toInt = what.toInt) (by decide : (1 : Int32).toInt = 1) c_44
                refine lv_aload_n hx hb dX10_ran_68 rfl (lv_at hl 2 rfl) ?_
                refine gt_MD_MD_tiredAhead hx hb hts hown hK hP lwd_193 dX10_ran_69 ?_
                refine lv_aload_n hx hb dX10_ran_72 rfl (lv_at hl 2 rfl) ?_
                refine xi hD hS hA (xV (As := []) (rest := [.ref (hm 38)]) hx hb hml hown hts hK hP hD hS hA NT_ok hN hAe hl.1 ⟨Nat.le_refl _, Nat.le_refl _⟩ 0 rfl rfl rfl (c_X10_gone l D cy hm v_taped v_walkers v_loads v_pieces v_changeCosts v_planned v_isMarch v_clauseMany v_place v_end v_bad v_clauses v_codes v_open v_stacked v_isOver v_isBehind zatW_12 zatL_13 zatT_14 zatH_15 zatM_16 zatI_17 zatQ_18 v_packing v_packed zgoPace_19 zgoMinutes_20 zspentAt_21 zranChanges_22 f_m_tape f_m_knee f_m_weight f_m_isLame f_m_loadWeight f_m_owner f_m_food f_m_miles f_m_slope f_m_clauseLetter f_m_sumFrom f_m_codeFrom f_m_codeTo f_m_code f_m_codeArg f_m_newLetter f_m_newSum f_m_newFrom f_m_newTo f_m_newCode f_m_newArg f_m_stack zworth_23 zisRefused_24 f_m_least f_m_packPounds f_m_packOwner f_m_room f_m_givenTo f_m_canBe f_m_setPounds f_m_plainTime f_m_muleTime f_m_planTo f_m_march ztired_25 zranMinutes_26 ztiredAhead_27 f_m_isReached f_m_toEnd f_m_upTo f_m_upNext f_m_byChanges f_m_bandPaces H.size (by omega) (by omega)) (gi_V lwd_1020 lwd_1021 lwd_1022 lwd_5 lwd_1023) ⟨rfl, hd_X10_gone⟩ ⟨Nat.le_of_ble_eq_true rfl, Nat.le_of_ble_eq_true rfl⟩ rfl (Nat.le_of_ble_eq_true rfl) dX10_ran_73) (fun r_47 u_46 H locs hw hP hD hS => ?_)
                try dsimp only at hw hP hD
                have p_48 := hw
                clear hw
                refine al_m_tiredAhead hx hb hK hP p_33 (i_in (rfl : r_47.toInt = r_47.toInt) (by omega) (by omega)) dX10_ran_76 (fun n_49 en_49 bn_49 => ?_)
                refine lv_goto (tgt := 96) hx hb dX10_ran_77 (by decide) ?_
                exact hrt n_49 zatW_12 zatL_13 zatT_14 zatH_15 zatM_16 zatI_17 zatQ_18 zgoPace_19 zgoMinutes_20 zspentAt_21 zranChanges_22 zworth_23 zisRefused_24 ztired_25 zranMinutes_26 ztiredAhead_27 ⟨(by omega), (by omega), (by omega), p_31, p_32, p_33⟩ hP hD hS rfl dX10_ran_96
            · have gc_43 : what.toInt = 0 := i_eq (rfl : what.toInt = what.toInt) (by decide : (0 : Int32).toInt = 0) c_43
              refine lv_iload_n hx hb dX10_ran_59 rfl (lv_at hl 1 rfl) ?_
              refine lv_goto (tgt := 96) hx hb dX10_ran_60 (by decide) ?_
              exact hrt l_36 zatW_12 zatL_13 zatT_14 zatH_15 zatM_16 zatI_17 zatQ_18 zgoPace_19 zgoMinutes_20 zspentAt_21 zranChanges_22 zworth_23 zisRefused_24 ztired_25 zranMinutes_26 ztiredAhead_27 ⟨(by omega), (by omega), (by omega), p_31, p_32, p_33⟩ hP hD hS rfl dX10_ran_96
          · have gc_42 : l_37.toInt < r_40.toInt := i_nle (rfl : r_40.toInt = r_40.toInt) (rfl : l_37.toInt = l_37.toInt) c_42
            refine lv_iload_n hx hb dX10_ran_40 rfl (lv_at hl 1 rfl) ?_
            refine lv_aload_n hx hb dX10_ran_41 rfl (lv_at hl 2 rfl) ?_
            refine gt_MD_MD_ranMinutes hx hb hts hown hK hP lwd_192 dX10_ran_42 ?_
            refine lv_iload_n hx hb dX10_ran_45 rfl (lv_at hl 0 rfl) ?_
            refine al_m_ranMinutes hx hb hK hP (i_in (rfl : l_37.toInt = l_37.toInt) (by omega) (by omega)) dX10_ran_46 (fun n_50 en_50 => ?_)
            refine lv_iadd hx hb dX10_ran_47 ?_
            refine lv_topi (fun n_51 en_51 => ?_)
            refine lv_istore_n (lv' := [(2, .int n_51), (3, .int l_37), (0, .ref (hm 0)), (1, .int what)]) hx hb dX10_ran_48 rfl hl (by decide) rfl (fun ls hl => ?_)
            obtain ⟨n_52, en_52⟩ : ∃ y : Int32, y = l_37 + 1 := ⟨_, rfl⟩
            have tn_52 : n_52.toInt = l_37.toInt + 1 := i_add en_52 (rfl : l_37.toInt = l_37.toInt) (by decide : (1 : Int32).toInt = 1) (by omega) (by omega)
            refine lv_iinc (v := n_52) (lv' := [(3, .int n_52), (2, .int n_51), (0, .ref (hm 0)), (1, .int what)]) hx hb dX10_ran_49 hl (k := 1) rfl (by rw [en_52]; rfl) (by decide) rfl (fun ls hl => ?_)
            refine lv_goto (tgt := 32) hx hb dX10_ran_52 (by decide) ?_
            exact ih32_38 n_51 n_52 (by omega) (by omega) _ _ _ hP hD hS (lv_sub hl [0, 1, 2, 3] rfl)
      have k_53 : (0 : Int32).toInt = 0 := by decide
      have k_54 : (0 : Int32).toInt = 0 := by decide
      exact L32_38 8589934592 0 0 (by omega) (by omega) _ _ _ hP hD hS (lv_sub hl [0, 1, 2, 3] rfl)
    · have gc_9 : v_isMarch.toInt = 0 := i_eq (rfl : v_isMarch.toInt = v_isMarch.toInt) (by decide : (0 : Int32).toInt = 0) c_9
      refine lv_bipush (v := (-2)) hx hb dX10_ran_21 (by decide) ?_
      have k_55 : ((-2) : Int32).toInt = (-2) := by decide
      exact hrt (-2) v_atW v_atL v_atT v_atH v_atM v_atI v_atQ v_goPace v_goMinutes v_spentAt v_ranChanges f_m_worth f_m_isRefused f_m_tired f_m_ranMinutes f_m_tiredAhead ⟨(by omega), (by omega), (by omega), hr_m_isRefused, hr_m_tired, hr_m_tiredAhead⟩ hP hD hS rfl dX10_ran_23
  · have gc_8 : r_5.toInt = 0 := i_eq (rfl : r_5.toInt = r_5.toInt) (by decide : (0 : Int32).toInt = 0) c_8
    refine lv_iconst (v := (-1)) hx hb dX10_ran_12 (by decide) ?_
    have k_56 : ((-1) : Int32).toInt = (-1) := by decide
    exact hrt (-1) v_atW v_atL v_atT v_atH v_atM v_atI v_atQ v_goPace v_goMinutes v_spentAt v_ranChanges f_m_worth f_m_isRefused f_m_tired f_m_ranMinutes f_m_tiredAhead ⟨(by omega), (by omega), (by omega), hr_m_isRefused, hr_m_tired, hr_m_tiredAhead⟩ hP hD hS rfl dX10_ran_13
set_option maxHeartbeats 16000000 in
set_option maxRecDepth 100000 in
theorem c_X10_gap (l : Launch) (D : va_G) (cy : Nat → ClassId) (hm : Nat → Nat) (v_taped v_walkers v_loads v_pieces v_changeCosts v_planned v_isMarch v_clauseMany v_place v_end v_bad v_clauses v_codes v_open v_stacked v_isOver v_isBehind v_atW v_atL v_atT v_atH v_atM v_atI v_atQ v_packing v_packed v_goPace v_goMinutes v_spentAt v_ranChanges : Int32) (f_m_tape f_m_knee f_m_weight f_m_isLame f_m_loadWeight f_m_owner f_m_food f_m_miles f_m_slope f_m_clauseLetter f_m_sumFrom f_m_codeFrom f_m_codeTo f_m_code f_m_codeArg f_m_newLetter f_m_newSum f_m_newFrom f_m_newTo f_m_newCode f_m_newArg f_m_stack f_m_worth f_m_isRefused f_m_least f_m_packPounds f_m_packOwner f_m_room f_m_givenTo f_m_canBe f_m_setPounds f_m_plainTime f_m_muleTime f_m_planTo f_m_march f_m_tired f_m_ranMinutes f_m_tiredAhead f_m_isReached f_m_toEnd f_m_upTo f_m_upNext f_m_byChanges f_m_bandPaces : Nat → Int32) (sz : Nat) (i : Int32) (hb_v_walkers : 0 ≤ v_walkers.toInt ∧ v_walkers.toInt ≤ 6) (hb_v_loads : 0 ≤ v_loads.toInt ∧ v_loads.toInt ≤ 9) (hb_v_pieces : 0 ≤ v_pieces.toInt ∧ v_pieces.toInt ≤ 10) (hb_v_isMarch : 0 ≤ v_isMarch.toInt ∧ v_isMarch.toInt ≤ 1) (hb_v_clauseMany : 0 ≤ v_clauseMany.toInt ∧ v_clauseMany.toInt ≤ 14) (hb_v_atW : 0 ≤ v_atW.toInt ∧ v_atW.toInt ≤ 5) (hb_v_goPace : 0 ≤ v_goPace.toInt ∧ v_goPace.toInt ≤ 60) (hb_v_spentAt : -1 ≤ v_spentAt.toInt ∧ v_spentAt.toInt ≤ 9) (hr_m_weight : rg (0) 250 f_m_weight) (hr_m_isLame : rg (0) 1 f_m_isLame) (hr_m_loadWeight : rg (0) 120 f_m_loadWeight) (hr_m_food : rg (0) 20 f_m_food) (hr_m_miles : rg (0) 20 f_m_miles) (hr_m_isRefused : rg (0) 1 f_m_isRefused) (hr_m_march : rg (0) 17 f_m_march) (hr_m_tired : rg (0) 5 f_m_tired) (hr_m_tiredAhead : rg (0) 46655 f_m_tiredAhead) (hwf : wfC v_clauseMany f_m_sumFrom f_m_codeFrom f_m_codeTo f_m_code) (hmw : v_isMarch.toInt = 1 → 0 < v_walkers.toInt) : gMi l yX10_gap cX10_gap 6 .int 9 [.ref (hm 0), .int i] D cy (wMD cy hm v_taped v_walkers v_loads v_pieces v_changeCosts v_planned v_isMarch v_clauseMany v_place v_end v_bad v_clauses v_codes v_open v_stacked v_isOver v_isBehind v_atW v_atL v_atT v_atH v_atM v_atI v_atQ v_packing v_packed v_goPace v_goMinutes v_spentAt v_ranChanges f_m_tape f_m_knee f_m_weight f_m_isLame f_m_loadWeight f_m_owner f_m_food f_m_miles f_m_slope f_m_clauseLetter f_m_sumFrom f_m_codeFrom f_m_codeTo f_m_code f_m_codeArg f_m_newLetter f_m_newSum f_m_newFrom f_m_newTo f_m_newCode f_m_newArg f_m_stack f_m_worth f_m_isRefused f_m_least f_m_packPounds f_m_packOwner f_m_room f_m_givenTo f_m_canBe f_m_setPounds f_m_plainTime f_m_muleTime f_m_planTo f_m_march f_m_tired f_m_ranMinutes f_m_tiredAhead f_m_isReached f_m_toEnd f_m_upTo f_m_upNext f_m_byChanges f_m_bandPaces) NT sz (fun (r : Int32) (u : Int32 × Int32 × Int32 × Int32 × Int32 × Int32 × Int32 × Int32 × Int32 × Int32 × Int32 × (Nat → Int32) × (Nat → Int32) × (Nat → Int32) × (Nat → Int32) × (Nat → Int32)) => (0 ≤ (u.1).toInt ∧ (u.1).toInt ≤ 5) ∧ (0 ≤ (u.2.2.2.2.2.2.2.1).toInt ∧ (u.2.2.2.2.2.2.2.1).toInt ≤ 60) ∧ (-1 ≤ (u.2.2.2.2.2.2.2.2.2.1).toInt ∧ (u.2.2.2.2.2.2.2.2.2.1).toInt ≤ 9) ∧ (rg (0) 1 (u.2.2.2.2.2.2.2.2.2.2.2.2.1)) ∧ (rg (0) 5 (u.2.2.2.2.2.2.2.2.2.2.2.2.2.1)) ∧ (rg (0) 46655 (u.2.2.2.2.2.2.2.2.2.2.2.2.2.2.2))) (fun u => wMD cy hm v_taped v_walkers v_loads v_pieces v_changeCosts v_planned v_isMarch v_clauseMany v_place v_end v_bad v_clauses v_codes v_open v_stacked v_isOver v_isBehind (u.1) (u.2.1) (u.2.2.1) (u.2.2.2.1) (u.2.2.2.2.1) (u.2.2.2.2.2.1) (u.2.2.2.2.2.2.1) v_packing v_packed (u.2.2.2.2.2.2.2.1) (u.2.2.2.2.2.2.2.2.1) (u.2.2.2.2.2.2.2.2.2.1) (u.2.2.2.2.2.2.2.2.2.2.1) f_m_tape f_m_knee f_m_weight f_m_isLame f_m_loadWeight f_m_owner f_m_food f_m_miles f_m_slope f_m_clauseLetter f_m_sumFrom f_m_codeFrom f_m_codeTo f_m_code f_m_codeArg f_m_newLetter f_m_newSum f_m_newFrom f_m_newTo f_m_newCode f_m_newArg f_m_stack (u.2.2.2.2.2.2.2.2.2.2.2.1) (u.2.2.2.2.2.2.2.2.2.2.2.2.1) f_m_least f_m_packPounds f_m_packOwner f_m_room f_m_givenTo f_m_canBe f_m_setPounds f_m_plainTime f_m_muleTime f_m_planTo f_m_march (u.2.2.2.2.2.2.2.2.2.2.2.2.2.1) (u.2.2.2.2.2.2.2.2.2.2.2.2.2.2.1) (u.2.2.2.2.2.2.2.2.2.2.2.2.2.2.2) f_m_isReached f_m_toEnd f_m_upTo f_m_upNext f_m_byChanges f_m_bandPaces) := by
  refine gMi_in (by decide) (Nat.le_of_ble_eq_true rfl) ?_
  intro p e s m args below meth c A ls Q hx hb hml hts hown hsz hP hK hD hN hAe hA hS hl hret
  subst hsz
  have hl : lv_has ls 6 [(0, .ref (hm 0)), (1, .int i)] := hl
  have hrt := fun (r : Int32) (v_atW' : Int32) (v_atL' : Int32) (v_atT' : Int32) (v_atH' : Int32) (v_atM' : Int32) (v_atI' : Int32) (v_atQ' : Int32) (v_goPace' : Int32) (v_goMinutes' : Int32) (v_spentAt' : Int32) (v_ranChanges' : Int32) (f_m_worth' : Nat → Int32) (f_m_isRefused' : Nat → Int32) (f_m_tired' : Nat → Int32) (f_m_ranMinutes' : Nat → Int32) (f_m_tiredAhead' : Nat → Int32) (hp : (0 ≤ v_atW'.toInt ∧ v_atW'.toInt ≤ 5) ∧ (0 ≤ v_goPace'.toInt ∧ v_goPace'.toInt ≤ 60) ∧ (-1 ≤ v_spentAt'.toInt ∧ v_spentAt'.toInt ≤ 9) ∧ (rg (0) 1 f_m_isRefused') ∧ (rg (0) 5 f_m_tired') ∧ (rg (0) 46655 f_m_tiredAhead')) {H : Heap} {locs : List Loc} {pc : Nat} {ls : Array Slot} => hret r (v_atW', v_atL', v_atT', v_atH', v_atM', v_atI', v_atQ', v_goPace', v_goMinutes', v_spentAt', v_ranChanges', f_m_worth', f_m_isRefused', f_m_tired', f_m_ranMinutes', f_m_tiredAhead') (H := H) (locs := locs) (pc := pc) (ls := ls) hp
  clear hret
  refine lv_aload_n hx hb dX10_gap_0 rfl (lv_at hl 0 rfl) ?_
  refine gt_MD_MD_isMarch hx hb hts hown hK hP lwd_225 dX10_gap_1 ?_
  refine lv_if_eq (tgt := 15) hx hb dX10_gap_4 (by decide) (fun c_1 => ?_) (fun c_1 => ?_)
  · have gc_1 : v_isMarch.toInt = 0 := i_eq (rfl : v_isMarch.toInt = v_isMarch.toInt) (by decide : (0 : Int32).toInt = 0) c_1
    refine lv_iconst (v := (-1)) hx hb dX10_gap_15 (by decide) ?_
    have k_2 : ((-1) : Int32).toInt = (-1) := by decide
    exact hrt (-1) v_atW v_atL v_atT v_atH v_atM v_atI v_atQ v_goPace v_goMinutes v_spentAt v_ranChanges f_m_worth f_m_isRefused f_m_tired f_m_ranMinutes f_m_tiredAhead ⟨(by omega), (by omega), (by omega), hr_m_isRefused, hr_m_tired, hr_m_tiredAhead⟩ hP hD hS rfl dX10_gap_16
  · have gc_1 : v_isMarch.toInt ≠ 0 := i_ne (rfl : v_isMarch.toInt = v_isMarch.toInt) (by decide : (0 : Int32).toInt = 0) c_1
    refine lv_aload_n hx hb dX10_gap_7 rfl (lv_at hl 0 rfl) ?_
    refine lv_iload_n hx hb dX10_gap_8 rfl (lv_at hl 1 rfl) ?_
    refine xi hD hS hA (xV (As := [.int i]) (rest := []) hx hb hml hown hts hK hP hD hS hA NT_ok hN hAe hl.1 ⟨Nat.le_refl _, Nat.le_refl _⟩ 0 rfl rfl rfl (c_X10_isPiece l D cy hm v_taped v_walkers v_loads v_pieces v_changeCosts v_planned v_isMarch v_clauseMany v_place v_end v_bad v_clauses v_codes v_open v_stacked v_isOver v_isBehind v_atW v_atL v_atT v_atH v_atM v_atI v_atQ v_packing v_packed v_goPace v_goMinutes v_spentAt v_ranChanges f_m_tape f_m_knee f_m_weight f_m_isLame f_m_loadWeight f_m_owner f_m_food f_m_miles f_m_slope f_m_clauseLetter f_m_sumFrom f_m_codeFrom f_m_codeTo f_m_code f_m_codeArg f_m_newLetter f_m_newSum f_m_newFrom f_m_newTo f_m_newCode f_m_newArg f_m_stack f_m_worth f_m_isRefused f_m_least f_m_packPounds f_m_packOwner f_m_room f_m_givenTo f_m_canBe f_m_setPounds f_m_plainTime f_m_muleTime f_m_planTo f_m_march f_m_tired f_m_ranMinutes f_m_tiredAhead f_m_isReached f_m_toEnd f_m_upTo f_m_upNext f_m_byChanges f_m_bandPaces s.heap.size i (by omega)) (gi_V lwd_549 lwd_550 lwd_551 lwd_5 lwd_552) ⟨rfl, hd_X10_isPiece⟩ ⟨Nat.le_of_ble_eq_true rfl, Nat.le_of_ble_eq_true rfl⟩ rfl (Nat.le_of_ble_eq_true rfl) dX10_gap_9) (fun r_4 u_3 H locs hw hP hD hS => ?_)
    try dsimp only at hw hP hD
    obtain ⟨p_5, p_6⟩ := hw
    refine lv_if_ne (tgt := 17) hx hb dX10_gap_12 (by decide) (fun c_7 => ?_) (fun c_7 => ?_)
    · have gc_7 : r_4.toInt ≠ 0 := i_ne (rfl : r_4.toInt = r_4.toInt) (by decide : (0 : Int32).toInt = 0) c_7
      refine lv_aload_n hx hb dX10_gap_17 rfl (lv_at hl 0 rfl) ?_
      refine xv hD hS hA (xV (As := []) (rest := []) hx hb hml hown hts hK hP hD hS hA NT_ok hN hAe hl.1 ⟨Nat.le_refl _, Nat.le_refl _⟩ 0 rfl rfl rfl (c_X10_runs l D cy hm v_taped v_walkers v_loads v_pieces v_changeCosts v_planned v_isMarch v_clauseMany v_place v_end v_bad v_clauses v_codes v_open v_stacked v_isOver v_isBehind v_atW v_atL v_atT v_atH v_atM v_atI v_atQ v_packing v_packed v_goPace v_goMinutes v_spentAt v_ranChanges f_m_tape f_m_knee f_m_weight f_m_isLame f_m_loadWeight f_m_owner f_m_food f_m_miles f_m_slope f_m_clauseLetter f_m_sumFrom f_m_codeFrom f_m_codeTo f_m_code f_m_codeArg f_m_newLetter f_m_newSum f_m_newFrom f_m_newTo f_m_newCode f_m_newArg f_m_stack f_m_worth f_m_isRefused f_m_least f_m_packPounds f_m_packOwner f_m_room f_m_givenTo f_m_canBe f_m_setPounds f_m_plainTime f_m_muleTime f_m_planTo f_m_march f_m_tired f_m_ranMinutes f_m_tiredAhead f_m_isReached f_m_toEnd f_m_upTo f_m_upNext f_m_byChanges f_m_bandPaces H.size (by omega) (by omega) (by omega) (by omega) (by omega) (by omega) (by omega) hr_m_weight hr_m_isLame hr_m_loadWeight hr_m_food hr_m_miles hr_m_isRefused hr_m_march hr_m_tired hr_m_tiredAhead hwf) (gi_V lwd_986 lwd_987 lwd_988 lwd_5 lwd_989) ⟨rfl, hd_X10_runs⟩ ⟨Nat.le_of_ble_eq_true rfl, Nat.le_of_ble_eq_true rfl⟩ rfl (Nat.le_of_ble_eq_true rfl) dX10_gap_18) (fun u_8 H locs hw hP hD hS => ?_)
      obtain ⟨zatW_10, zatL_11, zatT_12, zatH_13, zatM_14, zatI_15, zatQ_16, zgoPace_17, zgoMinutes_18, zspentAt_19, zranChanges_20, zworth_21, zisRefused_22, ztired_23, zranMinutes_24, ztiredAhead_25⟩ := u_8
      try dsimp only at hw hP hD
      obtain ⟨p_26, p_27, p_28, p_29, p_30, p_31⟩ := hw
      refine lv_iload_n hx hb dX10_gap_21 rfl (lv_at hl 1 rfl) ?_
      refine lv_aload_n hx hb dX10_gap_22 rfl (lv_at hl 0 rfl) ?_
      refine xi hD hS hA (xV (As := []) (rest := [.int i]) hx hb hml hown hts hK hP hD hS hA NT_ok hN hAe hl.1 ⟨Nat.le_refl _, Nat.le_refl _⟩ 0 rfl rfl rfl (c_X10_gone l D cy hm v_taped v_walkers v_loads v_pieces v_changeCosts v_planned v_isMarch v_clauseMany v_place v_end v_bad v_clauses v_codes v_open v_stacked v_isOver v_isBehind zatW_10 zatL_11 zatT_12 zatH_13 zatM_14 zatI_15 zatQ_16 v_packing v_packed zgoPace_17 zgoMinutes_18 zspentAt_19 zranChanges_20 f_m_tape f_m_knee f_m_weight f_m_isLame f_m_loadWeight f_m_owner f_m_food f_m_miles f_m_slope f_m_clauseLetter f_m_sumFrom f_m_codeFrom f_m_codeTo f_m_code f_m_codeArg f_m_newLetter f_m_newSum f_m_newFrom f_m_newTo f_m_newCode f_m_newArg f_m_stack zworth_21 zisRefused_22 f_m_least f_m_packPounds f_m_packOwner f_m_room f_m_givenTo f_m_canBe f_m_setPounds f_m_plainTime f_m_muleTime f_m_planTo f_m_march ztired_23 zranMinutes_24 ztiredAhead_25 f_m_isReached f_m_toEnd f_m_upTo f_m_upNext f_m_byChanges f_m_bandPaces H.size (by omega) (by omega)) (gi_V lwd_1020 lwd_1021 lwd_1022 lwd_5 lwd_1023) ⟨rfl, hd_X10_gone⟩ ⟨Nat.le_of_ble_eq_true rfl, Nat.le_of_ble_eq_true rfl⟩ rfl (Nat.le_of_ble_eq_true rfl) dX10_gap_23) (fun r_33 u_32 H locs hw hP hD hS => ?_)
      try dsimp only at hw hP hD
      have p_34 := hw
      clear hw
      refine lv_icmp_le (tgt := 32) hx hb dX10_gap_26 (by decide) (fun c_35 => ?_) (fun c_35 => ?_)
      · have gc_35 : i.toInt ≤ r_33.toInt := i_le (rfl : i.toInt = i.toInt) (rfl : r_33.toInt = r_33.toInt) c_35
        refine lv_aload_n hx hb dX10_gap_32 rfl (lv_at hl 0 rfl) ?_
        refine lv_aload_n hx hb dX10_gap_33 rfl (lv_at hl 0 rfl) ?_
        refine gt_MD_MD_tiredAhead hx hb hts hown hK hP lwd_193 dX10_gap_34 ?_
        refine lv_iload_n hx hb dX10_gap_37 rfl (lv_at hl 1 rfl) ?_
        refine al_m_tiredAhead hx hb hK hP p_31 (i_in (rfl : i.toInt = i.toInt) (by omega) (by omega)) dX10_gap_38 (fun n_36 en_36 bn_36 => ?_)
        refine xv hD hS hA (xV (As := [.int n_36]) (rest := []) hx hb hml hown hts hK hP hD hS hA NT_ok hN hAe hl.1 ⟨Nat.le_refl _, Nat.le_refl _⟩ 0 rfl rfl rfl (c_X10_takesTired l D cy hm v_taped v_walkers v_loads v_pieces v_changeCosts v_planned v_isMarch v_clauseMany v_place v_end v_bad v_clauses v_codes v_open v_stacked v_isOver v_isBehind zatW_10 zatL_11 zatT_12 zatH_13 zatM_14 zatI_15 zatQ_16 v_packing v_packed zgoPace_17 zgoMinutes_18 zspentAt_19 zranChanges_20 f_m_tape f_m_knee f_m_weight f_m_isLame f_m_loadWeight f_m_owner f_m_food f_m_miles f_m_slope f_m_clauseLetter f_m_sumFrom f_m_codeFrom f_m_codeTo f_m_code f_m_codeArg f_m_newLetter f_m_newSum f_m_newFrom f_m_newTo f_m_newCode f_m_newArg f_m_stack zworth_21 zisRefused_22 f_m_least f_m_packPounds f_m_packOwner f_m_room f_m_givenTo f_m_canBe f_m_setPounds f_m_plainTime f_m_muleTime f_m_planTo f_m_march ztired_23 zranMinutes_24 ztiredAhead_25 f_m_isReached f_m_toEnd f_m_upTo f_m_upNext f_m_byChanges f_m_bandPaces H.size n_36 p_30 (by omega)) (gi_V lwd_991 lwd_992 lwd_993 lwd_5 lwd_994) ⟨rfl, hd_X10_takesTired⟩ ⟨Nat.le_of_ble_eq_true rfl, Nat.le_of_ble_eq_true rfl⟩ rfl (Nat.le_of_ble_eq_true rfl) dX10_gap_39) (fun u_37 H locs hw hP hD hS => ?_)
        obtain ⟨ztired_39, rfl⟩ : ∃ z, z = u_37 := ⟨_, rfl⟩
        try dsimp only at hw hP hD
        obtain ⟨p_40, p_41⟩ := hw
        refine lv_aload_n hx hb dX10_gap_42 rfl (lv_at hl 0 rfl) ?_
        refine lv_aload_n hx hb dX10_gap_43 rfl (lv_at hl 0 rfl) ?_
        refine gt_MD_MD_march hx hb hts hown hK hP lwd_190 dX10_gap_44 ?_
        refine lv_iload_n hx hb dX10_gap_47 rfl (lv_at hl 1 rfl) ?_
        refine al_m_march hx hb hK hP hr_m_march (i_in (rfl : i.toInt = i.toInt) (by omega) (by omega)) dX10_gap_48 (fun n_42 en_42 bn_42 => ?_)
        refine lv_bipush (v := 6) hx hb dX10_gap_49 (by decide) ?_
        refine lv_idiv hx hb dX10_gap_51 (by decide) ?_
        refine lv_topi (fun n_43 en_43 => ?_)
        have tn_43 : n_43.toInt = n_42.toInt / 6 := i_div en_43 (rfl : n_42.toInt = n_42.toInt) (by decide : (6 : Int32).toInt = 6) (by omega) (by omega)
        refine lv_iload_n hx hb dX10_gap_52 rfl (lv_at hl 1 rfl) ?_
        refine xv hD hS hA (xV (As := [.int n_43, .int i]) (rest := []) hx hb hml hown hts hK hP hD hS hA NT_ok hN hAe hl.1 ⟨Nat.le_refl _, Nat.le_refl _⟩ 0 rfl rfl rfl (c_X10_rests l D cy hm v_taped v_walkers v_loads v_pieces v_changeCosts v_planned v_isMarch v_clauseMany v_place v_end v_bad v_clauses v_codes v_open v_stacked v_isOver v_isBehind zatW_10 zatL_11 zatT_12 zatH_13 zatM_14 zatI_15 zatQ_16 v_packing v_packed zgoPace_17 zgoMinutes_18 zspentAt_19 zranChanges_20 f_m_tape f_m_knee f_m_weight f_m_isLame f_m_loadWeight f_m_owner f_m_food f_m_miles f_m_slope f_m_clauseLetter f_m_sumFrom f_m_codeFrom f_m_codeTo f_m_code f_m_codeArg f_m_newLetter f_m_newSum f_m_newFrom f_m_newTo f_m_newCode f_m_newArg f_m_stack zworth_21 zisRefused_22 f_m_least f_m_packPounds f_m_packOwner f_m_room f_m_givenTo f_m_canBe f_m_setPounds f_m_plainTime f_m_muleTime f_m_planTo f_m_march ztired_39 zranMinutes_24 ztiredAhead_25 f_m_isReached f_m_toEnd f_m_upTo f_m_upNext f_m_byChanges f_m_bandPaces H.size n_43 i (by omega) (by omega) (by omega) hr_m_weight p_29 p_41 (by omega) (by omega) hwf) (gi_V lwd_1000 lwd_1001 lwd_1002 lwd_5 lwd_1003) ⟨rfl, hd_X10_rests⟩ ⟨Nat.le_of_ble_eq_true rfl, Nat.le_of_ble_eq_true rfl⟩ rfl (Nat.le_of_ble_eq_true rfl) dX10_gap_53) (fun u_44 H locs hw hP hD hS => ?_)
        obtain ⟨zatW_46, zatL_47, zatT_48, zatH_49, zatM_50, zatI_51, zatQ_52, zworth_53, zisRefused_54, ztired_55⟩ := u_44
        try dsimp only at hw hP hD
        obtain ⟨p_56, p_57, p_58, p_59⟩ := hw
        refine lv_bipush (v := 60) hx hb dX10_gap_56 (by decide) ?_
        refine lv_istore_n (lv' := [(2, .int 60), (0, .ref (hm 0)), (1, .int i)]) hx hb dX10_gap_58 rfl hl (by decide) rfl (fun ls hl => ?_)
        refine lv_iconst (v := 0) hx hb dX10_gap_59 (by decide) ?_
        refine lv_istore_n (lv' := [(3, .int 0), (2, .int 60), (0, .ref (hm 0)), (1, .int i)]) hx hb dX10_gap_60 rfl hl (by decide) rfl (fun ls hl => ?_)
        refine lv_iconst (v := 0) hx hb dX10_gap_61 (by decide) ?_
        refine lv_istore (lv' := [(4, .int 0), (3, .int 0), (2, .int 60), (0, .ref (hm 0)), (1, .int i)]) hx hb dX10_gap_62 hl (by decide) rfl (fun ls hl => ?_)
        have L64_84 : ∀ (n : Nat) (f_72 : Nat → Int32) (f_73 : Nat → Int32) (l_74 : Int32) (l_75 : Int32) (l_76 : Int32) (w_77 : Int32) (w_78 : Int32) (w_79 : Int32) (w_80 : Int32) (w_81 : Int32) (w_82 : Int32) (w_83 : Int32), (rg (0) 1 f_72) → (0 ≤ l_74.toInt ∧ l_74.toInt ≤ 60) → (0 ≤ l_75.toInt ∧ l_75.toInt ≤ 60) → (0 ≤ l_76.toInt ∧ l_76.toInt ≤ 6) → (0 ≤ w_83.toInt ∧ w_83.toInt ≤ 5) → (l_76.toInt ≤ 0 ∨ l_74.toInt ≤ l_75.toInt) → 7 - l_76.toInt < n → ∀ (H : Heap) (locs : List Loc) (ls : Array Slot), va_P D vwCl (wMD cy hm v_taped v_walkers v_loads v_pieces v_changeCosts v_planned v_isMarch v_clauseMany v_place v_end v_bad v_clauses v_codes v_open v_stacked v_isOver v_isBehind w_83 w_79 w_82 w_77 w_80 w_78 w_81 v_packing v_packed zgoPace_17 zgoMinutes_18 zspentAt_19 zranChanges_20 f_m_tape f_m_knee f_m_weight f_m_isLame f_m_loadWeight f_m_owner f_m_food f_m_miles f_m_slope f_m_clauseLetter f_m_sumFrom f_m_codeFrom f_m_codeTo f_m_code f_m_codeArg f_m_newLetter f_m_newSum f_m_newFrom f_m_newTo f_m_newCode f_m_newArg f_m_stack f_73 f_72 f_m_least f_m_packPounds f_m_packOwner f_m_room f_m_givenTo f_m_canBe f_m_setPounds f_m_plainTime f_m_muleTime f_m_planTo f_m_march ztired_55 zranMinutes_24 ztiredAhead_25 f_m_isReached f_m_toEnd f_m_upTo f_m_upNext f_m_byChanges f_m_bandPaces) H → va_D A (wMD cy hm v_taped v_walkers v_loads v_pieces v_changeCosts v_planned v_isMarch v_clauseMany v_place v_end v_bad v_clauses v_codes v_open v_stacked v_isOver v_isBehind w_83 w_79 w_82 w_77 w_80 w_78 w_81 v_packing v_packed zgoPace_17 zgoMinutes_18 zspentAt_19 zranChanges_20 f_m_tape f_m_knee f_m_weight f_m_isLame f_m_loadWeight f_m_owner f_m_food f_m_miles f_m_slope f_m_clauseLetter f_m_sumFrom f_m_codeFrom f_m_codeTo f_m_code f_m_codeArg f_m_newLetter f_m_newSum f_m_newFrom f_m_newTo f_m_newCode f_m_newArg f_m_stack f_73 f_72 f_m_least f_m_packPounds f_m_packOwner f_m_room f_m_givenTo f_m_canBe f_m_setPounds f_m_plainTime f_m_muleTime f_m_planTo f_m_march ztired_55 zranMinutes_24 ztiredAhead_25 f_m_isReached f_m_toEnd f_m_upTo f_m_upNext f_m_byChanges f_m_bandPaces) → va_S A s.heap H locs → lv_has ls 6 [(4, .int l_76), (3, .int l_75), (2, .int l_74), (0, .ref (hm 0)), (1, .int i)] → W p l e (gRm 9) s m args below meth c H locs 0 0 Q (F0 m 64 ls []) := by
          intro n
          induction n with
          | zero => intro f_72 f_73 l_74 l_75 l_76 w_77 w_78 w_79 w_80 w_81 w_82 w_83 hL64_84_0 hL64_84_1 hL64_84_2 hL64_84_3 hL64_84_4 hL64_84_5 hm; exact absurd hm (by omega)
          | succ n ih64_84 =>
            intro f_72 f_73 l_74 l_75 l_76 w_77 w_78 w_79 w_80 w_81 w_82 w_83 hL64_84_0 hL64_84_1 hL64_84_2 hL64_84_3 hL64_84_4 hL64_84_5 hmL64_84 H locs ls hP hD hS hl
            refine lv_iload hx hb dX10_gap_64 (lv_at hl 0 rfl) ?_
            refine lv_aload_n hx hb dX10_gap_66 rfl (lv_at hl 3 rfl) ?_
            refine gt_MD_MD_walkers hx hb hts hown hK hP lwd_221 dX10_gap_67 ?_
            refine lv_icmp_ge (tgt := 138) hx hb dX10_gap_70 (by decide) (fun c_85 => ?_) (fun c_85 => ?_)
            · have gc_85 : v_walkers.toInt ≤ l_76.toInt := i_le (rfl : v_walkers.toInt = v_walkers.toInt) (rfl : l_76.toInt = l_76.toInt) c_85
              refine lv_iload_n hx hb dX10_gap_138 rfl (lv_at hl 2 rfl) ?_
              refine lv_if_ne (tgt := 147) hx hb dX10_gap_139 (by decide) (fun c_86 => ?_) (fun c_86 => ?_)
              · have gc_86 : l_74.toInt ≠ 0 := i_ne (rfl : l_74.toInt = l_74.toInt) (by decide : (0 : Int32).toInt = 0) c_86
                refine lv_aload_n hx hb dX10_gap_147 rfl (lv_at hl 3 rfl) ?_
                refine lv_iload_n hx hb dX10_gap_148 rfl (lv_at hl 4 rfl) ?_
                refine lv_iload_n hx hb dX10_gap_149 rfl (lv_at hl 2 rfl) ?_
                refine xi hD hS hA (xV (As := [.int i, .int l_74]) (rest := []) hx hb hml hown hts hK hP hD hS hA NT_ok hN hAe hl.1 ⟨Nat.le_refl _, Nat.le_refl _⟩ 0 rfl rfl rfl (c_X10_minutesOf l D cy hm v_taped v_walkers v_loads v_pieces v_changeCosts v_planned v_isMarch v_clauseMany v_place v_end v_bad v_clauses v_codes v_open v_stacked v_isOver v_isBehind w_83 w_79 w_82 w_77 w_80 w_78 w_81 v_packing v_packed zgoPace_17 zgoMinutes_18 zspentAt_19 zranChanges_20 f_m_tape f_m_knee f_m_weight f_m_isLame f_m_loadWeight f_m_owner f_m_food f_m_miles f_m_slope f_m_clauseLetter f_m_sumFrom f_m_codeFrom f_m_codeTo f_m_code f_m_codeArg f_m_newLetter f_m_newSum f_m_newFrom f_m_newTo f_m_newCode f_m_newArg f_m_stack f_73 f_72 f_m_least f_m_packPounds f_m_packOwner f_m_room f_m_givenTo f_m_canBe f_m_setPounds f_m_plainTime f_m_muleTime f_m_planTo f_m_march ztired_55 zranMinutes_24 ztiredAhead_25 f_m_isReached f_m_toEnd f_m_upTo f_m_upNext f_m_byChanges f_m_bandPaces H.size i l_74 hr_m_miles (by omega) (by omega)) (gi_V lwd_668 lwd_669 lwd_670 lwd_5 lwd_671) ⟨rfl, hd_X10_minutesOf⟩ ⟨Nat.le_of_ble_eq_true rfl, Nat.le_of_ble_eq_true rfl⟩ rfl (Nat.le_of_ble_eq_true rfl) dX10_gap_150) (fun r_88 u_87 H locs hw hP hD hS => ?_)
                try dsimp only at hw hP hD
                have p_89 := hw
                clear hw
                refine lv_aload_n hx hb dX10_gap_153 rfl (lv_at hl 3 rfl) ?_
                refine lv_iload_n hx hb dX10_gap_154 rfl (lv_at hl 4 rfl) ?_
                refine lv_iload_n hx hb dX10_gap_155 rfl (lv_at hl 1 rfl) ?_
                refine xi hD hS hA (xV (As := [.int i, .int l_75]) (rest := [.int r_88]) hx hb hml hown hts hK hP hD hS hA NT_ok hN hAe hl.1 ⟨Nat.le_refl _, Nat.le_refl _⟩ 0 rfl rfl rfl (c_X10_minutesOf l D cy hm v_taped v_walkers v_loads v_pieces v_changeCosts v_planned v_isMarch v_clauseMany v_place v_end v_bad v_clauses v_codes v_open v_stacked v_isOver v_isBehind w_83 w_79 w_82 w_77 w_80 w_78 w_81 v_packing v_packed zgoPace_17 zgoMinutes_18 zspentAt_19 zranChanges_20 f_m_tape f_m_knee f_m_weight f_m_isLame f_m_loadWeight f_m_owner f_m_food f_m_miles f_m_slope f_m_clauseLetter f_m_sumFrom f_m_codeFrom f_m_codeTo f_m_code f_m_codeArg f_m_newLetter f_m_newSum f_m_newFrom f_m_newTo f_m_newCode f_m_newArg f_m_stack f_73 f_72 f_m_least f_m_packPounds f_m_packOwner f_m_room f_m_givenTo f_m_canBe f_m_setPounds f_m_plainTime f_m_muleTime f_m_planTo f_m_march ztired_55 zranMinutes_24 ztiredAhead_25 f_m_isReached f_m_toEnd f_m_upTo f_m_upNext f_m_byChanges f_m_bandPaces H.size i l_75 hr_m_miles (by omega) (by omega)) (gi_V lwd_668 lwd_669 lwd_670 lwd_5 lwd_671) ⟨rfl, hd_X10_minutesOf⟩ ⟨Nat.le_of_ble_eq_true rfl, Nat.le_of_ble_eq_true rfl⟩ rfl (Nat.le_of_ble_eq_true rfl) dX10_gap_156) (fun r_91 u_90 H locs hw hP hD hS => ?_)
                try dsimp only at hw hP hD
                have p_92 := hw
                clear hw
                refine lv_isub hx hb dX10_gap_159 ?_
                refine lv_topi (fun n_93 en_93 => ?_)
                exact hrt n_93 w_83 w_79 w_82 w_77 w_80 w_78 w_81 zgoPace_17 zgoMinutes_18 zspentAt_19 zranChanges_20 f_73 f_72 ztired_55 zranMinutes_24 ztiredAhead_25 ⟨(by omega), (by omega), (by omega), hL64_84_0, p_59, p_31⟩ hP hD hS rfl dX10_gap_160
              · have gc_86 : l_74.toInt = 0 := i_eq (rfl : l_74.toInt = l_74.toInt) (by decide : (0 : Int32).toInt = 0) c_86
                refine lv_bipush (v := (-2)) hx hb dX10_gap_142 (by decide) ?_
                refine lv_goto (tgt := 160) hx hb dX10_gap_144 (by decide) ?_
                have k_94 : ((-2) : Int32).toInt = (-2) := by decide
                exact hrt (-2) w_83 w_79 w_82 w_77 w_80 w_78 w_81 zgoPace_17 zgoMinutes_18 zspentAt_19 zranChanges_20 f_73 f_72 ztired_55 zranMinutes_24 ztiredAhead_25 ⟨(by omega), (by omega), (by omega), hL64_84_0, p_59, p_31⟩ hP hD hS rfl dX10_gap_160
            · have gc_85 : l_76.toInt < v_walkers.toInt := i_nle (rfl : v_walkers.toInt = v_walkers.toInt) (rfl : l_76.toInt = l_76.toInt) c_85
              refine lv_aload_n hx hb dX10_gap_73 rfl (lv_at hl 3 rfl) ?_
              refine lv_iload hx hb dX10_gap_74 (lv_at hl 0 rfl) ?_
              refine lv_aload_n hx hb dX10_gap_76 rfl (lv_at hl 3 rfl) ?_
              refine lv_iload hx hb dX10_gap_77 (lv_at hl 0 rfl) ?_
              refine lv_aload_n hx hb dX10_gap_79 rfl (lv_at hl 3 rfl) ?_
              refine gt_MD_MD_march hx hb hts hown hK hP lwd_190 dX10_gap_80 ?_
              refine lv_iload_n hx hb dX10_gap_83 rfl (lv_at hl 4 rfl) ?_
              refine al_m_march hx hb hK hP hr_m_march (i_in (rfl : i.toInt = i.toInt) (by omega) (by omega)) dX10_gap_84 (fun n_95 en_95 bn_95 => ?_)
              obtain rfl : n_42 = n_95 := en_42.trans en_95.symm
              refine lv_bipush (v := 6) hx hb dX10_gap_85 (by decide) ?_
              refine lv_irem hx hb dX10_gap_87 (by decide) ?_
              refine lv_topi (fun n_96 en_96 => ?_)
              have tn_96 : n_96.toInt = n_42.toInt % 6 := i_rem en_96 (rfl : n_42.toInt = n_42.toInt) (by decide : (6 : Int32).toInt = 6) (by omega) (by omega)
              refine lv_iload_n hx hb dX10_gap_88 rfl (lv_at hl 4 rfl) ?_
              refine xi hD hS hA (xV (As := [.int l_76, .int n_96, .int i]) (rest := [.int l_76, .ref (hm 0)]) hx hb hml hown hts hK hP hD hS hA NT_ok hN hAe hl.1 ⟨Nat.le_refl _, Nat.le_refl _⟩ 0 rfl rfl rfl (c_X10_carriedBy l D cy hm v_taped v_walkers v_loads v_pieces v_changeCosts v_planned v_isMarch v_clauseMany v_place v_end v_bad v_clauses v_codes v_open v_stacked v_isOver v_isBehind w_83 w_79 w_82 w_77 w_80 w_78 w_81 v_packing v_packed zgoPace_17 zgoMinutes_18 zspentAt_19 zranChanges_20 f_m_tape f_m_knee f_m_weight f_m_isLame f_m_loadWeight f_m_owner f_m_food f_m_miles f_m_slope f_m_clauseLetter f_m_sumFrom f_m_codeFrom f_m_codeTo f_m_code f_m_codeArg f_m_newLetter f_m_newSum f_m_newFrom f_m_newTo f_m_newCode f_m_newArg f_m_stack f_73 f_72 f_m_least f_m_packPounds f_m_packOwner f_m_room f_m_givenTo f_m_canBe f_m_setPounds f_m_plainTime f_m_muleTime f_m_planTo f_m_march ztired_55 zranMinutes_24 ztiredAhead_25 f_m_isReached f_m_toEnd f_m_upTo f_m_upNext f_m_byChanges f_m_bandPaces H.size l_76 n_96 i (by omega) hr_m_loadWeight hr_m_food (by omega) (by omega)) (gi_V lwd_1008 lwd_1009 lwd_1010 lwd_5 lwd_1011) ⟨rfl, hd_X10_carriedBy⟩ ⟨Nat.le_of_ble_eq_true rfl, Nat.le_of_ble_eq_true rfl⟩ rfl (Nat.le_of_ble_eq_true rfl) dX10_gap_89) (fun r_98 u_97 H locs hw hP hD hS => ?_)
              try dsimp only at hw hP hD
              have p_99 := hw
              clear hw
              refine lv_aload_n hx hb dX10_gap_92 rfl (lv_at hl 3 rfl) ?_
              refine gt_MD_MD_tired hx hb hts hown hK hP lwd_191 dX10_gap_93 ?_
              refine lv_iload hx hb dX10_gap_96 (lv_at hl 0 rfl) ?_
              refine al_m_tired hx hb hK hP p_59 (i_in (rfl : l_76.toInt = l_76.toInt) (by omega) (by omega)) dX10_gap_98 (fun n_100 en_100 bn_100 => ?_)
              refine lv_iload_n hx hb dX10_gap_99 rfl (lv_at hl 4 rfl) ?_
              refine lv_iconst (v := 0) hx hb dX10_gap_100 (by decide) ?_
              have k_101 : (0 : Int32).toInt = 0 := by decide
              refine xi hD hS hA (xV (As := [.int l_76, .int r_98, .int n_100, .int i, .int 0]) (rest := []) hx hb hml hown hts hK hP hD hS hA NT_ok hN hAe hl.1 ⟨Nat.le_refl _, Nat.le_refl _⟩ 0 rfl rfl rfl (c_X10_paceOf l D cy hm v_taped v_walkers v_loads v_pieces v_changeCosts v_planned v_isMarch v_clauseMany v_place v_end v_bad v_clauses v_codes v_open v_stacked v_isOver v_isBehind w_83 w_79 w_82 w_77 w_80 w_78 w_81 v_packing v_packed zgoPace_17 zgoMinutes_18 zspentAt_19 zranChanges_20 f_m_tape f_m_knee f_m_weight f_m_isLame f_m_loadWeight f_m_owner f_m_food f_m_miles f_m_slope f_m_clauseLetter f_m_sumFrom f_m_codeFrom f_m_codeTo f_m_code f_m_codeArg f_m_newLetter f_m_newSum f_m_newFrom f_m_newTo f_m_newCode f_m_newArg f_m_stack f_73 f_72 f_m_least f_m_packPounds f_m_packOwner f_m_room f_m_givenTo f_m_canBe f_m_setPounds f_m_plainTime f_m_muleTime f_m_planTo f_m_march ztired_55 zranMinutes_24 ztiredAhead_25 f_m_isReached f_m_toEnd f_m_upTo f_m_upNext f_m_byChanges f_m_bandPaces H.size l_76 r_98 n_100 i 0 (by omega) (by omega) (by omega) hr_m_weight hr_m_isLame hr_m_miles hL64_84_0 (by omega) (by omega) (by omega) hwf) (gi_V lwd_553 lwd_554 lwd_555 lwd_5 lwd_556) ⟨rfl, hd_X10_paceOf⟩ ⟨Nat.le_of_ble_eq_true rfl, Nat.le_of_ble_eq_true rfl⟩ rfl (Nat.le_of_ble_eq_true rfl) dX10_gap_101) (fun r_103 u_102 H locs hw hP hD hS => ?_)
              obtain ⟨zatW_104, zatL_105, zatT_106, zatH_107, zatM_108, zatI_109, zatQ_110, zworth_111, zisRefused_112⟩ := u_102
              try dsimp only at hw hP hD
              obtain ⟨p_113, p_114, p_115, p_116⟩ := hw
              refine lv_istore (lv' := [(5, .int r_103), (4, .int l_76), (3, .int l_75), (2, .int l_74), (0, .ref (hm 0)), (1, .int i)]) hx hb dX10_gap_104 hl (by decide) rfl (fun ls hl => ?_)
              refine lv_iload hx hb dX10_gap_106 (lv_at hl 0 rfl) ?_
              refine lv_iload_n hx hb dX10_gap_108 rfl (lv_at hl 3 rfl) ?_
              refine lv_icmp_ge (tgt := 117) hx hb dX10_gap_109 (by decide) (fun c_117 => ?_) (fun c_117 => ?_)
              · have gc_117 : l_74.toInt ≤ r_103.toInt := i_le (rfl : l_74.toInt = l_74.toInt) (rfl : r_103.toInt = r_103.toInt) c_117
                refine lv_iload_n hx hb dX10_gap_117 rfl (lv_at hl 3 rfl) ?_
                refine lv_istore_n (lv' := [(2, .int l_74), (5, .int r_103), (4, .int l_76), (3, .int l_75), (0, .ref (hm 0)), (1, .int i)]) hx hb dX10_gap_118 rfl hl (by decide) rfl (fun ls hl => ?_)
                refine lv_iload hx hb dX10_gap_119 (lv_at hl 1 rfl) ?_
                refine lv_iload_n hx hb dX10_gap_121 rfl (lv_at hl 3 rfl) ?_
                refine lv_icmp_le (tgt := 130) hx hb dX10_gap_122 (by decide) (fun c_118 => ?_) (fun c_118 => ?_)
                · have gc_118 : r_103.toInt ≤ l_75.toInt := i_le (rfl : r_103.toInt = r_103.toInt) (rfl : l_75.toInt = l_75.toInt) c_118
                  refine lv_iload_n hx hb dX10_gap_130 rfl (lv_at hl 3 rfl) ?_
                  refine lv_istore_n (lv' := [(3, .int l_75), (2, .int l_74), (5, .int r_103), (4, .int l_76), (0, .ref (hm 0)), (1, .int i)]) hx hb dX10_gap_131 rfl hl (by decide) rfl (fun ls hl => ?_)
                  obtain ⟨n_119, en_119⟩ : ∃ y : Int32, y = l_76 + 1 := ⟨_, rfl⟩
                  have tn_119 : n_119.toInt = l_76.toInt + 1 := i_add en_119 (rfl : l_76.toInt = l_76.toInt) (by decide : (1 : Int32).toInt = 1) (by omega) (by omega)
                  refine lv_iinc (v := n_119) (lv' := [(4, .int n_119), (3, .int l_75), (2, .int l_74), (5, .int r_103), (0, .ref (hm 0)), (1, .int i)]) hx hb dX10_gap_132 hl (k := 3) rfl (by rw [en_119]; rfl) (by decide) rfl (fun ls hl => ?_)
                  refine lv_goto (tgt := 64) hx hb dX10_gap_135 (by decide) ?_
                  exact ih64_84 zisRefused_112 zworth_111 l_74 l_75 n_119 zatH_107 zatI_109 zatL_105 zatM_108 zatQ_110 zatT_106 zatW_104 p_116 (by omega) (by omega) (by omega) (by omega) (by omega) (by omega) _ _ _ hP hD hS (lv_sub hl [0, 1, 2, 4, 5] rfl)
                · have gc_118 : l_75.toInt < r_103.toInt := i_nle (rfl : r_103.toInt = r_103.toInt) (rfl : l_75.toInt = l_75.toInt) c_118
                  refine lv_iload hx hb dX10_gap_125 (lv_at hl 1 rfl) ?_
                  refine lv_goto (tgt := 131) hx hb dX10_gap_127 (by decide) ?_
                  refine lv_istore_n (lv' := [(3, .int r_103), (2, .int l_74), (5, .int r_103), (4, .int l_76), (0, .ref (hm 0)), (1, .int i)]) hx hb dX10_gap_131 rfl hl (by decide) rfl (fun ls hl => ?_)
                  obtain ⟨n_120, en_120⟩ : ∃ y : Int32, y = l_76 + 1 := ⟨_, rfl⟩
                  have tn_120 : n_120.toInt = l_76.toInt + 1 := i_add en_120 (rfl : l_76.toInt = l_76.toInt) (by decide : (1 : Int32).toInt = 1) (by omega) (by omega)
                  refine lv_iinc (v := n_120) (lv' := [(4, .int n_120), (3, .int r_103), (2, .int l_74), (5, .int r_103), (0, .ref (hm 0)), (1, .int i)]) hx hb dX10_gap_132 hl (k := 3) rfl (by rw [en_120]; rfl) (by decide) rfl (fun ls hl => ?_)
                  refine lv_goto (tgt := 64) hx hb dX10_gap_135 (by decide) ?_
                  exact ih64_84 zisRefused_112 zworth_111 l_74 r_103 n_120 zatH_107 zatI_109 zatL_105 zatM_108 zatQ_110 zatT_106 zatW_104 p_116 (by omega) (by omega) (by omega) (by omega) (by omega) (by omega) _ _ _ hP hD hS (lv_sub hl [0, 1, 2, 4, 5] rfl)
              · have gc_117 : r_103.toInt < l_74.toInt := i_nle (rfl : l_74.toInt = l_74.toInt) (rfl : r_103.toInt = r_103.toInt) c_117
                refine lv_iload hx hb dX10_gap_112 (lv_at hl 0 rfl) ?_
                refine lv_goto (tgt := 118) hx hb dX10_gap_114 (by decide) ?_
                refine lv_istore_n (lv' := [(2, .int r_103), (5, .int r_103), (4, .int l_76), (3, .int l_75), (0, .ref (hm 0)), (1, .int i)]) hx hb dX10_gap_118 rfl hl (by decide) rfl (fun ls hl => ?_)
                refine lv_iload hx hb dX10_gap_119 (lv_at hl 1 rfl) ?_
                refine lv_iload_n hx hb dX10_gap_121 rfl (lv_at hl 3 rfl) ?_
                refine lv_icmp_le (tgt := 130) hx hb dX10_gap_122 (by decide) (fun c_121 => ?_) (fun c_121 => ?_)
                · have gc_121 : r_103.toInt ≤ l_75.toInt := i_le (rfl : r_103.toInt = r_103.toInt) (rfl : l_75.toInt = l_75.toInt) c_121
                  refine lv_iload_n hx hb dX10_gap_130 rfl (lv_at hl 3 rfl) ?_
                  refine lv_istore_n (lv' := [(3, .int l_75), (2, .int r_103), (5, .int r_103), (4, .int l_76), (0, .ref (hm 0)), (1, .int i)]) hx hb dX10_gap_131 rfl hl (by decide) rfl (fun ls hl => ?_)
                  obtain ⟨n_122, en_122⟩ : ∃ y : Int32, y = l_76 + 1 := ⟨_, rfl⟩
                  have tn_122 : n_122.toInt = l_76.toInt + 1 := i_add en_122 (rfl : l_76.toInt = l_76.toInt) (by decide : (1 : Int32).toInt = 1) (by omega) (by omega)
                  refine lv_iinc (v := n_122) (lv' := [(4, .int n_122), (3, .int l_75), (2, .int r_103), (5, .int r_103), (0, .ref (hm 0)), (1, .int i)]) hx hb dX10_gap_132 hl (k := 3) rfl (by rw [en_122]; rfl) (by decide) rfl (fun ls hl => ?_)
                  refine lv_goto (tgt := 64) hx hb dX10_gap_135 (by decide) ?_
                  exact ih64_84 zisRefused_112 zworth_111 r_103 l_75 n_122 zatH_107 zatI_109 zatL_105 zatM_108 zatQ_110 zatT_106 zatW_104 p_116 (by omega) (by omega) (by omega) (by omega) (by omega) (by omega) _ _ _ hP hD hS (lv_sub hl [0, 1, 2, 4, 5] rfl)
                · have gc_121 : l_75.toInt < r_103.toInt := i_nle (rfl : r_103.toInt = r_103.toInt) (rfl : l_75.toInt = l_75.toInt) c_121
                  refine lv_iload hx hb dX10_gap_125 (lv_at hl 1 rfl) ?_
                  refine lv_goto (tgt := 131) hx hb dX10_gap_127 (by decide) ?_
                  refine lv_istore_n (lv' := [(3, .int r_103), (2, .int r_103), (5, .int r_103), (4, .int l_76), (0, .ref (hm 0)), (1, .int i)]) hx hb dX10_gap_131 rfl hl (by decide) rfl (fun ls hl => ?_)
                  obtain ⟨n_123, en_123⟩ : ∃ y : Int32, y = l_76 + 1 := ⟨_, rfl⟩
                  have tn_123 : n_123.toInt = l_76.toInt + 1 := i_add en_123 (rfl : l_76.toInt = l_76.toInt) (by decide : (1 : Int32).toInt = 1) (by omega) (by omega)
                  refine lv_iinc (v := n_123) (lv' := [(4, .int n_123), (3, .int r_103), (2, .int r_103), (5, .int r_103), (0, .ref (hm 0)), (1, .int i)]) hx hb dX10_gap_132 hl (k := 3) rfl (by rw [en_123]; rfl) (by decide) rfl (fun ls hl => ?_)
                  refine lv_goto (tgt := 64) hx hb dX10_gap_135 (by decide) ?_
                  exact ih64_84 zisRefused_112 zworth_111 r_103 r_103 n_123 zatH_107 zatI_109 zatL_105 zatM_108 zatQ_110 zatT_106 zatW_104 p_116 (by omega) (by omega) (by omega) (by omega) (by omega) (by omega) _ _ _ hP hD hS (lv_sub hl [0, 1, 2, 4, 5] rfl)
        have k_124 : (60 : Int32).toInt = 60 := by decide
        have k_125 : (0 : Int32).toInt = 0 := by decide
        have k_126 : (0 : Int32).toInt = 0 := by decide
        exact L64_84 8589934592 zisRefused_54 zworth_53 60 0 0 zatH_49 zatI_51 zatL_47 zatM_50 zatQ_52 zatT_48 zatW_46 p_58 (by omega) (by omega) (by omega) (by omega) (by omega) (by omega) _ _ _ hP hD hS (lv_sub hl [0, 1, 2, 3, 4] rfl)
      · have gc_35 : r_33.toInt < i.toInt := i_nle (rfl : i.toInt = i.toInt) (rfl : r_33.toInt = r_33.toInt) c_35
        refine lv_bipush (v := (-2)) hx hb dX10_gap_29 (by decide) ?_
        have k_127 : ((-2) : Int32).toInt = (-2) := by decide
        exact hrt (-2) zatW_10 zatL_11 zatT_12 zatH_13 zatM_14 zatI_15 zatQ_16 zgoPace_17 zgoMinutes_18 zspentAt_19 zranChanges_20 zworth_21 zisRefused_22 ztired_23 zranMinutes_24 ztiredAhead_25 ⟨(by omega), (by omega), (by omega), p_29, p_30, p_31⟩ hP hD hS rfl dX10_gap_31
    · have gc_7 : r_4.toInt = 0 := i_eq (rfl : r_4.toInt = r_4.toInt) (by decide : (0 : Int32).toInt = 0) c_7
      refine lv_iconst (v := (-1)) hx hb dX10_gap_15 (by decide) ?_
      have k_128 : ((-1) : Int32).toInt = (-1) := by decide
      exact hrt (-1) v_atW v_atL v_atT v_atH v_atM v_atI v_atQ v_goPace v_goMinutes v_spentAt v_ranChanges f_m_worth f_m_isRefused f_m_tired f_m_ranMinutes f_m_tiredAhead ⟨(by omega), (by omega), (by omega), hr_m_isRefused, hr_m_tired, hr_m_tiredAhead⟩ hP hD hS rfl dX10_gap_16
set_option maxHeartbeats 16000000 in
set_option maxRecDepth 100000 in
theorem c_X10_goesFrom (l : Launch) (D : va_G) (cy : Nat → ClassId) (hm : Nat → Nat) (v_taped v_walkers v_loads v_pieces v_changeCosts v_planned v_isMarch v_clauseMany v_place v_end v_bad v_clauses v_codes v_open v_stacked v_isOver v_isBehind v_atW v_atL v_atT v_atH v_atM v_atI v_atQ v_packing v_packed v_goPace v_goMinutes v_spentAt v_ranChanges : Int32) (f_m_tape f_m_knee f_m_weight f_m_isLame f_m_loadWeight f_m_owner f_m_food f_m_miles f_m_slope f_m_clauseLetter f_m_sumFrom f_m_codeFrom f_m_codeTo f_m_code f_m_codeArg f_m_newLetter f_m_newSum f_m_newFrom f_m_newTo f_m_newCode f_m_newArg f_m_stack f_m_worth f_m_isRefused f_m_least f_m_packPounds f_m_packOwner f_m_room f_m_givenTo f_m_canBe f_m_setPounds f_m_plainTime f_m_muleTime f_m_planTo f_m_march f_m_tired f_m_ranMinutes f_m_tiredAhead f_m_isReached f_m_toEnd f_m_upTo f_m_upNext f_m_byChanges f_m_bandPaces : Nat → Int32) (sz : Nat) (i : Int32) (k : Int32) (t : Int32) (n1 : Int32) (hb_v_walkers : 0 ≤ v_walkers.toInt ∧ v_walkers.toInt ≤ 6) (hb_v_loads : 0 ≤ v_loads.toInt ∧ v_loads.toInt ≤ 9) (hb_v_clauseMany : 0 ≤ v_clauseMany.toInt ∧ v_clauseMany.toInt ≤ 14) (hb_v_atW : 0 ≤ v_atW.toInt ∧ v_atW.toInt ≤ 5) (hb_v_goPace : 0 ≤ v_goPace.toInt ∧ v_goPace.toInt ≤ 60) (hr_m_weight : rg (0) 250 f_m_weight) (hr_m_isLame : rg (0) 1 f_m_isLame) (hr_m_loadWeight : rg (0) 120 f_m_loadWeight) (hr_m_food : rg (0) 20 f_m_food) (hr_m_miles : rg (0) 20 f_m_miles) (hr_m_isRefused : rg (0) 1 f_m_isRefused) (hr_m_tired : rg (0) 5 f_m_tired) (ha_i : 0 ≤ i.toInt ∧ i.toInt ≤ 9) (ha_k : 0 ≤ k.toInt ∧ k.toInt ≤ 5) (ha_t : 0 ≤ t.toInt ∧ t.toInt ≤ 1295) (ha_n1 : 0 ≤ n1.toInt ∧ n1.toInt ≤ 9) (hwf : wfC v_clauseMany f_m_sumFrom f_m_codeFrom f_m_codeTo f_m_code) (hw4 : v_walkers.toInt ≤ 4) : gMv l yX10_goesFrom cX10_goesFrom 9 8 [.ref (hm 0), .int i, .int k, .int t, .int n1] D cy (wMD cy hm v_taped v_walkers v_loads v_pieces v_changeCosts v_planned v_isMarch v_clauseMany v_place v_end v_bad v_clauses v_codes v_open v_stacked v_isOver v_isBehind v_atW v_atL v_atT v_atH v_atM v_atI v_atQ v_packing v_packed v_goPace v_goMinutes v_spentAt v_ranChanges f_m_tape f_m_knee f_m_weight f_m_isLame f_m_loadWeight f_m_owner f_m_food f_m_miles f_m_slope f_m_clauseLetter f_m_sumFrom f_m_codeFrom f_m_codeTo f_m_code f_m_codeArg f_m_newLetter f_m_newSum f_m_newFrom f_m_newTo f_m_newCode f_m_newArg f_m_stack f_m_worth f_m_isRefused f_m_least f_m_packPounds f_m_packOwner f_m_room f_m_givenTo f_m_canBe f_m_setPounds f_m_plainTime f_m_muleTime f_m_planTo f_m_march f_m_tired f_m_ranMinutes f_m_tiredAhead f_m_isReached f_m_toEnd f_m_upTo f_m_upNext f_m_byChanges f_m_bandPaces) NT sz (fun (u : Int32 × Int32 × Int32 × Int32 × Int32 × Int32 × Int32 × Int32 × Int32 × (Nat → Int32) × (Nat → Int32) × (Nat → Int32) × (Nat → Int32)) => (0 ≤ (u.1).toInt ∧ (u.1).toInt ≤ 5) ∧ (0 ≤ (u.2.2.2.2.2.2.2.1).toInt ∧ (u.2.2.2.2.2.2.2.1).toInt ≤ 60) ∧ (rg (0) 1 (u.2.2.2.2.2.2.2.2.2.2.1)) ∧ (rg (0) 5 (u.2.2.2.2.2.2.2.2.2.2.2.1))) (fun u => wMD cy hm v_taped v_walkers v_loads v_pieces v_changeCosts v_planned v_isMarch v_clauseMany v_place v_end v_bad v_clauses v_codes v_open v_stacked v_isOver v_isBehind (u.1) (u.2.1) (u.2.2.1) (u.2.2.2.1) (u.2.2.2.2.1) (u.2.2.2.2.2.1) (u.2.2.2.2.2.2.1) v_packing v_packed (u.2.2.2.2.2.2.2.1) (u.2.2.2.2.2.2.2.2.1) v_spentAt v_ranChanges f_m_tape f_m_knee f_m_weight f_m_isLame f_m_loadWeight f_m_owner f_m_food f_m_miles f_m_slope f_m_clauseLetter f_m_sumFrom f_m_codeFrom f_m_codeTo f_m_code f_m_codeArg f_m_newLetter f_m_newSum f_m_newFrom f_m_newTo f_m_newCode f_m_newArg f_m_stack (u.2.2.2.2.2.2.2.2.2.1) (u.2.2.2.2.2.2.2.2.2.2.1) f_m_least f_m_packPounds f_m_packOwner f_m_room f_m_givenTo f_m_canBe f_m_setPounds f_m_plainTime f_m_muleTime f_m_planTo f_m_march (u.2.2.2.2.2.2.2.2.2.2.2.1) f_m_ranMinutes f_m_tiredAhead f_m_isReached f_m_toEnd f_m_upTo (u.2.2.2.2.2.2.2.2.2.2.2.2) f_m_byChanges f_m_bandPaces) := by
  refine gMv_in (by decide) (Nat.le_of_ble_eq_true rfl) ?_
  intro p e s m args below meth c A ls Q hx hb hml hts hown hsz hP hK hD hN hAe hA hS hl hret
  subst hsz
  have hl : lv_has ls 9 [(0, .ref (hm 0)), (1, .int i), (2, .int k), (3, .int t), (4, .int n1)] := hl
  have hrt := fun (v_atW' : Int32) (v_atL' : Int32) (v_atT' : Int32) (v_atH' : Int32) (v_atM' : Int32) (v_atI' : Int32) (v_atQ' : Int32) (v_goPace' : Int32) (v_goMinutes' : Int32) (f_m_worth' : Nat → Int32) (f_m_isRefused' : Nat → Int32) (f_m_tired' : Nat → Int32) (f_m_upNext' : Nat → Int32) (hp : (0 ≤ v_atW'.toInt ∧ v_atW'.toInt ≤ 5) ∧ (0 ≤ v_goPace'.toInt ∧ v_goPace'.toInt ≤ 60) ∧ (rg (0) 1 f_m_isRefused') ∧ (rg (0) 5 f_m_tired')) {H : Heap} {locs : List Loc} {pc : Nat} {ls : Array Slot} => hret (v_atW', v_atL', v_atT', v_atH', v_atM', v_atI', v_atQ', v_goPace', v_goMinutes', f_m_worth', f_m_isRefused', f_m_tired', f_m_upNext') (H := H) (locs := locs) (pc := pc) (ls := ls) hp
  clear hret
  refine lv_iload_n hx hb dX10_goesFrom_0 rfl (lv_at hl 1 rfl) ?_
  refine lv_if_ne (tgt := 8) hx hb dX10_goesFrom_1 (by decide) (fun c_1 => ?_) (fun c_1 => ?_)
  · have gc_1 : i.toInt ≠ 0 := i_ne (rfl : i.toInt = i.toInt) (by decide : (0 : Int32).toInt = 0) c_1
    refine lv_aload_n hx hb dX10_goesFrom_8 rfl (lv_at hl 0 rfl) ?_
    refine gt_MD_MD_upTo hx hb hts hown hK hP lwd_198 dX10_goesFrom_9 ?_
    refine lv_iload_n hx hb dX10_goesFrom_12 rfl (lv_at hl 2 rfl) ?_
    refine lv_iload_n hx hb dX10_goesFrom_13 rfl (lv_at hl 3 rfl) ?_
    refine lv_iload hx hb dX10_goesFrom_14 (lv_at hl 4 rfl) ?_
    refine xi hD hS hA (xS (As := [.int k, .int t, .int n1]) (rest := [.ref (hm 41)]) hx hb hml hown hts hK hP hD hS hA NT_ok hN hAe hl.1 ⟨Nat.le_refl _, Nat.le_refl _⟩ (c_X10_cellOf l D cy hm v_taped v_walkers v_loads v_pieces v_changeCosts v_planned v_isMarch v_clauseMany v_place v_end v_bad v_clauses v_codes v_open v_stacked v_isOver v_isBehind v_atW v_atL v_atT v_atH v_atM v_atI v_atQ v_packing v_packed v_goPace v_goMinutes v_spentAt v_ranChanges f_m_tape f_m_knee f_m_weight f_m_isLame f_m_loadWeight f_m_owner f_m_food f_m_miles f_m_slope f_m_clauseLetter f_m_sumFrom f_m_codeFrom f_m_codeTo f_m_code f_m_codeArg f_m_newLetter f_m_newSum f_m_newFrom f_m_newTo f_m_newCode f_m_newArg f_m_stack f_m_worth f_m_isRefused f_m_least f_m_packPounds f_m_packOwner f_m_room f_m_givenTo f_m_canBe f_m_setPounds f_m_plainTime f_m_muleTime f_m_planTo f_m_march f_m_tired f_m_ranMinutes f_m_tiredAhead f_m_isReached f_m_toEnd f_m_upTo f_m_upNext f_m_byChanges f_m_bandPaces s.heap.size k t n1 (by omega) (by omega) (by omega)) (gi_S lwd_1147 lwd_1148 lwd_5 lwd_1149) hd_X10_cellOf ⟨Nat.le_of_ble_eq_true rfl, Nat.le_of_ble_eq_true rfl⟩ rfl (Nat.le_of_ble_eq_true rfl) dX10_goesFrom_16) (fun r_3 u_2 H locs hw hP hD hS => ?_)
    try dsimp only at hw hP hD
    have p_4 := hw
    clear hw
    refine al_m_upTo hx hb hK hP (i_in (rfl : r_3.toInt = r_3.toInt) (by omega) (by omega)) dX10_goesFrom_19 (fun n_5 en_5 => ?_)
    refine lv_istore (lv' := [(5, .int n_5), (0, .ref (hm 0)), (1, .int i), (2, .int k), (3, .int t), (4, .int n1)]) hx hb dX10_goesFrom_20 hl (by decide) rfl (fun ls hl => ?_)
    refine lv_iconst (v := 0) hx hb dX10_goesFrom_22 (by decide) ?_
    refine lv_istore (lv' := [(6, .int 0), (5, .int n_5), (0, .ref (hm 0)), (1, .int i), (2, .int k), (3, .int t), (4, .int n1)]) hx hb dX10_goesFrom_23 hl (by decide) rfl (fun ls hl => ?_)
    have L25_34 : ∀ (n : Nat) (f_20 : Nat → Int32) (f_21 : Nat → Int32) (f_22 : Nat → Int32) (f_23 : Nat → Int32) (l_24 : Int32) (w_25 : Int32) (w_26 : Int32) (w_27 : Int32) (w_28 : Int32) (w_29 : Int32) (w_30 : Int32) (w_31 : Int32) (w_32 : Int32) (w_33 : Int32), (rg (0) 1 f_20) → (rg (0) 5 f_21) → (0 ≤ l_24.toInt ∧ l_24.toInt ≤ 18) → (0 ≤ w_31.toInt ∧ w_31.toInt ≤ 5) → (0 ≤ w_33.toInt ∧ w_33.toInt ≤ 60) → 19 - l_24.toInt < n → ∀ (H : Heap) (locs : List Loc) (ls : Array Slot), va_P D vwCl (wMD cy hm v_taped v_walkers v_loads v_pieces v_changeCosts v_planned v_isMarch v_clauseMany v_place v_end v_bad v_clauses v_codes v_open v_stacked v_isOver v_isBehind w_31 w_27 w_30 w_25 w_28 w_26 w_29 v_packing v_packed w_33 w_32 v_spentAt v_ranChanges f_m_tape f_m_knee f_m_weight f_m_isLame f_m_loadWeight f_m_owner f_m_food f_m_miles f_m_slope f_m_clauseLetter f_m_sumFrom f_m_codeFrom f_m_codeTo f_m_code f_m_codeArg f_m_newLetter f_m_newSum f_m_newFrom f_m_newTo f_m_newCode f_m_newArg f_m_stack f_23 f_20 f_m_least f_m_packPounds f_m_packOwner f_m_room f_m_givenTo f_m_canBe f_m_setPounds f_m_plainTime f_m_muleTime f_m_planTo f_m_march f_21 f_m_ranMinutes f_m_tiredAhead f_m_isReached f_m_toEnd f_m_upTo f_22 f_m_byChanges f_m_bandPaces) H → va_D A (wMD cy hm v_taped v_walkers v_loads v_pieces v_changeCosts v_planned v_isMarch v_clauseMany v_place v_end v_bad v_clauses v_codes v_open v_stacked v_isOver v_isBehind w_31 w_27 w_30 w_25 w_28 w_26 w_29 v_packing v_packed w_33 w_32 v_spentAt v_ranChanges f_m_tape f_m_knee f_m_weight f_m_isLame f_m_loadWeight f_m_owner f_m_food f_m_miles f_m_slope f_m_clauseLetter f_m_sumFrom f_m_codeFrom f_m_codeTo f_m_code f_m_codeArg f_m_newLetter f_m_newSum f_m_newFrom f_m_newTo f_m_newCode f_m_newArg f_m_stack f_23 f_20 f_m_least f_m_packPounds f_m_packOwner f_m_room f_m_givenTo f_m_canBe f_m_setPounds f_m_plainTime f_m_muleTime f_m_planTo f_m_march f_21 f_m_ranMinutes f_m_tiredAhead f_m_isReached f_m_toEnd f_m_upTo f_22 f_m_byChanges f_m_bandPaces) → va_S A s.heap H locs → lv_has ls 9 [(6, .int l_24), (5, .int n_5), (0, .ref (hm 0)), (1, .int i), (2, .int k), (3, .int t), (4, .int n1)] → W p l e (gRm 8) s m args below meth c H locs 0 0 Q (F0 m 25 ls []) := by
      intro n
      induction n with
      | zero => intro f_20 f_21 f_22 f_23 l_24 w_25 w_26 w_27 w_28 w_29 w_30 w_31 w_32 w_33 hL25_34_0 hL25_34_1 hL25_34_2 hL25_34_3 hL25_34_4 hm; exact absurd hm (by omega)
      | succ n ih25_34 =>
        intro f_20 f_21 f_22 f_23 l_24 w_25 w_26 w_27 w_28 w_29 w_30 w_31 w_32 w_33 hL25_34_0 hL25_34_1 hL25_34_2 hL25_34_3 hL25_34_4 hmL25_34 H locs ls hP hD hS hl
        refine lv_iload hx hb dX10_goesFrom_25 (lv_at hl 0 rfl) ?_
        refine lv_bipush (v := 18) hx hb dX10_goesFrom_27 (by decide) ?_
        refine lv_icmp_ge (tgt := 153) hx hb dX10_goesFrom_29 (by decide) (fun c_35 => ?_) (fun c_35 => ?_)
        · have gc_35 : 18 ≤ l_24.toInt := i_le (by decide : (18 : Int32).toInt = 18) (rfl : l_24.toInt = l_24.toInt) c_35
          exact hrt w_31 w_27 w_30 w_25 w_28 w_26 w_29 w_33 w_32 f_23 f_20 f_21 f_22 ⟨(by omega), (by omega), hL25_34_0, hL25_34_1⟩ hP hD hS dX10_goesFrom_153
        · have gc_35 : l_24.toInt < 18 := i_nle (by decide : (18 : Int32).toInt = 18) (rfl : l_24.toInt = l_24.toInt) c_35
          refine lv_iload_n hx hb dX10_goesFrom_32 rfl (lv_at hl 3 rfl) ?_
          refine lv_if_eq (tgt := 45) hx hb dX10_goesFrom_33 (by decide) (fun c_36 => ?_) (fun c_36 => ?_)
          · have gc_36 : i.toInt = 0 := i_eq (rfl : i.toInt = i.toInt) (by decide : (0 : Int32).toInt = 0) c_36
            exact absurd gc_36 (by omega)
          · have gc_36 : i.toInt ≠ 0 := i_ne (rfl : i.toInt = i.toInt) (by decide : (0 : Int32).toInt = 0) c_36
            refine lv_iload hx hb dX10_goesFrom_36 (lv_at hl 0 rfl) ?_
            refine lv_bipush (v := 6) hx hb dX10_goesFrom_38 (by decide) ?_
            refine lv_irem hx hb dX10_goesFrom_40 (by decide) ?_
            refine lv_topi (fun n_37 en_37 => ?_)
            have tn_37 : n_37.toInt = l_24.toInt % 6 := i_rem en_37 (rfl : l_24.toInt = l_24.toInt) (by decide : (6 : Int32).toInt = 6) (by omega) (by omega)
            refine lv_iload_n hx hb dX10_goesFrom_41 rfl (lv_at hl 4 rfl) ?_
            refine lv_icmp_ne (tgt := 50) hx hb dX10_goesFrom_42 (by decide) (fun c_38 => ?_) (fun c_38 => ?_)
            · have gc_38 : l_24.toInt % 6 ≠ k.toInt := i_ne tn_37 (rfl : k.toInt = k.toInt) c_38
              refine lv_iload hx hb dX10_goesFrom_50 (lv_at hl 6 rfl) ?_
              refine lv_iconst (v := 1) hx hb dX10_goesFrom_52 (by decide) ?_
              refine lv_iadd hx hb dX10_goesFrom_53 ?_
              refine lv_topi (fun n_39 en_39 => ?_)
              have tn_39 : n_39.toInt = n1.toInt + 1 := i_add en_39 (rfl : n1.toInt = n1.toInt) (by decide : (1 : Int32).toInt = 1) (by omega) (by omega)
              refine lv_istore (lv' := [(7, .int n_39), (6, .int l_24), (5, .int n_5), (0, .ref (hm 0)), (1, .int i), (2, .int k), (3, .int t), (4, .int n1)]) hx hb dX10_goesFrom_54 hl (by decide) rfl (fun ls hl => ?_)
              refine lv_aload_n hx hb dX10_goesFrom_56 rfl (lv_at hl 3 rfl) ?_
              refine lv_iload_n hx hb dX10_goesFrom_57 rfl (lv_at hl 6 rfl) ?_
              refine xv hD hS hA (xV (As := [.int t]) (rest := []) hx hb hml hown hts hK hP hD hS hA NT_ok hN hAe hl.1 ⟨Nat.le_refl _, Nat.le_refl _⟩ 0 rfl rfl rfl (c_X10_takesTired l D cy hm v_taped v_walkers v_loads v_pieces v_changeCosts v_planned v_isMarch v_clauseMany v_place v_end v_bad v_clauses v_codes v_open v_stacked v_isOver v_isBehind w_31 w_27 w_30 w_25 w_28 w_26 w_29 v_packing v_packed w_33 w_32 v_spentAt v_ranChanges f_m_tape f_m_knee f_m_weight f_m_isLame f_m_loadWeight f_m_owner f_m_food f_m_miles f_m_slope f_m_clauseLetter f_m_sumFrom f_m_codeFrom f_m_codeTo f_m_code f_m_codeArg f_m_newLetter f_m_newSum f_m_newFrom f_m_newTo f_m_newCode f_m_newArg f_m_stack f_23 f_20 f_m_least f_m_packPounds f_m_packOwner f_m_room f_m_givenTo f_m_canBe f_m_setPounds f_m_plainTime f_m_muleTime f_m_planTo f_m_march f_21 f_m_ranMinutes f_m_tiredAhead f_m_isReached f_m_toEnd f_m_upTo f_22 f_m_byChanges f_m_bandPaces H.size t hL25_34_1 (by omega)) (gi_V lwd_991 lwd_992 lwd_993 lwd_5 lwd_994) ⟨rfl, hd_X10_takesTired⟩ ⟨Nat.le_of_ble_eq_true rfl, Nat.le_of_ble_eq_true rfl⟩ rfl (Nat.le_of_ble_eq_true rfl) dX10_goesFrom_58) (fun u_40 H locs hw hP hD hS => ?_)
              obtain ⟨ztired_42, rfl⟩ : ∃ z, z = u_40 := ⟨_, rfl⟩
              try dsimp only at hw hP hD
              obtain ⟨p_43, p_44⟩ := hw
              refine lv_aload_n hx hb dX10_goesFrom_61 rfl (lv_at hl 3 rfl) ?_
              refine lv_iload hx hb dX10_goesFrom_62 (lv_at hl 1 rfl) ?_
              refine xi hD hS hA (xV (As := [.int l_24]) (rest := []) hx hb hml hown hts hK hP hD hS hA NT_ok hN hAe hl.1 ⟨Nat.le_refl _, Nat.le_refl _⟩ 0 rfl rfl rfl (c_X10_mayAct l D cy hm v_taped v_walkers v_loads v_pieces v_changeCosts v_planned v_isMarch v_clauseMany v_place v_end v_bad v_clauses v_codes v_open v_stacked v_isOver v_isBehind w_31 w_27 w_30 w_25 w_28 w_26 w_29 v_packing v_packed w_33 w_32 v_spentAt v_ranChanges f_m_tape f_m_knee f_m_weight f_m_isLame f_m_loadWeight f_m_owner f_m_food f_m_miles f_m_slope f_m_clauseLetter f_m_sumFrom f_m_codeFrom f_m_codeTo f_m_code f_m_codeArg f_m_newLetter f_m_newSum f_m_newFrom f_m_newTo f_m_newCode f_m_newArg f_m_stack f_23 f_20 f_m_least f_m_packPounds f_m_packOwner f_m_room f_m_givenTo f_m_canBe f_m_setPounds f_m_plainTime f_m_muleTime f_m_planTo f_m_march ztired_42 f_m_ranMinutes f_m_tiredAhead f_m_isReached f_m_toEnd f_m_upTo f_22 f_m_byChanges f_m_bandPaces H.size l_24) (gi_V lwd_1119 lwd_1120 lwd_1121 lwd_5 lwd_1122) ⟨rfl, hd_X10_mayAct⟩ ⟨Nat.le_of_ble_eq_true rfl, Nat.le_of_ble_eq_true rfl⟩ rfl (Nat.le_of_ble_eq_true rfl) dX10_goesFrom_64) (fun r_46 u_45 H locs hw hP hD hS => ?_)
              try dsimp only at hw hP hD
              obtain ⟨p_47, p_48⟩ := hw
              refine lv_if_eq (tgt := 147) hx hb dX10_goesFrom_67 (by decide) (fun c_49 => ?_) (fun c_49 => ?_)
              · have gc_49 : r_46.toInt = 0 := i_eq (rfl : r_46.toInt = r_46.toInt) (by decide : (0 : Int32).toInt = 0) c_49
                obtain ⟨n_50, en_50⟩ : ∃ y : Int32, y = l_24 + 1 := ⟨_, rfl⟩
                have tn_50 : n_50.toInt = l_24.toInt + 1 := i_add en_50 (rfl : l_24.toInt = l_24.toInt) (by decide : (1 : Int32).toInt = 1) (by omega) (by omega)
                refine lv_iinc (v := n_50) (lv' := [(6, .int n_50), (7, .int n_39), (5, .int n_5), (0, .ref (hm 0)), (1, .int i), (2, .int k), (3, .int t), (4, .int n1)]) hx hb dX10_goesFrom_147 hl (k := 1) rfl (by rw [en_50]; rfl) (by decide) rfl (fun ls hl => ?_)
                refine lv_goto (tgt := 25) hx hb dX10_goesFrom_150 (by decide) ?_
                exact ih25_34 f_20 ztired_42 f_22 f_23 n_50 w_25 w_26 w_27 w_28 w_29 w_30 w_31 w_32 w_33 hL25_34_0 p_44 (by omega) (by omega) (by omega) (by omega) _ _ _ hP hD hS (lv_sub hl [0, 2, 3, 4, 5, 6, 7] rfl)
              · have gc_49 : r_46.toInt ≠ 0 := i_ne (rfl : r_46.toInt = r_46.toInt) (by decide : (0 : Int32).toInt = 0) c_49
                refine lv_iload hx hb dX10_goesFrom_70 (lv_at hl 0 rfl) ?_
                refine lv_bipush (v := 10) hx hb dX10_goesFrom_72 (by decide) ?_
                refine lv_icmp_ge (tgt := 147) hx hb dX10_goesFrom_74 (by decide) (fun c_51 => ?_) (fun c_51 => ?_)
                · have gc_51 : 10 ≤ n1.toInt + 1 := i_le (by decide : (10 : Int32).toInt = 10) tn_39 c_51
                  obtain ⟨n_52, en_52⟩ : ∃ y : Int32, y = l_24 + 1 := ⟨_, rfl⟩
                  have tn_52 : n_52.toInt = l_24.toInt + 1 := i_add en_52 (rfl : l_24.toInt = l_24.toInt) (by decide : (1 : Int32).toInt = 1) (by omega) (by omega)
                  refine lv_iinc (v := n_52) (lv' := [(6, .int n_52), (7, .int n_39), (5, .int n_5), (0, .ref (hm 0)), (1, .int i), (2, .int k), (3, .int t), (4, .int n1)]) hx hb dX10_goesFrom_147 hl (k := 1) rfl (by rw [en_52]; rfl) (by decide) rfl (fun ls hl => ?_)
                  refine lv_goto (tgt := 25) hx hb dX10_goesFrom_150 (by decide) ?_
                  exact ih25_34 f_20 ztired_42 f_22 f_23 n_52 w_25 w_26 w_27 w_28 w_29 w_30 w_31 w_32 w_33 hL25_34_0 p_44 (by omega) (by omega) (by omega) (by omega) _ _ _ hP hD hS (lv_sub hl [0, 2, 3, 4, 5, 6, 7] rfl)
                · have gc_51 : n1.toInt + 1 < 10 := i_nle (by decide : (10 : Int32).toInt = 10) tn_39 c_51
                  refine lv_aload_n hx hb dX10_goesFrom_77 rfl (lv_at hl 3 rfl) ?_
                  refine lv_iload_n hx hb dX10_goesFrom_78 rfl (lv_at hl 4 rfl) ?_
                  refine lv_iload hx hb dX10_goesFrom_79 (lv_at hl 1 rfl) ?_
                  refine xi hD hS hA (xV (As := [.int i, .int l_24]) (rest := []) hx hb hml hown hts hK hP hD hS hA NT_ok hN hAe hl.1 ⟨Nat.le_refl _, Nat.le_refl _⟩ 0 rfl rfl rfl (c_X10_goesOver l D cy hm v_taped v_walkers v_loads v_pieces v_changeCosts v_planned v_isMarch v_clauseMany v_place v_end v_bad v_clauses v_codes v_open v_stacked v_isOver v_isBehind w_31 w_27 w_30 w_25 w_28 w_26 w_29 v_packing v_packed w_33 w_32 v_spentAt v_ranChanges f_m_tape f_m_knee f_m_weight f_m_isLame f_m_loadWeight f_m_owner f_m_food f_m_miles f_m_slope f_m_clauseLetter f_m_sumFrom f_m_codeFrom f_m_codeTo f_m_code f_m_codeArg f_m_newLetter f_m_newSum f_m_newFrom f_m_newTo f_m_newCode f_m_newArg f_m_stack f_23 f_20 f_m_least f_m_packPounds f_m_packOwner f_m_room f_m_givenTo f_m_canBe f_m_setPounds f_m_plainTime f_m_muleTime f_m_planTo f_m_march ztired_42 f_m_ranMinutes f_m_tiredAhead f_m_isReached f_m_toEnd f_m_upTo f_22 f_m_byChanges f_m_bandPaces H.size i l_24 (by omega) (by omega) (by omega) (by omega) (by omega) hr_m_weight hr_m_isLame hr_m_loadWeight hr_m_food hr_m_miles hL25_34_0 p_44 (by omega) (by omega) hwf) (gi_V lwd_995 lwd_996 lwd_997 lwd_5 lwd_998) ⟨rfl, hd_X10_goesOver⟩ ⟨Nat.le_of_ble_eq_true rfl, Nat.le_of_ble_eq_true rfl⟩ rfl (Nat.le_of_ble_eq_true rfl) dX10_goesFrom_81) (fun r_54 u_53 H locs hw hP hD hS => ?_)
                  obtain ⟨zatW_55, zatL_56, zatT_57, zatH_58, zatM_59, zatI_60, zatQ_61, zgoPace_62, zgoMinutes_63, zworth_64, zisRefused_65, ztired_66⟩ := u_53
                  try dsimp only at hw hP hD
                  obtain ⟨p_67, p_68, p_69, p_70, p_71, p_72⟩ := hw
                  refine lv_if_ne (tgt := 90) hx hb dX10_goesFrom_84 (by decide) (fun c_73 => ?_) (fun c_73 => ?_)
                  · have gc_73 : r_54.toInt ≠ 0 := i_ne (rfl : r_54.toInt = r_54.toInt) (by decide : (0 : Int32).toInt = 0) c_73
                    refine lv_iload hx hb dX10_goesFrom_90 (lv_at hl 1 rfl) ?_
                    refine lv_bipush (v := 6) hx hb dX10_goesFrom_92 (by decide) ?_
                    refine lv_irem hx hb dX10_goesFrom_94 (by decide) ?_
                    refine lv_topi (fun n_74 en_74 => ?_)
                    have tn_74 : n_74.toInt = l_24.toInt % 6 := i_rem en_74 (rfl : l_24.toInt = l_24.toInt) (by decide : (6 : Int32).toInt = 6) (by omega) (by omega)
                    refine lv_aload_n hx hb dX10_goesFrom_95 rfl (lv_at hl 3 rfl) ?_
                    refine xi hD hS hA (xV (As := []) (rest := [.int n_74]) hx hb hml hown hts hK hP hD hS hA NT_ok hN hAe hl.1 ⟨Nat.le_refl _, Nat.le_refl _⟩ 0 rfl rfl rfl (c_X10_allTired l D cy hm v_taped v_walkers v_loads v_pieces v_changeCosts v_planned v_isMarch v_clauseMany v_place v_end v_bad v_clauses v_codes v_open v_stacked v_isOver v_isBehind zatW_55 zatL_56 zatT_57 zatH_58 zatM_59 zatI_60 zatQ_61 v_packing v_packed zgoPace_62 zgoMinutes_63 v_spentAt v_ranChanges f_m_tape f_m_knee f_m_weight f_m_isLame f_m_loadWeight f_m_owner f_m_food f_m_miles f_m_slope f_m_clauseLetter f_m_sumFrom f_m_codeFrom f_m_codeTo f_m_code f_m_codeArg f_m_newLetter f_m_newSum f_m_newFrom f_m_newTo f_m_newCode f_m_newArg f_m_stack zworth_64 zisRefused_65 f_m_least f_m_packPounds f_m_packOwner f_m_room f_m_givenTo f_m_canBe f_m_setPounds f_m_plainTime f_m_muleTime f_m_planTo f_m_march ztired_66 f_m_ranMinutes f_m_tiredAhead f_m_isReached f_m_toEnd f_m_upTo f_22 f_m_byChanges f_m_bandPaces H.size (by omega) p_72) (gi_V lwd_1016 lwd_1017 lwd_1018 lwd_5 lwd_1019) ⟨rfl, hd_X10_allTired⟩ ⟨Nat.le_of_ble_eq_true rfl, Nat.le_of_ble_eq_true rfl⟩ rfl (Nat.le_of_ble_eq_true rfl) dX10_goesFrom_96) (fun r_76 u_75 H locs hw hP hD hS => ?_)
                    try dsimp only at hw hP hD
                    obtain ⟨p_77, p_78, p_79⟩ := hw
                    refine lv_iload hx hb dX10_goesFrom_99 (lv_at hl 0 rfl) ?_
                    refine xi hD hS hA (xS (As := [.int n_74, .int r_76, .int n_39]) (rest := []) hx hb hml hown hts hK hP hD hS hA NT_ok hN hAe hl.1 ⟨Nat.le_refl _, Nat.le_refl _⟩ (c_X10_cellOf l D cy hm v_taped v_walkers v_loads v_pieces v_changeCosts v_planned v_isMarch v_clauseMany v_place v_end v_bad v_clauses v_codes v_open v_stacked v_isOver v_isBehind zatW_55 zatL_56 zatT_57 zatH_58 zatM_59 zatI_60 zatQ_61 v_packing v_packed zgoPace_62 zgoMinutes_63 v_spentAt v_ranChanges f_m_tape f_m_knee f_m_weight f_m_isLame f_m_loadWeight f_m_owner f_m_food f_m_miles f_m_slope f_m_clauseLetter f_m_sumFrom f_m_codeFrom f_m_codeTo f_m_code f_m_codeArg f_m_newLetter f_m_newSum f_m_newFrom f_m_newTo f_m_newCode f_m_newArg f_m_stack zworth_64 zisRefused_65 f_m_least f_m_packPounds f_m_packOwner f_m_room f_m_givenTo f_m_canBe f_m_setPounds f_m_plainTime f_m_muleTime f_m_planTo f_m_march ztired_66 f_m_ranMinutes f_m_tiredAhead f_m_isReached f_m_toEnd f_m_upTo f_22 f_m_byChanges f_m_bandPaces H.size n_74 r_76 n_39 (by omega) (by omega) (by omega)) (gi_S lwd_1147 lwd_1148 lwd_5 lwd_1149) hd_X10_cellOf ⟨Nat.le_of_ble_eq_true rfl, Nat.le_of_ble_eq_true rfl⟩ rfl (Nat.le_of_ble_eq_true rfl) dX10_goesFrom_101) (fun r_81 u_80 H locs hw hP hD hS => ?_)
                    try dsimp only at hw hP hD
                    have p_82 := hw
                    clear hw
                    refine lv_istore (lv' := [(8, .int r_81), (7, .int n_39), (6, .int l_24), (5, .int n_5), (0, .ref (hm 0)), (1, .int i), (2, .int k), (3, .int t), (4, .int n1)]) hx hb dX10_goesFrom_104 hl (by decide) rfl (fun ls hl => ?_)
                    refine lv_aload_n hx hb dX10_goesFrom_106 rfl (lv_at hl 4 rfl) ?_
                    refine gt_MD_MD_upNext hx hb hts hown hK hP lwd_199 dX10_goesFrom_107 ?_
                    refine lv_iload hx hb dX10_goesFrom_110 (lv_at hl 0 rfl) ?_
                    refine lv_iload hx hb dX10_goesFrom_112 (lv_at hl 3 rfl) ?_
                    refine lv_aload_n hx hb dX10_goesFrom_114 rfl (lv_at hl 4 rfl) ?_
                    refine gt_MD_MD_goMinutes hx hb hts hown hK hP lwd_990 dX10_goesFrom_115 ?_
                    refine lv_iadd hx hb dX10_goesFrom_118 ?_
                    refine lv_topi (fun n_83 en_83 => ?_)
                    refine lv_aload_n hx hb dX10_goesFrom_119 rfl (lv_at hl 4 rfl) ?_
                    refine gt_MD_MD_upNext hx hb hts hown hK hP lwd_199 dX10_goesFrom_120 ?_
                    refine lv_iload hx hb dX10_goesFrom_123 (lv_at hl 0 rfl) ?_
                    refine al_m_upNext hx hb hK hP (i_in (rfl : r_81.toInt = r_81.toInt) (by omega) (by omega)) dX10_goesFrom_125 (fun n_84 en_84 => ?_)
                    refine lv_icmp_ge (tgt := 139) hx hb dX10_goesFrom_126 (by decide) (fun c_85 => ?_) (fun c_85 => ?_)
                    · have gc_85 : n_84.toInt ≤ n_83.toInt := i_le (rfl : n_84.toInt = n_84.toInt) (rfl : n_83.toInt = n_83.toInt) c_85
                      refine lv_aload_n hx hb dX10_goesFrom_139 rfl (lv_at hl 4 rfl) ?_
                      refine gt_MD_MD_upNext hx hb hts hown hK hP lwd_199 dX10_goesFrom_140 ?_
                      refine lv_iload hx hb dX10_goesFrom_143 (lv_at hl 0 rfl) ?_
                      refine al_m_upNext hx hb hK hP (i_in (rfl : r_81.toInt = r_81.toInt) (by omega) (by omega)) dX10_goesFrom_145 (fun n_86 en_86 => ?_)
                      obtain rfl : n_84 = n_86 := en_84.trans en_86.symm
                      refine as_m_upNext (x := n_84) hx hb hK hP hD hS (i_in (rfl : r_81.toInt = r_81.toInt) (by omega) (by omega)) dX10_goesFrom_146 (fun f_87 ef_87 H locs hP hD hS => ?_)
                      obtain ⟨n_88, en_88⟩ : ∃ y : Int32, y = l_24 + 1 := ⟨_, rfl⟩
                      have tn_88 : n_88.toInt = l_24.toInt + 1 := i_add en_88 (rfl : l_24.toInt = l_24.toInt) (by decide : (1 : Int32).toInt = 1) (by omega) (by omega)
                      refine lv_iinc (v := n_88) (lv' := [(6, .int n_88), (8, .int r_81), (7, .int n_39), (5, .int n_5), (0, .ref (hm 0)), (1, .int i), (2, .int k), (3, .int t), (4, .int n1)]) hx hb dX10_goesFrom_147 hl (k := 2) rfl (by rw [en_88]; rfl) (by decide) rfl (fun ls hl => ?_)
                      refine lv_goto (tgt := 25) hx hb dX10_goesFrom_150 (by decide) ?_
                      exact ih25_34 zisRefused_65 ztired_66 f_87 zworth_64 n_88 zatH_58 zatI_60 zatL_56 zatM_59 zatQ_61 zatT_57 zatW_55 zgoMinutes_63 zgoPace_62 p_71 p_72 (by omega) (by omega) (by omega) (by omega) _ _ _ hP hD hS (lv_sub hl [0, 3, 4, 5, 6, 7, 8] rfl)
                    · have gc_85 : n_83.toInt < n_84.toInt := i_nle (rfl : n_84.toInt = n_84.toInt) (rfl : n_83.toInt = n_83.toInt) c_85
                      refine lv_iload hx hb dX10_goesFrom_129 (lv_at hl 3 rfl) ?_
                      refine lv_aload_n hx hb dX10_goesFrom_131 rfl (lv_at hl 4 rfl) ?_
                      refine gt_MD_MD_goMinutes hx hb hts hown hK hP lwd_990 dX10_goesFrom_132 ?_
                      refine lv_iadd hx hb dX10_goesFrom_135 ?_
                      refine lv_topi (fun n_89 en_89 => ?_)
                      obtain rfl : n_83 = n_89 := en_83.trans en_89.symm
                      refine lv_goto (tgt := 146) hx hb dX10_goesFrom_136 (by decide) ?_
                      refine as_m_upNext (x := n_83) hx hb hK hP hD hS (i_in (rfl : r_81.toInt = r_81.toInt) (by omega) (by omega)) dX10_goesFrom_146 (fun f_90 ef_90 H locs hP hD hS => ?_)
                      obtain ⟨n_91, en_91⟩ : ∃ y : Int32, y = l_24 + 1 := ⟨_, rfl⟩
                      have tn_91 : n_91.toInt = l_24.toInt + 1 := i_add en_91 (rfl : l_24.toInt = l_24.toInt) (by decide : (1 : Int32).toInt = 1) (by omega) (by omega)
                      refine lv_iinc (v := n_91) (lv' := [(6, .int n_91), (8, .int r_81), (7, .int n_39), (5, .int n_5), (0, .ref (hm 0)), (1, .int i), (2, .int k), (3, .int t), (4, .int n1)]) hx hb dX10_goesFrom_147 hl (k := 2) rfl (by rw [en_91]; rfl) (by decide) rfl (fun ls hl => ?_)
                      refine lv_goto (tgt := 25) hx hb dX10_goesFrom_150 (by decide) ?_
                      exact ih25_34 zisRefused_65 ztired_66 f_90 zworth_64 n_91 zatH_58 zatI_60 zatL_56 zatM_59 zatQ_61 zatT_57 zatW_55 zgoMinutes_63 zgoPace_62 p_71 p_72 (by omega) (by omega) (by omega) (by omega) _ _ _ hP hD hS (lv_sub hl [0, 3, 4, 5, 6, 7, 8] rfl)
                  · have gc_73 : r_54.toInt = 0 := i_eq (rfl : r_54.toInt = r_54.toInt) (by decide : (0 : Int32).toInt = 0) c_73
                    refine lv_goto (tgt := 147) hx hb dX10_goesFrom_87 (by decide) ?_
                    obtain ⟨n_92, en_92⟩ : ∃ y : Int32, y = l_24 + 1 := ⟨_, rfl⟩
                    have tn_92 : n_92.toInt = l_24.toInt + 1 := i_add en_92 (rfl : l_24.toInt = l_24.toInt) (by decide : (1 : Int32).toInt = 1) (by omega) (by omega)
                    refine lv_iinc (v := n_92) (lv' := [(6, .int n_92), (7, .int n_39), (5, .int n_5), (0, .ref (hm 0)), (1, .int i), (2, .int k), (3, .int t), (4, .int n1)]) hx hb dX10_goesFrom_147 hl (k := 1) rfl (by rw [en_92]; rfl) (by decide) rfl (fun ls hl => ?_)
                    refine lv_goto (tgt := 25) hx hb dX10_goesFrom_150 (by decide) ?_
                    exact ih25_34 zisRefused_65 ztired_66 f_22 zworth_64 n_92 zatH_58 zatI_60 zatL_56 zatM_59 zatQ_61 zatT_57 zatW_55 zgoMinutes_63 zgoPace_62 p_71 p_72 (by omega) (by omega) (by omega) (by omega) _ _ _ hP hD hS (lv_sub hl [0, 2, 3, 4, 5, 6, 7] rfl)
            · have gc_38 : l_24.toInt % 6 = k.toInt := i_eq tn_37 (rfl : k.toInt = k.toInt) c_38
              refine lv_iload hx hb dX10_goesFrom_45 (lv_at hl 6 rfl) ?_
              refine lv_goto (tgt := 54) hx hb dX10_goesFrom_47 (by decide) ?_
              refine lv_istore (lv' := [(7, .int n1), (6, .int l_24), (5, .int n_5), (0, .ref (hm 0)), (1, .int i), (2, .int k), (3, .int t), (4, .int n1)]) hx hb dX10_goesFrom_54 hl (by decide) rfl (fun ls hl => ?_)
              refine lv_aload_n hx hb dX10_goesFrom_56 rfl (lv_at hl 3 rfl) ?_
              refine lv_iload_n hx hb dX10_goesFrom_57 rfl (lv_at hl 6 rfl) ?_
              refine xv hD hS hA (xV (As := [.int t]) (rest := []) hx hb hml hown hts hK hP hD hS hA NT_ok hN hAe hl.1 ⟨Nat.le_refl _, Nat.le_refl _⟩ 0 rfl rfl rfl (c_X10_takesTired l D cy hm v_taped v_walkers v_loads v_pieces v_changeCosts v_planned v_isMarch v_clauseMany v_place v_end v_bad v_clauses v_codes v_open v_stacked v_isOver v_isBehind w_31 w_27 w_30 w_25 w_28 w_26 w_29 v_packing v_packed w_33 w_32 v_spentAt v_ranChanges f_m_tape f_m_knee f_m_weight f_m_isLame f_m_loadWeight f_m_owner f_m_food f_m_miles f_m_slope f_m_clauseLetter f_m_sumFrom f_m_codeFrom f_m_codeTo f_m_code f_m_codeArg f_m_newLetter f_m_newSum f_m_newFrom f_m_newTo f_m_newCode f_m_newArg f_m_stack f_23 f_20 f_m_least f_m_packPounds f_m_packOwner f_m_room f_m_givenTo f_m_canBe f_m_setPounds f_m_plainTime f_m_muleTime f_m_planTo f_m_march f_21 f_m_ranMinutes f_m_tiredAhead f_m_isReached f_m_toEnd f_m_upTo f_22 f_m_byChanges f_m_bandPaces H.size t hL25_34_1 (by omega)) (gi_V lwd_991 lwd_992 lwd_993 lwd_5 lwd_994) ⟨rfl, hd_X10_takesTired⟩ ⟨Nat.le_of_ble_eq_true rfl, Nat.le_of_ble_eq_true rfl⟩ rfl (Nat.le_of_ble_eq_true rfl) dX10_goesFrom_58) (fun u_93 H locs hw hP hD hS => ?_)
              obtain ⟨ztired_95, rfl⟩ : ∃ z, z = u_93 := ⟨_, rfl⟩
              try dsimp only at hw hP hD
              obtain ⟨p_96, p_97⟩ := hw
              refine lv_aload_n hx hb dX10_goesFrom_61 rfl (lv_at hl 3 rfl) ?_
              refine lv_iload hx hb dX10_goesFrom_62 (lv_at hl 1 rfl) ?_
              refine xi hD hS hA (xV (As := [.int l_24]) (rest := []) hx hb hml hown hts hK hP hD hS hA NT_ok hN hAe hl.1 ⟨Nat.le_refl _, Nat.le_refl _⟩ 0 rfl rfl rfl (c_X10_mayAct l D cy hm v_taped v_walkers v_loads v_pieces v_changeCosts v_planned v_isMarch v_clauseMany v_place v_end v_bad v_clauses v_codes v_open v_stacked v_isOver v_isBehind w_31 w_27 w_30 w_25 w_28 w_26 w_29 v_packing v_packed w_33 w_32 v_spentAt v_ranChanges f_m_tape f_m_knee f_m_weight f_m_isLame f_m_loadWeight f_m_owner f_m_food f_m_miles f_m_slope f_m_clauseLetter f_m_sumFrom f_m_codeFrom f_m_codeTo f_m_code f_m_codeArg f_m_newLetter f_m_newSum f_m_newFrom f_m_newTo f_m_newCode f_m_newArg f_m_stack f_23 f_20 f_m_least f_m_packPounds f_m_packOwner f_m_room f_m_givenTo f_m_canBe f_m_setPounds f_m_plainTime f_m_muleTime f_m_planTo f_m_march ztired_95 f_m_ranMinutes f_m_tiredAhead f_m_isReached f_m_toEnd f_m_upTo f_22 f_m_byChanges f_m_bandPaces H.size l_24) (gi_V lwd_1119 lwd_1120 lwd_1121 lwd_5 lwd_1122) ⟨rfl, hd_X10_mayAct⟩ ⟨Nat.le_of_ble_eq_true rfl, Nat.le_of_ble_eq_true rfl⟩ rfl (Nat.le_of_ble_eq_true rfl) dX10_goesFrom_64) (fun r_99 u_98 H locs hw hP hD hS => ?_)
              try dsimp only at hw hP hD
              obtain ⟨p_100, p_101⟩ := hw
              refine lv_if_eq (tgt := 147) hx hb dX10_goesFrom_67 (by decide) (fun c_102 => ?_) (fun c_102 => ?_)
              · have gc_102 : r_99.toInt = 0 := i_eq (rfl : r_99.toInt = r_99.toInt) (by decide : (0 : Int32).toInt = 0) c_102
                obtain ⟨n_103, en_103⟩ : ∃ y : Int32, y = l_24 + 1 := ⟨_, rfl⟩
                have tn_103 : n_103.toInt = l_24.toInt + 1 := i_add en_103 (rfl : l_24.toInt = l_24.toInt) (by decide : (1 : Int32).toInt = 1) (by omega) (by omega)
                refine lv_iinc (v := n_103) (lv' := [(6, .int n_103), (7, .int n1), (5, .int n_5), (0, .ref (hm 0)), (1, .int i), (2, .int k), (3, .int t), (4, .int n1)]) hx hb dX10_goesFrom_147 hl (k := 1) rfl (by rw [en_103]; rfl) (by decide) rfl (fun ls hl => ?_)
                refine lv_goto (tgt := 25) hx hb dX10_goesFrom_150 (by decide) ?_
                exact ih25_34 f_20 ztired_95 f_22 f_23 n_103 w_25 w_26 w_27 w_28 w_29 w_30 w_31 w_32 w_33 hL25_34_0 p_97 (by omega) (by omega) (by omega) (by omega) _ _ _ hP hD hS (lv_sub hl [0, 2, 3, 4, 5, 6, 7] rfl)
              · have gc_102 : r_99.toInt ≠ 0 := i_ne (rfl : r_99.toInt = r_99.toInt) (by decide : (0 : Int32).toInt = 0) c_102
                refine lv_iload hx hb dX10_goesFrom_70 (lv_at hl 0 rfl) ?_
                refine lv_bipush (v := 10) hx hb dX10_goesFrom_72 (by decide) ?_
                refine lv_icmp_ge (tgt := 147) hx hb dX10_goesFrom_74 (by decide) (fun c_104 => ?_) (fun c_104 => ?_)
                · have gc_104 : 10 ≤ n1.toInt := i_le (by decide : (10 : Int32).toInt = 10) (rfl : n1.toInt = n1.toInt) c_104
                  exact absurd gc_104 (by omega)
                · have gc_104 : n1.toInt < 10 := i_nle (by decide : (10 : Int32).toInt = 10) (rfl : n1.toInt = n1.toInt) c_104
                  refine lv_aload_n hx hb dX10_goesFrom_77 rfl (lv_at hl 3 rfl) ?_
                  refine lv_iload_n hx hb dX10_goesFrom_78 rfl (lv_at hl 4 rfl) ?_
                  refine lv_iload hx hb dX10_goesFrom_79 (lv_at hl 1 rfl) ?_
                  refine xi hD hS hA (xV (As := [.int i, .int l_24]) (rest := []) hx hb hml hown hts hK hP hD hS hA NT_ok hN hAe hl.1 ⟨Nat.le_refl _, Nat.le_refl _⟩ 0 rfl rfl rfl (c_X10_goesOver l D cy hm v_taped v_walkers v_loads v_pieces v_changeCosts v_planned v_isMarch v_clauseMany v_place v_end v_bad v_clauses v_codes v_open v_stacked v_isOver v_isBehind w_31 w_27 w_30 w_25 w_28 w_26 w_29 v_packing v_packed w_33 w_32 v_spentAt v_ranChanges f_m_tape f_m_knee f_m_weight f_m_isLame f_m_loadWeight f_m_owner f_m_food f_m_miles f_m_slope f_m_clauseLetter f_m_sumFrom f_m_codeFrom f_m_codeTo f_m_code f_m_codeArg f_m_newLetter f_m_newSum f_m_newFrom f_m_newTo f_m_newCode f_m_newArg f_m_stack f_23 f_20 f_m_least f_m_packPounds f_m_packOwner f_m_room f_m_givenTo f_m_canBe f_m_setPounds f_m_plainTime f_m_muleTime f_m_planTo f_m_march ztired_95 f_m_ranMinutes f_m_tiredAhead f_m_isReached f_m_toEnd f_m_upTo f_22 f_m_byChanges f_m_bandPaces H.size i l_24 (by omega) (by omega) (by omega) (by omega) (by omega) hr_m_weight hr_m_isLame hr_m_loadWeight hr_m_food hr_m_miles hL25_34_0 p_97 (by omega) (by omega) hwf) (gi_V lwd_995 lwd_996 lwd_997 lwd_5 lwd_998) ⟨rfl, hd_X10_goesOver⟩ ⟨Nat.le_of_ble_eq_true rfl, Nat.le_of_ble_eq_true rfl⟩ rfl (Nat.le_of_ble_eq_true rfl) dX10_goesFrom_81) (fun r_106 u_105 H locs hw hP hD hS => ?_)
                  obtain ⟨zatW_107, zatL_108, zatT_109, zatH_110, zatM_111, zatI_112, zatQ_113, zgoPace_114, zgoMinutes_115, zworth_116, zisRefused_117, ztired_118⟩ := u_105
                  try dsimp only at hw hP hD
                  obtain ⟨p_119, p_120, p_121, p_122, p_123, p_124⟩ := hw
                  refine lv_if_ne (tgt := 90) hx hb dX10_goesFrom_84 (by decide) (fun c_125 => ?_) (fun c_125 => ?_)
                  · have gc_125 : r_106.toInt ≠ 0 := i_ne (rfl : r_106.toInt = r_106.toInt) (by decide : (0 : Int32).toInt = 0) c_125
                    refine lv_iload hx hb dX10_goesFrom_90 (lv_at hl 1 rfl) ?_
                    refine lv_bipush (v := 6) hx hb dX10_goesFrom_92 (by decide) ?_
                    refine lv_irem hx hb dX10_goesFrom_94 (by decide) ?_
                    refine lv_topi (fun n_126 en_126 => ?_)
                    have tn_126 : n_126.toInt = l_24.toInt % 6 := i_rem en_126 (rfl : l_24.toInt = l_24.toInt) (by decide : (6 : Int32).toInt = 6) (by omega) (by omega)
                    refine lv_aload_n hx hb dX10_goesFrom_95 rfl (lv_at hl 3 rfl) ?_
                    refine xi hD hS hA (xV (As := []) (rest := [.int n_126]) hx hb hml hown hts hK hP hD hS hA NT_ok hN hAe hl.1 ⟨Nat.le_refl _, Nat.le_refl _⟩ 0 rfl rfl rfl (c_X10_allTired l D cy hm v_taped v_walkers v_loads v_pieces v_changeCosts v_planned v_isMarch v_clauseMany v_place v_end v_bad v_clauses v_codes v_open v_stacked v_isOver v_isBehind zatW_107 zatL_108 zatT_109 zatH_110 zatM_111 zatI_112 zatQ_113 v_packing v_packed zgoPace_114 zgoMinutes_115 v_spentAt v_ranChanges f_m_tape f_m_knee f_m_weight f_m_isLame f_m_loadWeight f_m_owner f_m_food f_m_miles f_m_slope f_m_clauseLetter f_m_sumFrom f_m_codeFrom f_m_codeTo f_m_code f_m_codeArg f_m_newLetter f_m_newSum f_m_newFrom f_m_newTo f_m_newCode f_m_newArg f_m_stack zworth_116 zisRefused_117 f_m_least f_m_packPounds f_m_packOwner f_m_room f_m_givenTo f_m_canBe f_m_setPounds f_m_plainTime f_m_muleTime f_m_planTo f_m_march ztired_118 f_m_ranMinutes f_m_tiredAhead f_m_isReached f_m_toEnd f_m_upTo f_22 f_m_byChanges f_m_bandPaces H.size (by omega) p_124) (gi_V lwd_1016 lwd_1017 lwd_1018 lwd_5 lwd_1019) ⟨rfl, hd_X10_allTired⟩ ⟨Nat.le_of_ble_eq_true rfl, Nat.le_of_ble_eq_true rfl⟩ rfl (Nat.le_of_ble_eq_true rfl) dX10_goesFrom_96) (fun r_128 u_127 H locs hw hP hD hS => ?_)
                    try dsimp only at hw hP hD
                    obtain ⟨p_129, p_130, p_131⟩ := hw
                    refine lv_iload hx hb dX10_goesFrom_99 (lv_at hl 0 rfl) ?_
                    refine xi hD hS hA (xS (As := [.int n_126, .int r_128, .int n1]) (rest := []) hx hb hml hown hts hK hP hD hS hA NT_ok hN hAe hl.1 ⟨Nat.le_refl _, Nat.le_refl _⟩ (c_X10_cellOf l D cy hm v_taped v_walkers v_loads v_pieces v_changeCosts v_planned v_isMarch v_clauseMany v_place v_end v_bad v_clauses v_codes v_open v_stacked v_isOver v_isBehind zatW_107 zatL_108 zatT_109 zatH_110 zatM_111 zatI_112 zatQ_113 v_packing v_packed zgoPace_114 zgoMinutes_115 v_spentAt v_ranChanges f_m_tape f_m_knee f_m_weight f_m_isLame f_m_loadWeight f_m_owner f_m_food f_m_miles f_m_slope f_m_clauseLetter f_m_sumFrom f_m_codeFrom f_m_codeTo f_m_code f_m_codeArg f_m_newLetter f_m_newSum f_m_newFrom f_m_newTo f_m_newCode f_m_newArg f_m_stack zworth_116 zisRefused_117 f_m_least f_m_packPounds f_m_packOwner f_m_room f_m_givenTo f_m_canBe f_m_setPounds f_m_plainTime f_m_muleTime f_m_planTo f_m_march ztired_118 f_m_ranMinutes f_m_tiredAhead f_m_isReached f_m_toEnd f_m_upTo f_22 f_m_byChanges f_m_bandPaces H.size n_126 r_128 n1 (by omega) (by omega) (by omega)) (gi_S lwd_1147 lwd_1148 lwd_5 lwd_1149) hd_X10_cellOf ⟨Nat.le_of_ble_eq_true rfl, Nat.le_of_ble_eq_true rfl⟩ rfl (Nat.le_of_ble_eq_true rfl) dX10_goesFrom_101) (fun r_133 u_132 H locs hw hP hD hS => ?_)
                    try dsimp only at hw hP hD
                    have p_134 := hw
                    clear hw
                    refine lv_istore (lv' := [(8, .int r_133), (7, .int n1), (6, .int l_24), (5, .int n_5), (0, .ref (hm 0)), (1, .int i), (2, .int k), (3, .int t), (4, .int n1)]) hx hb dX10_goesFrom_104 hl (by decide) rfl (fun ls hl => ?_)
                    refine lv_aload_n hx hb dX10_goesFrom_106 rfl (lv_at hl 4 rfl) ?_
                    refine gt_MD_MD_upNext hx hb hts hown hK hP lwd_199 dX10_goesFrom_107 ?_
                    refine lv_iload hx hb dX10_goesFrom_110 (lv_at hl 0 rfl) ?_
                    refine lv_iload hx hb dX10_goesFrom_112 (lv_at hl 3 rfl) ?_
                    refine lv_aload_n hx hb dX10_goesFrom_114 rfl (lv_at hl 4 rfl) ?_
                    refine gt_MD_MD_goMinutes hx hb hts hown hK hP lwd_990 dX10_goesFrom_115 ?_
                    refine lv_iadd hx hb dX10_goesFrom_118 ?_
                    refine lv_topi (fun n_135 en_135 => ?_)
                    refine lv_aload_n hx hb dX10_goesFrom_119 rfl (lv_at hl 4 rfl) ?_
                    refine gt_MD_MD_upNext hx hb hts hown hK hP lwd_199 dX10_goesFrom_120 ?_
                    refine lv_iload hx hb dX10_goesFrom_123 (lv_at hl 0 rfl) ?_
                    refine al_m_upNext hx hb hK hP (i_in (rfl : r_133.toInt = r_133.toInt) (by omega) (by omega)) dX10_goesFrom_125 (fun n_136 en_136 => ?_)
                    refine lv_icmp_ge (tgt := 139) hx hb dX10_goesFrom_126 (by decide) (fun c_137 => ?_) (fun c_137 => ?_)
                    · have gc_137 : n_136.toInt ≤ n_135.toInt := i_le (rfl : n_136.toInt = n_136.toInt) (rfl : n_135.toInt = n_135.toInt) c_137
                      refine lv_aload_n hx hb dX10_goesFrom_139 rfl (lv_at hl 4 rfl) ?_
                      refine gt_MD_MD_upNext hx hb hts hown hK hP lwd_199 dX10_goesFrom_140 ?_
                      refine lv_iload hx hb dX10_goesFrom_143 (lv_at hl 0 rfl) ?_
                      refine al_m_upNext hx hb hK hP (i_in (rfl : r_133.toInt = r_133.toInt) (by omega) (by omega)) dX10_goesFrom_145 (fun n_138 en_138 => ?_)
                      obtain rfl : n_136 = n_138 := en_136.trans en_138.symm
                      refine as_m_upNext (x := n_136) hx hb hK hP hD hS (i_in (rfl : r_133.toInt = r_133.toInt) (by omega) (by omega)) dX10_goesFrom_146 (fun f_139 ef_139 H locs hP hD hS => ?_)
                      obtain ⟨n_140, en_140⟩ : ∃ y : Int32, y = l_24 + 1 := ⟨_, rfl⟩
                      have tn_140 : n_140.toInt = l_24.toInt + 1 := i_add en_140 (rfl : l_24.toInt = l_24.toInt) (by decide : (1 : Int32).toInt = 1) (by omega) (by omega)
                      refine lv_iinc (v := n_140) (lv' := [(6, .int n_140), (8, .int r_133), (7, .int n1), (5, .int n_5), (0, .ref (hm 0)), (1, .int i), (2, .int k), (3, .int t), (4, .int n1)]) hx hb dX10_goesFrom_147 hl (k := 2) rfl (by rw [en_140]; rfl) (by decide) rfl (fun ls hl => ?_)
                      refine lv_goto (tgt := 25) hx hb dX10_goesFrom_150 (by decide) ?_
                      exact ih25_34 zisRefused_117 ztired_118 f_139 zworth_116 n_140 zatH_110 zatI_112 zatL_108 zatM_111 zatQ_113 zatT_109 zatW_107 zgoMinutes_115 zgoPace_114 p_123 p_124 (by omega) (by omega) (by omega) (by omega) _ _ _ hP hD hS (lv_sub hl [0, 3, 4, 5, 6, 7, 8] rfl)
                    · have gc_137 : n_135.toInt < n_136.toInt := i_nle (rfl : n_136.toInt = n_136.toInt) (rfl : n_135.toInt = n_135.toInt) c_137
                      refine lv_iload hx hb dX10_goesFrom_129 (lv_at hl 3 rfl) ?_
                      refine lv_aload_n hx hb dX10_goesFrom_131 rfl (lv_at hl 4 rfl) ?_
                      refine gt_MD_MD_goMinutes hx hb hts hown hK hP lwd_990 dX10_goesFrom_132 ?_
                      refine lv_iadd hx hb dX10_goesFrom_135 ?_
                      refine lv_topi (fun n_141 en_141 => ?_)
                      obtain rfl : n_135 = n_141 := en_135.trans en_141.symm
                      refine lv_goto (tgt := 146) hx hb dX10_goesFrom_136 (by decide) ?_
                      refine as_m_upNext (x := n_135) hx hb hK hP hD hS (i_in (rfl : r_133.toInt = r_133.toInt) (by omega) (by omega)) dX10_goesFrom_146 (fun f_142 ef_142 H locs hP hD hS => ?_)
                      obtain ⟨n_143, en_143⟩ : ∃ y : Int32, y = l_24 + 1 := ⟨_, rfl⟩
                      have tn_143 : n_143.toInt = l_24.toInt + 1 := i_add en_143 (rfl : l_24.toInt = l_24.toInt) (by decide : (1 : Int32).toInt = 1) (by omega) (by omega)
                      refine lv_iinc (v := n_143) (lv' := [(6, .int n_143), (8, .int r_133), (7, .int n1), (5, .int n_5), (0, .ref (hm 0)), (1, .int i), (2, .int k), (3, .int t), (4, .int n1)]) hx hb dX10_goesFrom_147 hl (k := 2) rfl (by rw [en_143]; rfl) (by decide) rfl (fun ls hl => ?_)
                      refine lv_goto (tgt := 25) hx hb dX10_goesFrom_150 (by decide) ?_
                      exact ih25_34 zisRefused_117 ztired_118 f_142 zworth_116 n_143 zatH_110 zatI_112 zatL_108 zatM_111 zatQ_113 zatT_109 zatW_107 zgoMinutes_115 zgoPace_114 p_123 p_124 (by omega) (by omega) (by omega) (by omega) _ _ _ hP hD hS (lv_sub hl [0, 3, 4, 5, 6, 7, 8] rfl)
                  · have gc_125 : r_106.toInt = 0 := i_eq (rfl : r_106.toInt = r_106.toInt) (by decide : (0 : Int32).toInt = 0) c_125
                    refine lv_goto (tgt := 147) hx hb dX10_goesFrom_87 (by decide) ?_
                    obtain ⟨n_144, en_144⟩ : ∃ y : Int32, y = l_24 + 1 := ⟨_, rfl⟩
                    have tn_144 : n_144.toInt = l_24.toInt + 1 := i_add en_144 (rfl : l_24.toInt = l_24.toInt) (by decide : (1 : Int32).toInt = 1) (by omega) (by omega)
                    refine lv_iinc (v := n_144) (lv' := [(6, .int n_144), (7, .int n1), (5, .int n_5), (0, .ref (hm 0)), (1, .int i), (2, .int k), (3, .int t), (4, .int n1)]) hx hb dX10_goesFrom_147 hl (k := 1) rfl (by rw [en_144]; rfl) (by decide) rfl (fun ls hl => ?_)
                    refine lv_goto (tgt := 25) hx hb dX10_goesFrom_150 (by decide) ?_
                    exact ih25_34 zisRefused_117 ztired_118 f_22 zworth_116 n_144 zatH_110 zatI_112 zatL_108 zatM_111 zatQ_113 zatT_109 zatW_107 zgoMinutes_115 zgoPace_114 p_123 p_124 (by omega) (by omega) (by omega) (by omega) _ _ _ hP hD hS (lv_sub hl [0, 2, 3, 4, 5, 6, 7] rfl)
    have k_145 : (0 : Int32).toInt = 0 := by decide
    exact L25_34 8589934592 f_m_isRefused f_m_tired f_m_upNext f_m_worth 0 v_atH v_atI v_atL v_atM v_atQ v_atT v_atW v_goMinutes v_goPace hr_m_isRefused hr_m_tired (by omega) (by omega) (by omega) (by omega) _ _ _ hP hD hS (lv_sub hl [0, 1, 2, 3, 4, 5, 6] rfl)
  · have gc_1 : i.toInt = 0 := i_eq (rfl : i.toInt = i.toInt) (by decide : (0 : Int32).toInt = 0) c_1
    refine lv_iconst (v := 0) hx hb dX10_goesFrom_4 (by decide) ?_
    refine lv_goto (tgt := 20) hx hb dX10_goesFrom_5 (by decide) ?_
    refine lv_istore (lv' := [(5, .int 0), (0, .ref (hm 0)), (1, .int i), (2, .int k), (3, .int t), (4, .int n1)]) hx hb dX10_goesFrom_20 hl (by decide) rfl (fun ls hl => ?_)
    refine lv_iconst (v := 0) hx hb dX10_goesFrom_22 (by decide) ?_
    refine lv_istore (lv' := [(6, .int 0), (5, .int 0), (0, .ref (hm 0)), (1, .int i), (2, .int k), (3, .int t), (4, .int n1)]) hx hb dX10_goesFrom_23 hl (by decide) rfl (fun ls hl => ?_)
    have L25_174 : ∀ (n : Nat) (f_160 : Nat → Int32) (f_161 : Nat → Int32) (f_162 : Nat → Int32) (f_163 : Nat → Int32) (l_164 : Int32) (w_165 : Int32) (w_166 : Int32) (w_167 : Int32) (w_168 : Int32) (w_169 : Int32) (w_170 : Int32) (w_171 : Int32) (w_172 : Int32) (w_173 : Int32), (rg (0) 1 f_160) → (rg (0) 5 f_161) → (0 ≤ l_164.toInt ∧ l_164.toInt ≤ 18) → (0 ≤ w_171.toInt ∧ w_171.toInt ≤ 5) → (0 ≤ w_173.toInt ∧ w_173.toInt ≤ 60) → 19 - l_164.toInt < n → ∀ (H : Heap) (locs : List Loc) (ls : Array Slot), va_P D vwCl (wMD cy hm v_taped v_walkers v_loads v_pieces v_changeCosts v_planned v_isMarch v_clauseMany v_place v_end v_bad v_clauses v_codes v_open v_stacked v_isOver v_isBehind w_171 w_167 w_170 w_165 w_168 w_166 w_169 v_packing v_packed w_173 w_172 v_spentAt v_ranChanges f_m_tape f_m_knee f_m_weight f_m_isLame f_m_loadWeight f_m_owner f_m_food f_m_miles f_m_slope f_m_clauseLetter f_m_sumFrom f_m_codeFrom f_m_codeTo f_m_code f_m_codeArg f_m_newLetter f_m_newSum f_m_newFrom f_m_newTo f_m_newCode f_m_newArg f_m_stack f_163 f_160 f_m_least f_m_packPounds f_m_packOwner f_m_room f_m_givenTo f_m_canBe f_m_setPounds f_m_plainTime f_m_muleTime f_m_planTo f_m_march f_161 f_m_ranMinutes f_m_tiredAhead f_m_isReached f_m_toEnd f_m_upTo f_162 f_m_byChanges f_m_bandPaces) H → va_D A (wMD cy hm v_taped v_walkers v_loads v_pieces v_changeCosts v_planned v_isMarch v_clauseMany v_place v_end v_bad v_clauses v_codes v_open v_stacked v_isOver v_isBehind w_171 w_167 w_170 w_165 w_168 w_166 w_169 v_packing v_packed w_173 w_172 v_spentAt v_ranChanges f_m_tape f_m_knee f_m_weight f_m_isLame f_m_loadWeight f_m_owner f_m_food f_m_miles f_m_slope f_m_clauseLetter f_m_sumFrom f_m_codeFrom f_m_codeTo f_m_code f_m_codeArg f_m_newLetter f_m_newSum f_m_newFrom f_m_newTo f_m_newCode f_m_newArg f_m_stack f_163 f_160 f_m_least f_m_packPounds f_m_packOwner f_m_room f_m_givenTo f_m_canBe f_m_setPounds f_m_plainTime f_m_muleTime f_m_planTo f_m_march f_161 f_m_ranMinutes f_m_tiredAhead f_m_isReached f_m_toEnd f_m_upTo f_162 f_m_byChanges f_m_bandPaces) → va_S A s.heap H locs → lv_has ls 9 [(6, .int l_164), (5, .int 0), (0, .ref (hm 0)), (1, .int i), (2, .int k), (3, .int t), (4, .int n1)] → W p l e (gRm 8) s m args below meth c H locs 0 0 Q (F0 m 25 ls []) := by
      intro n
      induction n with
      | zero => intro f_160 f_161 f_162 f_163 l_164 w_165 w_166 w_167 w_168 w_169 w_170 w_171 w_172 w_173 hL25_174_0 hL25_174_1 hL25_174_2 hL25_174_3 hL25_174_4 hm; exact absurd hm (by omega)
      | succ n ih25_174 =>
        intro f_160 f_161 f_162 f_163 l_164 w_165 w_166 w_167 w_168 w_169 w_170 w_171 w_172 w_173 hL25_174_0 hL25_174_1 hL25_174_2 hL25_174_3 hL25_174_4 hmL25_174 H locs ls hP hD hS hl
        refine lv_iload hx hb dX10_goesFrom_25 (lv_at hl 0 rfl) ?_
        refine lv_bipush (v := 18) hx hb dX10_goesFrom_27 (by decide) ?_
        refine lv_icmp_ge (tgt := 153) hx hb dX10_goesFrom_29 (by decide) (fun c_175 => ?_) (fun c_175 => ?_)
        · have gc_175 : 18 ≤ l_164.toInt := i_le (by decide : (18 : Int32).toInt = 18) (rfl : l_164.toInt = l_164.toInt) c_175
          exact hrt w_171 w_167 w_170 w_165 w_168 w_166 w_169 w_173 w_172 f_163 f_160 f_161 f_162 ⟨(by omega), (by omega), hL25_174_0, hL25_174_1⟩ hP hD hS dX10_goesFrom_153
        · have gc_175 : l_164.toInt < 18 := i_nle (by decide : (18 : Int32).toInt = 18) (rfl : l_164.toInt = l_164.toInt) c_175
          refine lv_iload_n hx hb dX10_goesFrom_32 rfl (lv_at hl 3 rfl) ?_
          refine lv_if_eq (tgt := 45) hx hb dX10_goesFrom_33 (by decide) (fun c_176 => ?_) (fun c_176 => ?_)
          · have gc_176 : i.toInt = 0 := i_eq (rfl : i.toInt = i.toInt) (by decide : (0 : Int32).toInt = 0) c_176
            refine lv_iload hx hb dX10_goesFrom_45 (lv_at hl 6 rfl) ?_
            refine lv_goto (tgt := 54) hx hb dX10_goesFrom_47 (by decide) ?_
            refine lv_istore (lv' := [(7, .int n1), (6, .int l_164), (5, .int 0), (0, .ref (hm 0)), (1, .int i), (2, .int k), (3, .int t), (4, .int n1)]) hx hb dX10_goesFrom_54 hl (by decide) rfl (fun ls hl => ?_)
            refine lv_aload_n hx hb dX10_goesFrom_56 rfl (lv_at hl 3 rfl) ?_
            refine lv_iload_n hx hb dX10_goesFrom_57 rfl (lv_at hl 6 rfl) ?_
            refine xv hD hS hA (xV (As := [.int t]) (rest := []) hx hb hml hown hts hK hP hD hS hA NT_ok hN hAe hl.1 ⟨Nat.le_refl _, Nat.le_refl _⟩ 0 rfl rfl rfl (c_X10_takesTired l D cy hm v_taped v_walkers v_loads v_pieces v_changeCosts v_planned v_isMarch v_clauseMany v_place v_end v_bad v_clauses v_codes v_open v_stacked v_isOver v_isBehind w_171 w_167 w_170 w_165 w_168 w_166 w_169 v_packing v_packed w_173 w_172 v_spentAt v_ranChanges f_m_tape f_m_knee f_m_weight f_m_isLame f_m_loadWeight f_m_owner f_m_food f_m_miles f_m_slope f_m_clauseLetter f_m_sumFrom f_m_codeFrom f_m_codeTo f_m_code f_m_codeArg f_m_newLetter f_m_newSum f_m_newFrom f_m_newTo f_m_newCode f_m_newArg f_m_stack f_163 f_160 f_m_least f_m_packPounds f_m_packOwner f_m_room f_m_givenTo f_m_canBe f_m_setPounds f_m_plainTime f_m_muleTime f_m_planTo f_m_march f_161 f_m_ranMinutes f_m_tiredAhead f_m_isReached f_m_toEnd f_m_upTo f_162 f_m_byChanges f_m_bandPaces H.size t hL25_174_1 (by omega)) (gi_V lwd_991 lwd_992 lwd_993 lwd_5 lwd_994) ⟨rfl, hd_X10_takesTired⟩ ⟨Nat.le_of_ble_eq_true rfl, Nat.le_of_ble_eq_true rfl⟩ rfl (Nat.le_of_ble_eq_true rfl) dX10_goesFrom_58) (fun u_177 H locs hw hP hD hS => ?_)
            obtain ⟨ztired_179, rfl⟩ : ∃ z, z = u_177 := ⟨_, rfl⟩
            try dsimp only at hw hP hD
            obtain ⟨p_180, p_181⟩ := hw
            refine lv_aload_n hx hb dX10_goesFrom_61 rfl (lv_at hl 3 rfl) ?_
            refine lv_iload hx hb dX10_goesFrom_62 (lv_at hl 1 rfl) ?_
            refine xi hD hS hA (xV (As := [.int l_164]) (rest := []) hx hb hml hown hts hK hP hD hS hA NT_ok hN hAe hl.1 ⟨Nat.le_refl _, Nat.le_refl _⟩ 0 rfl rfl rfl (c_X10_mayAct l D cy hm v_taped v_walkers v_loads v_pieces v_changeCosts v_planned v_isMarch v_clauseMany v_place v_end v_bad v_clauses v_codes v_open v_stacked v_isOver v_isBehind w_171 w_167 w_170 w_165 w_168 w_166 w_169 v_packing v_packed w_173 w_172 v_spentAt v_ranChanges f_m_tape f_m_knee f_m_weight f_m_isLame f_m_loadWeight f_m_owner f_m_food f_m_miles f_m_slope f_m_clauseLetter f_m_sumFrom f_m_codeFrom f_m_codeTo f_m_code f_m_codeArg f_m_newLetter f_m_newSum f_m_newFrom f_m_newTo f_m_newCode f_m_newArg f_m_stack f_163 f_160 f_m_least f_m_packPounds f_m_packOwner f_m_room f_m_givenTo f_m_canBe f_m_setPounds f_m_plainTime f_m_muleTime f_m_planTo f_m_march ztired_179 f_m_ranMinutes f_m_tiredAhead f_m_isReached f_m_toEnd f_m_upTo f_162 f_m_byChanges f_m_bandPaces H.size l_164) (gi_V lwd_1119 lwd_1120 lwd_1121 lwd_5 lwd_1122) ⟨rfl, hd_X10_mayAct⟩ ⟨Nat.le_of_ble_eq_true rfl, Nat.le_of_ble_eq_true rfl⟩ rfl (Nat.le_of_ble_eq_true rfl) dX10_goesFrom_64) (fun r_183 u_182 H locs hw hP hD hS => ?_)
            try dsimp only at hw hP hD
            obtain ⟨p_184, p_185⟩ := hw
            refine lv_if_eq (tgt := 147) hx hb dX10_goesFrom_67 (by decide) (fun c_186 => ?_) (fun c_186 => ?_)
            · have gc_186 : r_183.toInt = 0 := i_eq (rfl : r_183.toInt = r_183.toInt) (by decide : (0 : Int32).toInt = 0) c_186
              obtain ⟨n_187, en_187⟩ : ∃ y : Int32, y = l_164 + 1 := ⟨_, rfl⟩
              have tn_187 : n_187.toInt = l_164.toInt + 1 := i_add en_187 (rfl : l_164.toInt = l_164.toInt) (by decide : (1 : Int32).toInt = 1) (by omega) (by omega)
              refine lv_iinc (v := n_187) (lv' := [(6, .int n_187), (7, .int n1), (5, .int 0), (0, .ref (hm 0)), (1, .int i), (2, .int k), (3, .int t), (4, .int n1)]) hx hb dX10_goesFrom_147 hl (k := 1) rfl (by rw [en_187]; rfl) (by decide) rfl (fun ls hl => ?_)
              refine lv_goto (tgt := 25) hx hb dX10_goesFrom_150 (by decide) ?_
              exact ih25_174 f_160 ztired_179 f_162 f_163 n_187 w_165 w_166 w_167 w_168 w_169 w_170 w_171 w_172 w_173 hL25_174_0 p_181 (by omega) (by omega) (by omega) (by omega) _ _ _ hP hD hS (lv_sub hl [0, 2, 3, 4, 5, 6, 7] rfl)
            · have gc_186 : r_183.toInt ≠ 0 := i_ne (rfl : r_183.toInt = r_183.toInt) (by decide : (0 : Int32).toInt = 0) c_186
              refine lv_iload hx hb dX10_goesFrom_70 (lv_at hl 0 rfl) ?_
              refine lv_bipush (v := 10) hx hb dX10_goesFrom_72 (by decide) ?_
              refine lv_icmp_ge (tgt := 147) hx hb dX10_goesFrom_74 (by decide) (fun c_188 => ?_) (fun c_188 => ?_)
              · have gc_188 : 10 ≤ n1.toInt := i_le (by decide : (10 : Int32).toInt = 10) (rfl : n1.toInt = n1.toInt) c_188
                exact absurd gc_188 (by omega)
              · have gc_188 : n1.toInt < 10 := i_nle (by decide : (10 : Int32).toInt = 10) (rfl : n1.toInt = n1.toInt) c_188
                refine lv_aload_n hx hb dX10_goesFrom_77 rfl (lv_at hl 3 rfl) ?_
                refine lv_iload_n hx hb dX10_goesFrom_78 rfl (lv_at hl 4 rfl) ?_
                refine lv_iload hx hb dX10_goesFrom_79 (lv_at hl 1 rfl) ?_
                refine xi hD hS hA (xV (As := [.int i, .int l_164]) (rest := []) hx hb hml hown hts hK hP hD hS hA NT_ok hN hAe hl.1 ⟨Nat.le_refl _, Nat.le_refl _⟩ 0 rfl rfl rfl (c_X10_goesOver l D cy hm v_taped v_walkers v_loads v_pieces v_changeCosts v_planned v_isMarch v_clauseMany v_place v_end v_bad v_clauses v_codes v_open v_stacked v_isOver v_isBehind w_171 w_167 w_170 w_165 w_168 w_166 w_169 v_packing v_packed w_173 w_172 v_spentAt v_ranChanges f_m_tape f_m_knee f_m_weight f_m_isLame f_m_loadWeight f_m_owner f_m_food f_m_miles f_m_slope f_m_clauseLetter f_m_sumFrom f_m_codeFrom f_m_codeTo f_m_code f_m_codeArg f_m_newLetter f_m_newSum f_m_newFrom f_m_newTo f_m_newCode f_m_newArg f_m_stack f_163 f_160 f_m_least f_m_packPounds f_m_packOwner f_m_room f_m_givenTo f_m_canBe f_m_setPounds f_m_plainTime f_m_muleTime f_m_planTo f_m_march ztired_179 f_m_ranMinutes f_m_tiredAhead f_m_isReached f_m_toEnd f_m_upTo f_162 f_m_byChanges f_m_bandPaces H.size i l_164 (by omega) (by omega) (by omega) (by omega) (by omega) hr_m_weight hr_m_isLame hr_m_loadWeight hr_m_food hr_m_miles hL25_174_0 p_181 (by omega) (by omega) hwf) (gi_V lwd_995 lwd_996 lwd_997 lwd_5 lwd_998) ⟨rfl, hd_X10_goesOver⟩ ⟨Nat.le_of_ble_eq_true rfl, Nat.le_of_ble_eq_true rfl⟩ rfl (Nat.le_of_ble_eq_true rfl) dX10_goesFrom_81) (fun r_190 u_189 H locs hw hP hD hS => ?_)
                obtain ⟨zatW_191, zatL_192, zatT_193, zatH_194, zatM_195, zatI_196, zatQ_197, zgoPace_198, zgoMinutes_199, zworth_200, zisRefused_201, ztired_202⟩ := u_189
                try dsimp only at hw hP hD
                obtain ⟨p_203, p_204, p_205, p_206, p_207, p_208⟩ := hw
                refine lv_if_ne (tgt := 90) hx hb dX10_goesFrom_84 (by decide) (fun c_209 => ?_) (fun c_209 => ?_)
                · have gc_209 : r_190.toInt ≠ 0 := i_ne (rfl : r_190.toInt = r_190.toInt) (by decide : (0 : Int32).toInt = 0) c_209
                  refine lv_iload hx hb dX10_goesFrom_90 (lv_at hl 1 rfl) ?_
                  refine lv_bipush (v := 6) hx hb dX10_goesFrom_92 (by decide) ?_
                  refine lv_irem hx hb dX10_goesFrom_94 (by decide) ?_
                  refine lv_topi (fun n_210 en_210 => ?_)
                  have tn_210 : n_210.toInt = l_164.toInt % 6 := i_rem en_210 (rfl : l_164.toInt = l_164.toInt) (by decide : (6 : Int32).toInt = 6) (by omega) (by omega)
                  refine lv_aload_n hx hb dX10_goesFrom_95 rfl (lv_at hl 3 rfl) ?_
                  refine xi hD hS hA (xV (As := []) (rest := [.int n_210]) hx hb hml hown hts hK hP hD hS hA NT_ok hN hAe hl.1 ⟨Nat.le_refl _, Nat.le_refl _⟩ 0 rfl rfl rfl (c_X10_allTired l D cy hm v_taped v_walkers v_loads v_pieces v_changeCosts v_planned v_isMarch v_clauseMany v_place v_end v_bad v_clauses v_codes v_open v_stacked v_isOver v_isBehind zatW_191 zatL_192 zatT_193 zatH_194 zatM_195 zatI_196 zatQ_197 v_packing v_packed zgoPace_198 zgoMinutes_199 v_spentAt v_ranChanges f_m_tape f_m_knee f_m_weight f_m_isLame f_m_loadWeight f_m_owner f_m_food f_m_miles f_m_slope f_m_clauseLetter f_m_sumFrom f_m_codeFrom f_m_codeTo f_m_code f_m_codeArg f_m_newLetter f_m_newSum f_m_newFrom f_m_newTo f_m_newCode f_m_newArg f_m_stack zworth_200 zisRefused_201 f_m_least f_m_packPounds f_m_packOwner f_m_room f_m_givenTo f_m_canBe f_m_setPounds f_m_plainTime f_m_muleTime f_m_planTo f_m_march ztired_202 f_m_ranMinutes f_m_tiredAhead f_m_isReached f_m_toEnd f_m_upTo f_162 f_m_byChanges f_m_bandPaces H.size (by omega) p_208) (gi_V lwd_1016 lwd_1017 lwd_1018 lwd_5 lwd_1019) ⟨rfl, hd_X10_allTired⟩ ⟨Nat.le_of_ble_eq_true rfl, Nat.le_of_ble_eq_true rfl⟩ rfl (Nat.le_of_ble_eq_true rfl) dX10_goesFrom_96) (fun r_212 u_211 H locs hw hP hD hS => ?_)
                  try dsimp only at hw hP hD
                  obtain ⟨p_213, p_214, p_215⟩ := hw
                  refine lv_iload hx hb dX10_goesFrom_99 (lv_at hl 0 rfl) ?_
                  refine xi hD hS hA (xS (As := [.int n_210, .int r_212, .int n1]) (rest := []) hx hb hml hown hts hK hP hD hS hA NT_ok hN hAe hl.1 ⟨Nat.le_refl _, Nat.le_refl _⟩ (c_X10_cellOf l D cy hm v_taped v_walkers v_loads v_pieces v_changeCosts v_planned v_isMarch v_clauseMany v_place v_end v_bad v_clauses v_codes v_open v_stacked v_isOver v_isBehind zatW_191 zatL_192 zatT_193 zatH_194 zatM_195 zatI_196 zatQ_197 v_packing v_packed zgoPace_198 zgoMinutes_199 v_spentAt v_ranChanges f_m_tape f_m_knee f_m_weight f_m_isLame f_m_loadWeight f_m_owner f_m_food f_m_miles f_m_slope f_m_clauseLetter f_m_sumFrom f_m_codeFrom f_m_codeTo f_m_code f_m_codeArg f_m_newLetter f_m_newSum f_m_newFrom f_m_newTo f_m_newCode f_m_newArg f_m_stack zworth_200 zisRefused_201 f_m_least f_m_packPounds f_m_packOwner f_m_room f_m_givenTo f_m_canBe f_m_setPounds f_m_plainTime f_m_muleTime f_m_planTo f_m_march ztired_202 f_m_ranMinutes f_m_tiredAhead f_m_isReached f_m_toEnd f_m_upTo f_162 f_m_byChanges f_m_bandPaces H.size n_210 r_212 n1 (by omega) (by omega) (by omega)) (gi_S lwd_1147 lwd_1148 lwd_5 lwd_1149) hd_X10_cellOf ⟨Nat.le_of_ble_eq_true rfl, Nat.le_of_ble_eq_true rfl⟩ rfl (Nat.le_of_ble_eq_true rfl) dX10_goesFrom_101) (fun r_217 u_216 H locs hw hP hD hS => ?_)
                  try dsimp only at hw hP hD
                  have p_218 := hw
                  clear hw
                  refine lv_istore (lv' := [(8, .int r_217), (7, .int n1), (6, .int l_164), (5, .int 0), (0, .ref (hm 0)), (1, .int i), (2, .int k), (3, .int t), (4, .int n1)]) hx hb dX10_goesFrom_104 hl (by decide) rfl (fun ls hl => ?_)
                  refine lv_aload_n hx hb dX10_goesFrom_106 rfl (lv_at hl 4 rfl) ?_
                  refine gt_MD_MD_upNext hx hb hts hown hK hP lwd_199 dX10_goesFrom_107 ?_
                  refine lv_iload hx hb dX10_goesFrom_110 (lv_at hl 0 rfl) ?_
                  refine lv_iload hx hb dX10_goesFrom_112 (lv_at hl 3 rfl) ?_
                  refine lv_aload_n hx hb dX10_goesFrom_114 rfl (lv_at hl 4 rfl) ?_
                  refine gt_MD_MD_goMinutes hx hb hts hown hK hP lwd_990 dX10_goesFrom_115 ?_
                  refine lv_iadd hx hb dX10_goesFrom_118 ?_
                  have hb_219 := And.intro (i_bot zgoMinutes_199) (i_top zgoMinutes_199)
                  refine lv_topi (fun n_220 en_220 => ?_)
                  have tn_220 : n_220.toInt = 0 + zgoMinutes_199.toInt := i_add en_220 (by decide : (0 : Int32).toInt = 0) (rfl : zgoMinutes_199.toInt = zgoMinutes_199.toInt) (by omega) (by omega)
                  refine lv_aload_n hx hb dX10_goesFrom_119 rfl (lv_at hl 4 rfl) ?_
                  refine gt_MD_MD_upNext hx hb hts hown hK hP lwd_199 dX10_goesFrom_120 ?_
                  refine lv_iload hx hb dX10_goesFrom_123 (lv_at hl 0 rfl) ?_
                  refine al_m_upNext hx hb hK hP (i_in (rfl : r_217.toInt = r_217.toInt) (by omega) (by omega)) dX10_goesFrom_125 (fun n_221 en_221 => ?_)
                  refine lv_icmp_ge (tgt := 139) hx hb dX10_goesFrom_126 (by decide) (fun c_222 => ?_) (fun c_222 => ?_)
                  · have gc_222 : n_221.toInt ≤ 0 + zgoMinutes_199.toInt := i_le (rfl : n_221.toInt = n_221.toInt) tn_220 c_222
                    refine lv_aload_n hx hb dX10_goesFrom_139 rfl (lv_at hl 4 rfl) ?_
                    refine gt_MD_MD_upNext hx hb hts hown hK hP lwd_199 dX10_goesFrom_140 ?_
                    refine lv_iload hx hb dX10_goesFrom_143 (lv_at hl 0 rfl) ?_
                    refine al_m_upNext hx hb hK hP (i_in (rfl : r_217.toInt = r_217.toInt) (by omega) (by omega)) dX10_goesFrom_145 (fun n_223 en_223 => ?_)
                    obtain rfl : n_221 = n_223 := en_221.trans en_223.symm
                    refine as_m_upNext (x := n_221) hx hb hK hP hD hS (i_in (rfl : r_217.toInt = r_217.toInt) (by omega) (by omega)) dX10_goesFrom_146 (fun f_224 ef_224 H locs hP hD hS => ?_)
                    obtain ⟨n_225, en_225⟩ : ∃ y : Int32, y = l_164 + 1 := ⟨_, rfl⟩
                    have tn_225 : n_225.toInt = l_164.toInt + 1 := i_add en_225 (rfl : l_164.toInt = l_164.toInt) (by decide : (1 : Int32).toInt = 1) (by omega) (by omega)
                    refine lv_iinc (v := n_225) (lv' := [(6, .int n_225), (8, .int r_217), (7, .int n1), (5, .int 0), (0, .ref (hm 0)), (1, .int i), (2, .int k), (3, .int t), (4, .int n1)]) hx hb dX10_goesFrom_147 hl (k := 2) rfl (by rw [en_225]; rfl) (by decide) rfl (fun ls hl => ?_)
                    refine lv_goto (tgt := 25) hx hb dX10_goesFrom_150 (by decide) ?_
                    exact ih25_174 zisRefused_201 ztired_202 f_224 zworth_200 n_225 zatH_194 zatI_196 zatL_192 zatM_195 zatQ_197 zatT_193 zatW_191 zgoMinutes_199 zgoPace_198 p_207 p_208 (by omega) (by omega) (by omega) (by omega) _ _ _ hP hD hS (lv_sub hl [0, 3, 4, 5, 6, 7, 8] rfl)
                  · have gc_222 : 0 + zgoMinutes_199.toInt < n_221.toInt := i_nle (rfl : n_221.toInt = n_221.toInt) tn_220 c_222
                    refine lv_iload hx hb dX10_goesFrom_129 (lv_at hl 3 rfl) ?_
                    refine lv_aload_n hx hb dX10_goesFrom_131 rfl (lv_at hl 4 rfl) ?_
                    refine gt_MD_MD_goMinutes hx hb hts hown hK hP lwd_990 dX10_goesFrom_132 ?_
                    refine lv_iadd hx hb dX10_goesFrom_135 ?_
                    refine lv_topi (fun n_226 en_226 => ?_)
                    have tn_226 : n_226.toInt = 0 + zgoMinutes_199.toInt := i_add en_226 (by decide : (0 : Int32).toInt = 0) (rfl : zgoMinutes_199.toInt = zgoMinutes_199.toInt) (by omega) (by omega)
                    refine lv_goto (tgt := 146) hx hb dX10_goesFrom_136 (by decide) ?_
                    refine as_m_upNext (x := n_226) hx hb hK hP hD hS (i_in (rfl : r_217.toInt = r_217.toInt) (by omega) (by omega)) dX10_goesFrom_146 (fun f_227 ef_227 H locs hP hD hS => ?_)
                    obtain ⟨n_228, en_228⟩ : ∃ y : Int32, y = l_164 + 1 := ⟨_, rfl⟩
                    have tn_228 : n_228.toInt = l_164.toInt + 1 := i_add en_228 (rfl : l_164.toInt = l_164.toInt) (by decide : (1 : Int32).toInt = 1) (by omega) (by omega)
                    refine lv_iinc (v := n_228) (lv' := [(6, .int n_228), (8, .int r_217), (7, .int n1), (5, .int 0), (0, .ref (hm 0)), (1, .int i), (2, .int k), (3, .int t), (4, .int n1)]) hx hb dX10_goesFrom_147 hl (k := 2) rfl (by rw [en_228]; rfl) (by decide) rfl (fun ls hl => ?_)
                    refine lv_goto (tgt := 25) hx hb dX10_goesFrom_150 (by decide) ?_
                    exact ih25_174 zisRefused_201 ztired_202 f_227 zworth_200 n_228 zatH_194 zatI_196 zatL_192 zatM_195 zatQ_197 zatT_193 zatW_191 zgoMinutes_199 zgoPace_198 p_207 p_208 (by omega) (by omega) (by omega) (by omega) _ _ _ hP hD hS (lv_sub hl [0, 3, 4, 5, 6, 7, 8] rfl)
                · have gc_209 : r_190.toInt = 0 := i_eq (rfl : r_190.toInt = r_190.toInt) (by decide : (0 : Int32).toInt = 0) c_209
                  refine lv_goto (tgt := 147) hx hb dX10_goesFrom_87 (by decide) ?_
                  obtain ⟨n_229, en_229⟩ : ∃ y : Int32, y = l_164 + 1 := ⟨_, rfl⟩
                  have tn_229 : n_229.toInt = l_164.toInt + 1 := i_add en_229 (rfl : l_164.toInt = l_164.toInt) (by decide : (1 : Int32).toInt = 1) (by omega) (by omega)
                  refine lv_iinc (v := n_229) (lv' := [(6, .int n_229), (7, .int n1), (5, .int 0), (0, .ref (hm 0)), (1, .int i), (2, .int k), (3, .int t), (4, .int n1)]) hx hb dX10_goesFrom_147 hl (k := 1) rfl (by rw [en_229]; rfl) (by decide) rfl (fun ls hl => ?_)
                  refine lv_goto (tgt := 25) hx hb dX10_goesFrom_150 (by decide) ?_
                  exact ih25_174 zisRefused_201 ztired_202 f_162 zworth_200 n_229 zatH_194 zatI_196 zatL_192 zatM_195 zatQ_197 zatT_193 zatW_191 zgoMinutes_199 zgoPace_198 p_207 p_208 (by omega) (by omega) (by omega) (by omega) _ _ _ hP hD hS (lv_sub hl [0, 2, 3, 4, 5, 6, 7] rfl)
          · have gc_176 : i.toInt ≠ 0 := i_ne (rfl : i.toInt = i.toInt) (by decide : (0 : Int32).toInt = 0) c_176
            exact absurd gc_176 (by omega)
    have k_230 : (0 : Int32).toInt = 0 := by decide
    exact L25_174 8589934592 f_m_isRefused f_m_tired f_m_upNext f_m_worth 0 v_atH v_atI v_atL v_atM v_atQ v_atT v_atW v_goMinutes v_goPace hr_m_isRefused hr_m_tired (by omega) (by omega) (by omega) (by omega) _ _ _ hP hD hS (lv_sub hl [0, 1, 2, 3, 4, 5, 6] rfl)
set_option maxHeartbeats 16000000 in
set_option maxRecDepth 100000 in
theorem c_X10_laysChanges (l : Launch) (D : va_G) (cy : Nat → ClassId) (hm : Nat → Nat) (v_taped v_walkers v_loads v_pieces v_changeCosts v_planned v_isMarch v_clauseMany v_place v_end v_bad v_clauses v_codes v_open v_stacked v_isOver v_isBehind v_atW v_atL v_atT v_atH v_atM v_atI v_atQ v_packing v_packed v_goPace v_goMinutes v_spentAt v_ranChanges : Int32) (f_m_tape f_m_knee f_m_weight f_m_isLame f_m_loadWeight f_m_owner f_m_food f_m_miles f_m_slope f_m_clauseLetter f_m_sumFrom f_m_codeFrom f_m_codeTo f_m_code f_m_codeArg f_m_newLetter f_m_newSum f_m_newFrom f_m_newTo f_m_newCode f_m_newArg f_m_stack f_m_worth f_m_isRefused f_m_least f_m_packPounds f_m_packOwner f_m_room f_m_givenTo f_m_canBe f_m_setPounds f_m_plainTime f_m_muleTime f_m_planTo f_m_march f_m_tired f_m_ranMinutes f_m_tiredAhead f_m_isReached f_m_toEnd f_m_upTo f_m_upNext f_m_byChanges f_m_bandPaces : Nat → Int32) (sz : Nat) (hb_v_walkers : 0 ≤ v_walkers.toInt ∧ v_walkers.toInt ≤ 6) (hb_v_loads : 0 ≤ v_loads.toInt ∧ v_loads.toInt ≤ 9) (hb_v_pieces : 0 ≤ v_pieces.toInt ∧ v_pieces.toInt ≤ 10) (hb_v_clauseMany : 0 ≤ v_clauseMany.toInt ∧ v_clauseMany.toInt ≤ 14) (hb_v_atW : 0 ≤ v_atW.toInt ∧ v_atW.toInt ≤ 5) (hb_v_goPace : 0 ≤ v_goPace.toInt ∧ v_goPace.toInt ≤ 60) (hr_m_weight : rg (0) 250 f_m_weight) (hr_m_isLame : rg (0) 1 f_m_isLame) (hr_m_loadWeight : rg (0) 120 f_m_loadWeight) (hr_m_food : rg (0) 20 f_m_food) (hr_m_miles : rg (0) 20 f_m_miles) (hr_m_isRefused : rg (0) 1 f_m_isRefused) (hr_m_tired : rg (0) 5 f_m_tired) (hwf : wfC v_clauseMany f_m_sumFrom f_m_codeFrom f_m_codeTo f_m_code) (hw4 : v_walkers.toInt ≤ 4) : gMv l yX10_laysChanges cX10_laysChanges 3 9 [.ref (hm 0)] D cy (wMD cy hm v_taped v_walkers v_loads v_pieces v_changeCosts v_planned v_isMarch v_clauseMany v_place v_end v_bad v_clauses v_codes v_open v_stacked v_isOver v_isBehind v_atW v_atL v_atT v_atH v_atM v_atI v_atQ v_packing v_packed v_goPace v_goMinutes v_spentAt v_ranChanges f_m_tape f_m_knee f_m_weight f_m_isLame f_m_loadWeight f_m_owner f_m_food f_m_miles f_m_slope f_m_clauseLetter f_m_sumFrom f_m_codeFrom f_m_codeTo f_m_code f_m_codeArg f_m_newLetter f_m_newSum f_m_newFrom f_m_newTo f_m_newCode f_m_newArg f_m_stack f_m_worth f_m_isRefused f_m_least f_m_packPounds f_m_packOwner f_m_room f_m_givenTo f_m_canBe f_m_setPounds f_m_plainTime f_m_muleTime f_m_planTo f_m_march f_m_tired f_m_ranMinutes f_m_tiredAhead f_m_isReached f_m_toEnd f_m_upTo f_m_upNext f_m_byChanges f_m_bandPaces) NT sz (fun (u : Int32 × Int32 × Int32 × Int32 × Int32 × Int32 × Int32 × Int32 × Int32 × (Nat → Int32) × (Nat → Int32) × (Nat → Int32) × (Nat → Int32) × (Nat → Int32) × (Nat → Int32)) => (0 ≤ (u.1).toInt ∧ (u.1).toInt ≤ 5) ∧ (0 ≤ (u.2.2.2.2.2.2.2.1).toInt ∧ (u.2.2.2.2.2.2.2.1).toInt ≤ 60) ∧ (rg (0) 1 (u.2.2.2.2.2.2.2.2.2.2.1)) ∧ (rg (0) 5 (u.2.2.2.2.2.2.2.2.2.2.2.1))) (fun u => wMD cy hm v_taped v_walkers v_loads v_pieces v_changeCosts v_planned v_isMarch v_clauseMany v_place v_end v_bad v_clauses v_codes v_open v_stacked v_isOver v_isBehind (u.1) (u.2.1) (u.2.2.1) (u.2.2.2.1) (u.2.2.2.2.1) (u.2.2.2.2.2.1) (u.2.2.2.2.2.2.1) v_packing v_packed (u.2.2.2.2.2.2.2.1) (u.2.2.2.2.2.2.2.2.1) v_spentAt v_ranChanges f_m_tape f_m_knee f_m_weight f_m_isLame f_m_loadWeight f_m_owner f_m_food f_m_miles f_m_slope f_m_clauseLetter f_m_sumFrom f_m_codeFrom f_m_codeTo f_m_code f_m_codeArg f_m_newLetter f_m_newSum f_m_newFrom f_m_newTo f_m_newCode f_m_newArg f_m_stack (u.2.2.2.2.2.2.2.2.2.1) (u.2.2.2.2.2.2.2.2.2.2.1) f_m_least f_m_packPounds f_m_packOwner f_m_room f_m_givenTo f_m_canBe f_m_setPounds f_m_plainTime f_m_muleTime f_m_planTo f_m_march (u.2.2.2.2.2.2.2.2.2.2.2.1) f_m_ranMinutes f_m_tiredAhead f_m_isReached f_m_toEnd (u.2.2.2.2.2.2.2.2.2.2.2.2.1) (u.2.2.2.2.2.2.2.2.2.2.2.2.2.1) (u.2.2.2.2.2.2.2.2.2.2.2.2.2.2) f_m_bandPaces) := by
  refine gMv_in (by decide) (Nat.le_of_ble_eq_true rfl) ?_
  intro p e s m args below meth c A ls Q hx hb hml hts hown hsz hP hK hD hN hAe hA hS hl hret
  subst hsz
  have hl : lv_has ls 3 [(0, .ref (hm 0))] := hl
  have hrt := fun (v_atW' : Int32) (v_atL' : Int32) (v_atT' : Int32) (v_atH' : Int32) (v_atM' : Int32) (v_atI' : Int32) (v_atQ' : Int32) (v_goPace' : Int32) (v_goMinutes' : Int32) (f_m_worth' : Nat → Int32) (f_m_isRefused' : Nat → Int32) (f_m_tired' : Nat → Int32) (f_m_upTo' : Nat → Int32) (f_m_upNext' : Nat → Int32) (f_m_byChanges' : Nat → Int32) (hp : (0 ≤ v_atW'.toInt ∧ v_atW'.toInt ≤ 5) ∧ (0 ≤ v_goPace'.toInt ∧ v_goPace'.toInt ≤ 60) ∧ (rg (0) 1 f_m_isRefused') ∧ (rg (0) 5 f_m_tired')) {H : Heap} {locs : List Loc} {pc : Nat} {ls : Array Slot} => hret (v_atW', v_atL', v_atT', v_atH', v_atM', v_atI', v_atQ', v_goPace', v_goMinutes', f_m_worth', f_m_isRefused', f_m_tired', f_m_upTo', f_m_upNext', f_m_byChanges') (H := H) (locs := locs) (pc := pc) (ls := ls) hp
  clear hret
  refine lv_iconst (v := 0) hx hb dX10_laysChanges_0 (by decide) ?_
  refine lv_istore_n (lv' := [(1, .int 0), (0, .ref (hm 0))]) hx hb dX10_laysChanges_1 rfl hl (by decide) rfl (fun ls hl => ?_)
  have L2_31 : ∀ (n : Nat) (f_16 : Nat → Int32) (f_17 : Nat → Int32) (f_18 : Nat → Int32) (f_19 : Nat → Int32) (f_20 : Nat → Int32) (l_21 : Int32) (w_22 : Int32) (w_23 : Int32) (w_24 : Int32) (w_25 : Int32) (w_26 : Int32) (w_27 : Int32) (w_28 : Int32) (w_29 : Int32) (w_30 : Int32), (rg (0) 1 f_16) → (rg (0) 5 f_17) → (0 ≤ l_21.toInt ∧ l_21.toInt ≤ 10) → (0 ≤ w_28.toInt ∧ w_28.toInt ≤ 5) → (0 ≤ w_30.toInt ∧ w_30.toInt ≤ 60) → 11 - l_21.toInt < n → ∀ (H : Heap) (locs : List Loc) (ls : Array Slot), va_P D vwCl (wMD cy hm v_taped v_walkers v_loads v_pieces v_changeCosts v_planned v_isMarch v_clauseMany v_place v_end v_bad v_clauses v_codes v_open v_stacked v_isOver v_isBehind w_28 w_24 w_27 w_22 w_25 w_23 w_26 v_packing v_packed w_30 w_29 v_spentAt v_ranChanges f_m_tape f_m_knee f_m_weight f_m_isLame f_m_loadWeight f_m_owner f_m_food f_m_miles f_m_slope f_m_clauseLetter f_m_sumFrom f_m_codeFrom f_m_codeTo f_m_code f_m_codeArg f_m_newLetter f_m_newSum f_m_newFrom f_m_newTo f_m_newCode f_m_newArg f_m_stack f_20 f_16 f_m_least f_m_packPounds f_m_packOwner f_m_room f_m_givenTo f_m_canBe f_m_setPounds f_m_plainTime f_m_muleTime f_m_planTo f_m_march f_17 f_m_ranMinutes f_m_tiredAhead f_m_isReached f_m_toEnd f_19 f_18 f_m_byChanges f_m_bandPaces) H → va_D A (wMD cy hm v_taped v_walkers v_loads v_pieces v_changeCosts v_planned v_isMarch v_clauseMany v_place v_end v_bad v_clauses v_codes v_open v_stacked v_isOver v_isBehind w_28 w_24 w_27 w_22 w_25 w_23 w_26 v_packing v_packed w_30 w_29 v_spentAt v_ranChanges f_m_tape f_m_knee f_m_weight f_m_isLame f_m_loadWeight f_m_owner f_m_food f_m_miles f_m_slope f_m_clauseLetter f_m_sumFrom f_m_codeFrom f_m_codeTo f_m_code f_m_codeArg f_m_newLetter f_m_newSum f_m_newFrom f_m_newTo f_m_newCode f_m_newArg f_m_stack f_20 f_16 f_m_least f_m_packPounds f_m_packOwner f_m_room f_m_givenTo f_m_canBe f_m_setPounds f_m_plainTime f_m_muleTime f_m_planTo f_m_march f_17 f_m_ranMinutes f_m_tiredAhead f_m_isReached f_m_toEnd f_19 f_18 f_m_byChanges f_m_bandPaces) → va_S A s.heap H locs → lv_has ls 3 [(1, .int l_21), (0, .ref (hm 0))] → W p l e (gRm 9) s m args below meth c H locs 0 0 Q (F0 m 2 ls []) := by
    intro n
    induction n with
    | zero => intro f_16 f_17 f_18 f_19 f_20 l_21 w_22 w_23 w_24 w_25 w_26 w_27 w_28 w_29 w_30 hL2_31_0 hL2_31_1 hL2_31_2 hL2_31_3 hL2_31_4 hm; exact absurd hm (by omega)
    | succ n ih2_31 =>
      intro f_16 f_17 f_18 f_19 f_20 l_21 w_22 w_23 w_24 w_25 w_26 w_27 w_28 w_29 w_30 hL2_31_0 hL2_31_1 hL2_31_2 hL2_31_3 hL2_31_4 hmL2_31 H locs ls hP hD hS hl
      refine lv_iload_n hx hb dX10_laysChanges_2 rfl (lv_at hl 0 rfl) ?_
      refine lv_aload_n hx hb dX10_laysChanges_3 rfl (lv_at hl 1 rfl) ?_
      refine gt_MD_MD_pieces hx hb hts hown hK hP lwd_265 dX10_laysChanges_4 ?_
      refine lv_icmp_ge (tgt := 132) hx hb dX10_laysChanges_7 (by decide) (fun c_32 => ?_) (fun c_32 => ?_)
      · have gc_32 : v_pieces.toInt ≤ l_21.toInt := i_le (rfl : v_pieces.toInt = v_pieces.toInt) (rfl : l_21.toInt = l_21.toInt) c_32
        refine lv_iconst (v := 0) hx hb dX10_laysChanges_132 (by decide) ?_
        refine lv_istore_n (lv' := [(1, .int 0), (0, .ref (hm 0))]) hx hb dX10_laysChanges_133 rfl hl (by decide) rfl (fun ls hl => ?_)
        have L134_37 : ∀ (n : Nat) (f_35 : Nat → Int32) (l_36 : Int32), (0 ≤ l_36.toInt ∧ l_36.toInt ≤ 10) → 11 - l_36.toInt < n → ∀ (H : Heap) (locs : List Loc) (ls : Array Slot), va_P D vwCl (wMD cy hm v_taped v_walkers v_loads v_pieces v_changeCosts v_planned v_isMarch v_clauseMany v_place v_end v_bad v_clauses v_codes v_open v_stacked v_isOver v_isBehind w_28 w_24 w_27 w_22 w_25 w_23 w_26 v_packing v_packed w_30 w_29 v_spentAt v_ranChanges f_m_tape f_m_knee f_m_weight f_m_isLame f_m_loadWeight f_m_owner f_m_food f_m_miles f_m_slope f_m_clauseLetter f_m_sumFrom f_m_codeFrom f_m_codeTo f_m_code f_m_codeArg f_m_newLetter f_m_newSum f_m_newFrom f_m_newTo f_m_newCode f_m_newArg f_m_stack f_20 f_16 f_m_least f_m_packPounds f_m_packOwner f_m_room f_m_givenTo f_m_canBe f_m_setPounds f_m_plainTime f_m_muleTime f_m_planTo f_m_march f_17 f_m_ranMinutes f_m_tiredAhead f_m_isReached f_m_toEnd f_19 f_18 f_35 f_m_bandPaces) H → va_D A (wMD cy hm v_taped v_walkers v_loads v_pieces v_changeCosts v_planned v_isMarch v_clauseMany v_place v_end v_bad v_clauses v_codes v_open v_stacked v_isOver v_isBehind w_28 w_24 w_27 w_22 w_25 w_23 w_26 v_packing v_packed w_30 w_29 v_spentAt v_ranChanges f_m_tape f_m_knee f_m_weight f_m_isLame f_m_loadWeight f_m_owner f_m_food f_m_miles f_m_slope f_m_clauseLetter f_m_sumFrom f_m_codeFrom f_m_codeTo f_m_code f_m_codeArg f_m_newLetter f_m_newSum f_m_newFrom f_m_newTo f_m_newCode f_m_newArg f_m_stack f_20 f_16 f_m_least f_m_packPounds f_m_packOwner f_m_room f_m_givenTo f_m_canBe f_m_setPounds f_m_plainTime f_m_muleTime f_m_planTo f_m_march f_17 f_m_ranMinutes f_m_tiredAhead f_m_isReached f_m_toEnd f_19 f_18 f_35 f_m_bandPaces) → va_S A s.heap H locs → lv_has ls 3 [(1, .int l_36), (0, .ref (hm 0))] → W p l e (gRm 9) s m args below meth c H locs 0 0 Q (F0 m 134 ls []) := by
          intro n
          induction n with
          | zero => intro f_35 l_36 hL134_37_0 hm; exact absurd hm (by omega)
          | succ n ih134_37 =>
            intro f_35 l_36 hL134_37_0 hmL134_37 H locs ls hP hD hS hl
            refine lv_iload_n hx hb dX10_laysChanges_134 rfl (lv_at hl 0 rfl) ?_
            refine lv_bipush (v := 10) hx hb dX10_laysChanges_135 (by decide) ?_
            refine lv_icmp_ge (tgt := 155) hx hb dX10_laysChanges_137 (by decide) (fun c_38 => ?_) (fun c_38 => ?_)
            · have gc_38 : 10 ≤ l_36.toInt := i_le (by decide : (10 : Int32).toInt = 10) (rfl : l_36.toInt = l_36.toInt) c_38
              refine lv_iconst (v := 0) hx hb dX10_laysChanges_155 (by decide) ?_
              refine lv_istore_n (lv' := [(1, .int 0), (0, .ref (hm 0))]) hx hb dX10_laysChanges_156 rfl hl (by decide) rfl (fun ls hl => ?_)
              have L157_43 : ∀ (n : Nat) (f_41 : Nat → Int32) (l_42 : Int32), (0 ≤ l_42.toInt ∧ l_42.toInt ≤ 77760) → 77761 - l_42.toInt < n → ∀ (H : Heap) (locs : List Loc) (ls : Array Slot), va_P D vwCl (wMD cy hm v_taped v_walkers v_loads v_pieces v_changeCosts v_planned v_isMarch v_clauseMany v_place v_end v_bad v_clauses v_codes v_open v_stacked v_isOver v_isBehind w_28 w_24 w_27 w_22 w_25 w_23 w_26 v_packing v_packed w_30 w_29 v_spentAt v_ranChanges f_m_tape f_m_knee f_m_weight f_m_isLame f_m_loadWeight f_m_owner f_m_food f_m_miles f_m_slope f_m_clauseLetter f_m_sumFrom f_m_codeFrom f_m_codeTo f_m_code f_m_codeArg f_m_newLetter f_m_newSum f_m_newFrom f_m_newTo f_m_newCode f_m_newArg f_m_stack f_20 f_16 f_m_least f_m_packPounds f_m_packOwner f_m_room f_m_givenTo f_m_canBe f_m_setPounds f_m_plainTime f_m_muleTime f_m_planTo f_m_march f_17 f_m_ranMinutes f_m_tiredAhead f_m_isReached f_m_toEnd f_19 f_18 f_41 f_m_bandPaces) H → va_D A (wMD cy hm v_taped v_walkers v_loads v_pieces v_changeCosts v_planned v_isMarch v_clauseMany v_place v_end v_bad v_clauses v_codes v_open v_stacked v_isOver v_isBehind w_28 w_24 w_27 w_22 w_25 w_23 w_26 v_packing v_packed w_30 w_29 v_spentAt v_ranChanges f_m_tape f_m_knee f_m_weight f_m_isLame f_m_loadWeight f_m_owner f_m_food f_m_miles f_m_slope f_m_clauseLetter f_m_sumFrom f_m_codeFrom f_m_codeTo f_m_code f_m_codeArg f_m_newLetter f_m_newSum f_m_newFrom f_m_newTo f_m_newCode f_m_newArg f_m_stack f_20 f_16 f_m_least f_m_packPounds f_m_packOwner f_m_room f_m_givenTo f_m_canBe f_m_setPounds f_m_plainTime f_m_muleTime f_m_planTo f_m_march f_17 f_m_ranMinutes f_m_tiredAhead f_m_isReached f_m_toEnd f_19 f_18 f_41 f_m_bandPaces) → va_S A s.heap H locs → lv_has ls 3 [(1, .int l_42), (0, .ref (hm 0))] → W p l e (gRm 9) s m args below meth c H locs 0 0 Q (F0 m 157 ls []) := by
                intro n
                induction n with
                | zero => intro f_41 l_42 hL157_43_0 hm; exact absurd hm (by omega)
                | succ n ih157_43 =>
                  intro f_41 l_42 hL157_43_0 hmL157_43 H locs ls hP hD hS hl
                  refine lv_iload_n hx hb dX10_laysChanges_157 rfl (lv_at hl 0 rfl) ?_
                  refine lv_ldc hx hb hown (hts _ lwd_197) dX10_laysChanges_158 ?_
                  refine lv_icmp_ge (tgt := 214) hx hb dX10_laysChanges_160 (by decide) (fun c_44 => ?_) (fun c_44 => ?_)
                  · have gc_44 : 77760 ≤ l_42.toInt := i_le (by decide : (77760 : Int32).toInt = 77760) (rfl : l_42.toInt = l_42.toInt) c_44
                    exact hrt w_28 w_24 w_27 w_22 w_25 w_23 w_26 w_30 w_29 f_20 f_16 f_17 f_19 f_18 f_41 ⟨(by omega), (by omega), hL2_31_0, hL2_31_1⟩ hP hD hS dX10_laysChanges_214
                  · have gc_44 : l_42.toInt < 77760 := i_nle (by decide : (77760 : Int32).toInt = 77760) (rfl : l_42.toInt = l_42.toInt) c_44
                    refine lv_aload_n hx hb dX10_laysChanges_163 rfl (lv_at hl 1 rfl) ?_
                    refine gt_MD_MD_byChanges hx hb hts hown hK hP lwd_200 dX10_laysChanges_164 ?_
                    refine lv_iload_n hx hb dX10_laysChanges_167 rfl (lv_at hl 0 rfl) ?_
                    refine lv_bipush (v := 10) hx hb dX10_laysChanges_168 (by decide) ?_
                    refine lv_irem hx hb dX10_laysChanges_170 (by decide) ?_
                    refine lv_topi (fun n_45 en_45 => ?_)
                    have tn_45 : n_45.toInt = l_42.toInt % 10 := i_rem en_45 (rfl : l_42.toInt = l_42.toInt) (by decide : (10 : Int32).toInt = 10) (by omega) (by omega)
                    refine lv_aload_n hx hb dX10_laysChanges_171 rfl (lv_at hl 1 rfl) ?_
                    refine gt_MD_MD_upTo hx hb hts hown hK hP lwd_198 dX10_laysChanges_172 ?_
                    refine lv_iload_n hx hb dX10_laysChanges_175 rfl (lv_at hl 0 rfl) ?_
                    refine al_m_upTo hx hb hK hP (i_in (rfl : l_42.toInt = l_42.toInt) (by omega) (by omega)) dX10_laysChanges_176 (fun n_46 en_46 => ?_)
                    refine lv_aload_n hx hb dX10_laysChanges_177 rfl (lv_at hl 1 rfl) ?_
                    refine gt_MD_MD_byChanges hx hb hts hown hK hP lwd_200 dX10_laysChanges_178 ?_
                    refine lv_iload_n hx hb dX10_laysChanges_181 rfl (lv_at hl 0 rfl) ?_
                    refine lv_bipush (v := 10) hx hb dX10_laysChanges_182 (by decide) ?_
                    refine lv_irem hx hb dX10_laysChanges_184 (by decide) ?_
                    refine lv_topi (fun n_47 en_47 => ?_)
                    have tn_47 : n_47.toInt = l_42.toInt % 10 := i_rem en_47 (rfl : l_42.toInt = l_42.toInt) (by decide : (10 : Int32).toInt = 10) (by omega) (by omega)
                    refine al_m_byChanges hx hb hK hP (i_in tn_47 (by omega) (by omega)) dX10_laysChanges_185 (fun n_48 en_48 => ?_)
                    refine lv_icmp_ge (tgt := 198) hx hb dX10_laysChanges_186 (by decide) (fun c_49 => ?_) (fun c_49 => ?_)
                    · have gc_49 : n_48.toInt ≤ n_46.toInt := i_le (rfl : n_48.toInt = n_48.toInt) (rfl : n_46.toInt = n_46.toInt) c_49
                      refine lv_aload_n hx hb dX10_laysChanges_198 rfl (lv_at hl 1 rfl) ?_
                      refine gt_MD_MD_byChanges hx hb hts hown hK hP lwd_200 dX10_laysChanges_199 ?_
                      refine lv_iload_n hx hb dX10_laysChanges_202 rfl (lv_at hl 0 rfl) ?_
                      refine lv_bipush (v := 10) hx hb dX10_laysChanges_203 (by decide) ?_
                      refine lv_irem hx hb dX10_laysChanges_205 (by decide) ?_
                      refine lv_topi (fun n_50 en_50 => ?_)
                      have tn_50 : n_50.toInt = l_42.toInt % 10 := i_rem en_50 (rfl : l_42.toInt = l_42.toInt) (by decide : (10 : Int32).toInt = 10) (by omega) (by omega)
                      refine al_m_byChanges hx hb hK hP (i_in tn_50 (by omega) (by omega)) dX10_laysChanges_206 (fun n_51 en_51 => ?_)
                      refine as_m_byChanges (x := n_51) hx hb hK hP hD hS (i_in tn_45 (by omega) (by omega)) dX10_laysChanges_207 (fun f_52 ef_52 H locs hP hD hS => ?_)
                      obtain ⟨n_53, en_53⟩ : ∃ y : Int32, y = l_42 + 1 := ⟨_, rfl⟩
                      have tn_53 : n_53.toInt = l_42.toInt + 1 := i_add en_53 (rfl : l_42.toInt = l_42.toInt) (by decide : (1 : Int32).toInt = 1) (by omega) (by omega)
                      refine lv_iinc (v := n_53) (lv' := [(1, .int n_53), (0, .ref (hm 0))]) hx hb dX10_laysChanges_208 hl (k := 0) rfl (by rw [en_53]; rfl) (by decide) rfl (fun ls hl => ?_)
                      refine lv_goto (tgt := 157) hx hb dX10_laysChanges_211 (by decide) ?_
                      exact ih157_43 f_52 n_53 (by omega) (by omega) _ _ _ hP hD hS (lv_sub hl [0, 1] rfl)
                    · have gc_49 : n_46.toInt < n_48.toInt := i_nle (rfl : n_48.toInt = n_48.toInt) (rfl : n_46.toInt = n_46.toInt) c_49
                      refine lv_aload_n hx hb dX10_laysChanges_189 rfl (lv_at hl 1 rfl) ?_
                      refine gt_MD_MD_upTo hx hb hts hown hK hP lwd_198 dX10_laysChanges_190 ?_
                      refine lv_iload_n hx hb dX10_laysChanges_193 rfl (lv_at hl 0 rfl) ?_
                      refine al_m_upTo hx hb hK hP (i_in (rfl : l_42.toInt = l_42.toInt) (by omega) (by omega)) dX10_laysChanges_194 (fun n_54 en_54 => ?_)
                      obtain rfl : n_46 = n_54 := en_46.trans en_54.symm
                      refine lv_goto (tgt := 207) hx hb dX10_laysChanges_195 (by decide) ?_
                      refine as_m_byChanges (x := n_46) hx hb hK hP hD hS (i_in tn_45 (by omega) (by omega)) dX10_laysChanges_207 (fun f_55 ef_55 H locs hP hD hS => ?_)
                      obtain ⟨n_56, en_56⟩ : ∃ y : Int32, y = l_42 + 1 := ⟨_, rfl⟩
                      have tn_56 : n_56.toInt = l_42.toInt + 1 := i_add en_56 (rfl : l_42.toInt = l_42.toInt) (by decide : (1 : Int32).toInt = 1) (by omega) (by omega)
                      refine lv_iinc (v := n_56) (lv' := [(1, .int n_56), (0, .ref (hm 0))]) hx hb dX10_laysChanges_208 hl (k := 0) rfl (by rw [en_56]; rfl) (by decide) rfl (fun ls hl => ?_)
                      refine lv_goto (tgt := 157) hx hb dX10_laysChanges_211 (by decide) ?_
                      exact ih157_43 f_55 n_56 (by omega) (by omega) _ _ _ hP hD hS (lv_sub hl [0, 1] rfl)
              have k_57 : (0 : Int32).toInt = 0 := by decide
              exact L157_43 8589934592 f_35 0 (by omega) (by omega) _ _ _ hP hD hS (lv_sub hl [0, 1] rfl)
            · have gc_38 : l_36.toInt < 10 := i_nle (by decide : (10 : Int32).toInt = 10) (rfl : l_36.toInt = l_36.toInt) c_38
              refine lv_aload_n hx hb dX10_laysChanges_140 rfl (lv_at hl 1 rfl) ?_
              refine gt_MD_MD_byChanges hx hb hts hown hK hP lwd_200 dX10_laysChanges_141 ?_
              refine lv_iload_n hx hb dX10_laysChanges_144 rfl (lv_at hl 0 rfl) ?_
              refine lv_ldcw hx hb hown (hts _ lwd_827) dX10_laysChanges_145 ?_
              refine as_m_byChanges (x := 1000000000) hx hb hK hP hD hS (i_in (rfl : l_36.toInt = l_36.toInt) (by omega) (by omega)) dX10_laysChanges_148 (fun f_58 ef_58 H locs hP hD hS => ?_)
              obtain ⟨n_59, en_59⟩ : ∃ y : Int32, y = l_36 + 1 := ⟨_, rfl⟩
              have tn_59 : n_59.toInt = l_36.toInt + 1 := i_add en_59 (rfl : l_36.toInt = l_36.toInt) (by decide : (1 : Int32).toInt = 1) (by omega) (by omega)
              refine lv_iinc (v := n_59) (lv' := [(1, .int n_59), (0, .ref (hm 0))]) hx hb dX10_laysChanges_149 hl (k := 0) rfl (by rw [en_59]; rfl) (by decide) rfl (fun ls hl => ?_)
              refine lv_goto (tgt := 134) hx hb dX10_laysChanges_152 (by decide) ?_
              exact ih134_37 f_58 n_59 (by omega) (by omega) _ _ _ hP hD hS (lv_sub hl [0, 1] rfl)
        have k_60 : (0 : Int32).toInt = 0 := by decide
        exact L134_37 8589934592 f_m_byChanges 0 (by omega) (by omega) _ _ _ hP hD hS (lv_sub hl [0, 1] rfl)
      · have gc_32 : l_21.toInt < v_pieces.toInt := i_nle (rfl : v_pieces.toInt = v_pieces.toInt) (rfl : l_21.toInt = l_21.toInt) c_32
        refine lv_iconst (v := 0) hx hb dX10_laysChanges_10 (by decide) ?_
        refine lv_istore_n (lv' := [(2, .int 0), (1, .int l_21), (0, .ref (hm 0))]) hx hb dX10_laysChanges_11 rfl hl (by decide) rfl (fun ls hl => ?_)
        have L12_65 : ∀ (n : Nat) (f_63 : Nat → Int32) (l_64 : Int32), (0 ≤ l_64.toInt ∧ l_64.toInt ≤ 77760) → 77761 - l_64.toInt < n → ∀ (H : Heap) (locs : List Loc) (ls : Array Slot), va_P D vwCl (wMD cy hm v_taped v_walkers v_loads v_pieces v_changeCosts v_planned v_isMarch v_clauseMany v_place v_end v_bad v_clauses v_codes v_open v_stacked v_isOver v_isBehind w_28 w_24 w_27 w_22 w_25 w_23 w_26 v_packing v_packed w_30 w_29 v_spentAt v_ranChanges f_m_tape f_m_knee f_m_weight f_m_isLame f_m_loadWeight f_m_owner f_m_food f_m_miles f_m_slope f_m_clauseLetter f_m_sumFrom f_m_codeFrom f_m_codeTo f_m_code f_m_codeArg f_m_newLetter f_m_newSum f_m_newFrom f_m_newTo f_m_newCode f_m_newArg f_m_stack f_20 f_16 f_m_least f_m_packPounds f_m_packOwner f_m_room f_m_givenTo f_m_canBe f_m_setPounds f_m_plainTime f_m_muleTime f_m_planTo f_m_march f_17 f_m_ranMinutes f_m_tiredAhead f_m_isReached f_m_toEnd f_19 f_63 f_m_byChanges f_m_bandPaces) H → va_D A (wMD cy hm v_taped v_walkers v_loads v_pieces v_changeCosts v_planned v_isMarch v_clauseMany v_place v_end v_bad v_clauses v_codes v_open v_stacked v_isOver v_isBehind w_28 w_24 w_27 w_22 w_25 w_23 w_26 v_packing v_packed w_30 w_29 v_spentAt v_ranChanges f_m_tape f_m_knee f_m_weight f_m_isLame f_m_loadWeight f_m_owner f_m_food f_m_miles f_m_slope f_m_clauseLetter f_m_sumFrom f_m_codeFrom f_m_codeTo f_m_code f_m_codeArg f_m_newLetter f_m_newSum f_m_newFrom f_m_newTo f_m_newCode f_m_newArg f_m_stack f_20 f_16 f_m_least f_m_packPounds f_m_packOwner f_m_room f_m_givenTo f_m_canBe f_m_setPounds f_m_plainTime f_m_muleTime f_m_planTo f_m_march f_17 f_m_ranMinutes f_m_tiredAhead f_m_isReached f_m_toEnd f_19 f_63 f_m_byChanges f_m_bandPaces) → va_S A s.heap H locs → lv_has ls 3 [(2, .int l_64), (1, .int l_21), (0, .ref (hm 0))] → W p l e (gRm 9) s m args below meth c H locs 0 0 Q (F0 m 12 ls []) := by
          intro n
          induction n with
          | zero => intro f_63 l_64 hL12_65_0 hm; exact absurd hm (by omega)
          | succ n ih12_65 =>
            intro f_63 l_64 hL12_65_0 hmL12_65 H locs ls hP hD hS hl
            refine lv_iload_n hx hb dX10_laysChanges_12 rfl (lv_at hl 0 rfl) ?_
            refine lv_ldc hx hb hown (hts _ lwd_197) dX10_laysChanges_13 ?_
            refine lv_icmp_ge (tgt := 33) hx hb dX10_laysChanges_15 (by decide) (fun c_66 => ?_) (fun c_66 => ?_)
            · have gc_66 : 77760 ≤ l_64.toInt := i_le (by decide : (77760 : Int32).toInt = 77760) (rfl : l_64.toInt = l_64.toInt) c_66
              refine lv_iload_n hx hb dX10_laysChanges_33 rfl (lv_at hl 1 rfl) ?_
              refine lv_if_ne (tgt := 45) hx hb dX10_laysChanges_34 (by decide) (fun c_67 => ?_) (fun c_67 => ?_)
              · have gc_67 : l_21.toInt ≠ 0 := i_ne (rfl : l_21.toInt = l_21.toInt) (by decide : (0 : Int32).toInt = 0) c_67
                refine lv_iconst (v := 0) hx hb dX10_laysChanges_45 (by decide) ?_
                refine lv_istore_n (lv' := [(2, .int 0), (1, .int l_21), (0, .ref (hm 0))]) hx hb dX10_laysChanges_46 rfl hl (by decide) rfl (fun ls hl => ?_)
                have L47_96 : ∀ (n : Nat) (f_82 : Nat → Int32) (f_83 : Nat → Int32) (f_84 : Nat → Int32) (f_85 : Nat → Int32) (l_86 : Int32) (w_87 : Int32) (w_88 : Int32) (w_89 : Int32) (w_90 : Int32) (w_91 : Int32) (w_92 : Int32) (w_93 : Int32) (w_94 : Int32) (w_95 : Int32), (rg (0) 1 f_82) → (rg (0) 5 f_83) → (0 ≤ l_86.toInt ∧ l_86.toInt ≤ 77760) → (0 ≤ w_93.toInt ∧ w_93.toInt ≤ 5) → (0 ≤ w_95.toInt ∧ w_95.toInt ≤ 60) → 77761 - l_86.toInt < n → ∀ (H : Heap) (locs : List Loc) (ls : Array Slot), va_P D vwCl (wMD cy hm v_taped v_walkers v_loads v_pieces v_changeCosts v_planned v_isMarch v_clauseMany v_place v_end v_bad v_clauses v_codes v_open v_stacked v_isOver v_isBehind w_93 w_89 w_92 w_87 w_90 w_88 w_91 v_packing v_packed w_95 w_94 v_spentAt v_ranChanges f_m_tape f_m_knee f_m_weight f_m_isLame f_m_loadWeight f_m_owner f_m_food f_m_miles f_m_slope f_m_clauseLetter f_m_sumFrom f_m_codeFrom f_m_codeTo f_m_code f_m_codeArg f_m_newLetter f_m_newSum f_m_newFrom f_m_newTo f_m_newCode f_m_newArg f_m_stack f_85 f_82 f_m_least f_m_packPounds f_m_packOwner f_m_room f_m_givenTo f_m_canBe f_m_setPounds f_m_plainTime f_m_muleTime f_m_planTo f_m_march f_83 f_m_ranMinutes f_m_tiredAhead f_m_isReached f_m_toEnd f_19 f_84 f_m_byChanges f_m_bandPaces) H → va_D A (wMD cy hm v_taped v_walkers v_loads v_pieces v_changeCosts v_planned v_isMarch v_clauseMany v_place v_end v_bad v_clauses v_codes v_open v_stacked v_isOver v_isBehind w_93 w_89 w_92 w_87 w_90 w_88 w_91 v_packing v_packed w_95 w_94 v_spentAt v_ranChanges f_m_tape f_m_knee f_m_weight f_m_isLame f_m_loadWeight f_m_owner f_m_food f_m_miles f_m_slope f_m_clauseLetter f_m_sumFrom f_m_codeFrom f_m_codeTo f_m_code f_m_codeArg f_m_newLetter f_m_newSum f_m_newFrom f_m_newTo f_m_newCode f_m_newArg f_m_stack f_85 f_82 f_m_least f_m_packPounds f_m_packOwner f_m_room f_m_givenTo f_m_canBe f_m_setPounds f_m_plainTime f_m_muleTime f_m_planTo f_m_march f_83 f_m_ranMinutes f_m_tiredAhead f_m_isReached f_m_toEnd f_19 f_84 f_m_byChanges f_m_bandPaces) → va_S A s.heap H locs → lv_has ls 3 [(2, .int l_86), (1, .int l_21), (0, .ref (hm 0))] → W p l e (gRm 9) s m args below meth c H locs 0 0 Q (F0 m 47 ls []) := by
                  intro n
                  induction n with
                  | zero => intro f_82 f_83 f_84 f_85 l_86 w_87 w_88 w_89 w_90 w_91 w_92 w_93 w_94 w_95 hL47_96_0 hL47_96_1 hL47_96_2 hL47_96_3 hL47_96_4 hm; exact absurd hm (by omega)
                  | succ n ih47_96 =>
                    intro f_82 f_83 f_84 f_85 l_86 w_87 w_88 w_89 w_90 w_91 w_92 w_93 w_94 w_95 hL47_96_0 hL47_96_1 hL47_96_2 hL47_96_3 hL47_96_4 hmL47_96 H locs ls hP hD hS hl
                    refine lv_iload_n hx hb dX10_laysChanges_47 rfl (lv_at hl 0 rfl) ?_
                    refine lv_ldc hx hb hown (hts _ lwd_197) dX10_laysChanges_48 ?_
                    refine lv_icmp_ge (tgt := 100) hx hb dX10_laysChanges_50 (by decide) (fun c_97 => ?_) (fun c_97 => ?_)
                    · have gc_97 : 77760 ≤ l_86.toInt := i_le (by decide : (77760 : Int32).toInt = 77760) (rfl : l_86.toInt = l_86.toInt) c_97
                      refine lv_iconst (v := 0) hx hb dX10_laysChanges_100 (by decide) ?_
                      refine lv_istore_n (lv' := [(2, .int 0), (1, .int l_21), (0, .ref (hm 0))]) hx hb dX10_laysChanges_101 rfl hl (by decide) rfl (fun ls hl => ?_)
                      have L102_102 : ∀ (n : Nat) (f_100 : Nat → Int32) (l_101 : Int32), (0 ≤ l_101.toInt ∧ l_101.toInt ≤ 77760) → 77761 - l_101.toInt < n → ∀ (H : Heap) (locs : List Loc) (ls : Array Slot), va_P D vwCl (wMD cy hm v_taped v_walkers v_loads v_pieces v_changeCosts v_planned v_isMarch v_clauseMany v_place v_end v_bad v_clauses v_codes v_open v_stacked v_isOver v_isBehind w_93 w_89 w_92 w_87 w_90 w_88 w_91 v_packing v_packed w_95 w_94 v_spentAt v_ranChanges f_m_tape f_m_knee f_m_weight f_m_isLame f_m_loadWeight f_m_owner f_m_food f_m_miles f_m_slope f_m_clauseLetter f_m_sumFrom f_m_codeFrom f_m_codeTo f_m_code f_m_codeArg f_m_newLetter f_m_newSum f_m_newFrom f_m_newTo f_m_newCode f_m_newArg f_m_stack f_85 f_82 f_m_least f_m_packPounds f_m_packOwner f_m_room f_m_givenTo f_m_canBe f_m_setPounds f_m_plainTime f_m_muleTime f_m_planTo f_m_march f_83 f_m_ranMinutes f_m_tiredAhead f_m_isReached f_m_toEnd f_100 f_84 f_m_byChanges f_m_bandPaces) H → va_D A (wMD cy hm v_taped v_walkers v_loads v_pieces v_changeCosts v_planned v_isMarch v_clauseMany v_place v_end v_bad v_clauses v_codes v_open v_stacked v_isOver v_isBehind w_93 w_89 w_92 w_87 w_90 w_88 w_91 v_packing v_packed w_95 w_94 v_spentAt v_ranChanges f_m_tape f_m_knee f_m_weight f_m_isLame f_m_loadWeight f_m_owner f_m_food f_m_miles f_m_slope f_m_clauseLetter f_m_sumFrom f_m_codeFrom f_m_codeTo f_m_code f_m_codeArg f_m_newLetter f_m_newSum f_m_newFrom f_m_newTo f_m_newCode f_m_newArg f_m_stack f_85 f_82 f_m_least f_m_packPounds f_m_packOwner f_m_room f_m_givenTo f_m_canBe f_m_setPounds f_m_plainTime f_m_muleTime f_m_planTo f_m_march f_83 f_m_ranMinutes f_m_tiredAhead f_m_isReached f_m_toEnd f_100 f_84 f_m_byChanges f_m_bandPaces) → va_S A s.heap H locs → lv_has ls 3 [(2, .int l_101), (1, .int l_21), (0, .ref (hm 0))] → W p l e (gRm 9) s m args below meth c H locs 0 0 Q (F0 m 102 ls []) := by
                        intro n
                        induction n with
                        | zero => intro f_100 l_101 hL102_102_0 hm; exact absurd hm (by omega)
                        | succ n ih102_102 =>
                          intro f_100 l_101 hL102_102_0 hmL102_102 H locs ls hP hD hS hl
                          refine lv_iload_n hx hb dX10_laysChanges_102 rfl (lv_at hl 0 rfl) ?_
                          refine lv_ldc hx hb hown (hts _ lwd_197) dX10_laysChanges_103 ?_
                          refine lv_icmp_ge (tgt := 126) hx hb dX10_laysChanges_105 (by decide) (fun c_103 => ?_) (fun c_103 => ?_)
                          · have gc_103 : 77760 ≤ l_101.toInt := i_le (by decide : (77760 : Int32).toInt = 77760) (rfl : l_101.toInt = l_101.toInt) c_103
                            obtain ⟨n_104, en_104⟩ : ∃ y : Int32, y = l_21 + 1 := ⟨_, rfl⟩
                            have tn_104 : n_104.toInt = l_21.toInt + 1 := i_add en_104 (rfl : l_21.toInt = l_21.toInt) (by decide : (1 : Int32).toInt = 1) (by omega) (by omega)
                            refine lv_iinc (v := n_104) (lv' := [(1, .int n_104), (2, .int l_101), (0, .ref (hm 0))]) hx hb dX10_laysChanges_126 hl (k := 1) rfl (by rw [en_104]; rfl) (by decide) rfl (fun ls hl => ?_)
                            refine lv_goto (tgt := 2) hx hb dX10_laysChanges_129 (by decide) ?_
                            exact ih2_31 f_82 f_83 f_84 f_100 f_85 n_104 w_87 w_88 w_89 w_90 w_91 w_92 w_93 w_94 w_95 hL47_96_0 hL47_96_1 (by omega) (by omega) (by omega) (by omega) _ _ _ hP hD hS (lv_sub hl [0, 2] rfl)
                          · have gc_103 : l_101.toInt < 77760 := i_nle (by decide : (77760 : Int32).toInt = 77760) (rfl : l_101.toInt = l_101.toInt) c_103
                            refine lv_aload_n hx hb dX10_laysChanges_108 rfl (lv_at hl 2 rfl) ?_
                            refine gt_MD_MD_upTo hx hb hts hown hK hP lwd_198 dX10_laysChanges_109 ?_
                            refine lv_iload_n hx hb dX10_laysChanges_112 rfl (lv_at hl 0 rfl) ?_
                            refine lv_aload_n hx hb dX10_laysChanges_113 rfl (lv_at hl 2 rfl) ?_
                            refine gt_MD_MD_upNext hx hb hts hown hK hP lwd_199 dX10_laysChanges_114 ?_
                            refine lv_iload_n hx hb dX10_laysChanges_117 rfl (lv_at hl 0 rfl) ?_
                            refine al_m_upNext hx hb hK hP (i_in (rfl : l_101.toInt = l_101.toInt) (by omega) (by omega)) dX10_laysChanges_118 (fun n_105 en_105 => ?_)
                            refine as_m_upTo (x := n_105) hx hb hK hP hD hS (i_in (rfl : l_101.toInt = l_101.toInt) (by omega) (by omega)) dX10_laysChanges_119 (fun f_106 ef_106 H locs hP hD hS => ?_)
                            obtain ⟨n_107, en_107⟩ : ∃ y : Int32, y = l_101 + 1 := ⟨_, rfl⟩
                            have tn_107 : n_107.toInt = l_101.toInt + 1 := i_add en_107 (rfl : l_101.toInt = l_101.toInt) (by decide : (1 : Int32).toInt = 1) (by omega) (by omega)
                            refine lv_iinc (v := n_107) (lv' := [(2, .int n_107), (1, .int l_21), (0, .ref (hm 0))]) hx hb dX10_laysChanges_120 hl (k := 0) rfl (by rw [en_107]; rfl) (by decide) rfl (fun ls hl => ?_)
                            refine lv_goto (tgt := 102) hx hb dX10_laysChanges_123 (by decide) ?_
                            exact ih102_102 f_106 n_107 (by omega) (by omega) _ _ _ hP hD hS (lv_sub hl [0, 1, 2] rfl)
                      have k_108 : (0 : Int32).toInt = 0 := by decide
                      exact L102_102 8589934592 f_19 0 (by omega) (by omega) _ _ _ hP hD hS (lv_sub hl [0, 1, 2] rfl)
                    · have gc_97 : l_86.toInt < 77760 := i_nle (by decide : (77760 : Int32).toInt = 77760) (rfl : l_86.toInt = l_86.toInt) c_97
                      refine lv_iload_n hx hb dX10_laysChanges_53 rfl (lv_at hl 1 rfl) ?_
                      refine lv_if_le (tgt := 100) hx hb dX10_laysChanges_54 (by decide) (fun c_109 => ?_) (fun c_109 => ?_)
                      · have gc_109 : l_21.toInt ≤ 0 := i_le (rfl : l_21.toInt = l_21.toInt) (by decide : (0 : Int32).toInt = 0) c_109
                        exact absurd gc_109 (by omega)
                      · have gc_109 : 0 < l_21.toInt := i_nle (rfl : l_21.toInt = l_21.toInt) (by decide : (0 : Int32).toInt = 0) c_109
                        refine lv_aload_n hx hb dX10_laysChanges_57 rfl (lv_at hl 2 rfl) ?_
                        refine gt_MD_MD_upTo hx hb hts hown hK hP lwd_198 dX10_laysChanges_58 ?_
                        refine lv_iload_n hx hb dX10_laysChanges_61 rfl (lv_at hl 0 rfl) ?_
                        refine al_m_upTo hx hb hK hP (i_in (rfl : l_86.toInt = l_86.toInt) (by omega) (by omega)) dX10_laysChanges_62 (fun n_110 en_110 => ?_)
                        refine lv_ldcw hx hb hown (hts _ lwd_827) dX10_laysChanges_63 ?_
                        refine lv_icmp_ge (tgt := 94) hx hb dX10_laysChanges_66 (by decide) (fun c_111 => ?_) (fun c_111 => ?_)
                        · have gc_111 : 1000000000 ≤ n_110.toInt := i_le (by decide : (1000000000 : Int32).toInt = 1000000000) (rfl : n_110.toInt = n_110.toInt) c_111
                          obtain ⟨n_112, en_112⟩ : ∃ y : Int32, y = l_86 + 1 := ⟨_, rfl⟩
                          have tn_112 : n_112.toInt = l_86.toInt + 1 := i_add en_112 (rfl : l_86.toInt = l_86.toInt) (by decide : (1 : Int32).toInt = 1) (by omega) (by omega)
                          refine lv_iinc (v := n_112) (lv' := [(2, .int n_112), (1, .int l_21), (0, .ref (hm 0))]) hx hb dX10_laysChanges_94 hl (k := 0) rfl (by rw [en_112]; rfl) (by decide) rfl (fun ls hl => ?_)
                          refine lv_goto (tgt := 47) hx hb dX10_laysChanges_97 (by decide) ?_
                          exact ih47_96 f_82 f_83 f_84 f_85 n_112 w_87 w_88 w_89 w_90 w_91 w_92 w_93 w_94 w_95 hL47_96_0 hL47_96_1 (by omega) (by omega) (by omega) (by omega) _ _ _ hP hD hS (lv_sub hl [0, 1, 2] rfl)
                        · have gc_111 : n_110.toInt < 1000000000 := i_nle (by decide : (1000000000 : Int32).toInt = 1000000000) (rfl : n_110.toInt = n_110.toInt) c_111
                          refine lv_aload_n hx hb dX10_laysChanges_69 rfl (lv_at hl 2 rfl) ?_
                          refine lv_iload_n hx hb dX10_laysChanges_70 rfl (lv_at hl 1 rfl) ?_
                          refine lv_iload_n hx hb dX10_laysChanges_71 rfl (lv_at hl 0 rfl) ?_
                          refine lv_bipush (v := 10) hx hb dX10_laysChanges_72 (by decide) ?_
                          refine lv_idiv hx hb dX10_laysChanges_74 (by decide) ?_
                          refine lv_topi (fun n_113 en_113 => ?_)
                          have tn_113 : n_113.toInt = l_86.toInt / 10 := i_div en_113 (rfl : l_86.toInt = l_86.toInt) (by decide : (10 : Int32).toInt = 10) (by omega) (by omega)
                          refine lv_sipush (v := 1296) hx hb dX10_laysChanges_75 (by decide) ?_
                          refine lv_idiv hx hb dX10_laysChanges_78 (by decide) ?_
                          refine lv_topi (fun n_114 en_114 => ?_)
                          have tn_114 : n_114.toInt = (l_86.toInt / 10) / 1296 := i_div en_114 tn_113 (by decide : (1296 : Int32).toInt = 1296) (by omega) (by omega)
                          refine lv_iload_n hx hb dX10_laysChanges_79 rfl (lv_at hl 0 rfl) ?_
                          refine lv_bipush (v := 10) hx hb dX10_laysChanges_80 (by decide) ?_
                          refine lv_idiv hx hb dX10_laysChanges_82 (by decide) ?_
                          refine lv_topi (fun n_115 en_115 => ?_)
                          have tn_115 : n_115.toInt = l_86.toInt / 10 := i_div en_115 (rfl : l_86.toInt = l_86.toInt) (by decide : (10 : Int32).toInt = 10) (by omega) (by omega)
                          refine lv_sipush (v := 1296) hx hb dX10_laysChanges_83 (by decide) ?_
                          refine lv_irem hx hb dX10_laysChanges_86 (by decide) ?_
                          refine lv_topi (fun n_116 en_116 => ?_)
                          have tn_116 : n_116.toInt = (l_86.toInt / 10) % 1296 := i_rem en_116 tn_115 (by decide : (1296 : Int32).toInt = 1296) (by omega) (by omega)
                          refine lv_iload_n hx hb dX10_laysChanges_87 rfl (lv_at hl 0 rfl) ?_
                          refine lv_bipush (v := 10) hx hb dX10_laysChanges_88 (by decide) ?_
                          refine lv_irem hx hb dX10_laysChanges_90 (by decide) ?_
                          refine lv_topi (fun n_117 en_117 => ?_)
                          have tn_117 : n_117.toInt = l_86.toInt % 10 := i_rem en_117 (rfl : l_86.toInt = l_86.toInt) (by decide : (10 : Int32).toInt = 10) (by omega) (by omega)
                          refine xv hD hS hA (xV (As := [.int l_21, .int n_114, .int n_116, .int n_117]) (rest := []) hx hb hml hown hts hK hP hD hS hA NT_ok hN hAe hl.1 ⟨Nat.le_refl _, Nat.le_refl _⟩ 0 rfl rfl rfl (c_X10_goesFrom l D cy hm v_taped v_walkers v_loads v_pieces v_changeCosts v_planned v_isMarch v_clauseMany v_place v_end v_bad v_clauses v_codes v_open v_stacked v_isOver v_isBehind w_93 w_89 w_92 w_87 w_90 w_88 w_91 v_packing v_packed w_95 w_94 v_spentAt v_ranChanges f_m_tape f_m_knee f_m_weight f_m_isLame f_m_loadWeight f_m_owner f_m_food f_m_miles f_m_slope f_m_clauseLetter f_m_sumFrom f_m_codeFrom f_m_codeTo f_m_code f_m_codeArg f_m_newLetter f_m_newSum f_m_newFrom f_m_newTo f_m_newCode f_m_newArg f_m_stack f_85 f_82 f_m_least f_m_packPounds f_m_packOwner f_m_room f_m_givenTo f_m_canBe f_m_setPounds f_m_plainTime f_m_muleTime f_m_planTo f_m_march f_83 f_m_ranMinutes f_m_tiredAhead f_m_isReached f_m_toEnd f_19 f_84 f_m_byChanges f_m_bandPaces H.size l_21 n_114 n_116 n_117 (by omega) (by omega) (by omega) (by omega) (by omega) hr_m_weight hr_m_isLame hr_m_loadWeight hr_m_food hr_m_miles hL47_96_0 hL47_96_1 (by omega) (by omega) (by omega) (by omega) hwf (by omega)) (gi_V lwd_1143 lwd_1144 lwd_1145 lwd_5 lwd_1146) ⟨rfl, hd_X10_goesFrom⟩ ⟨Nat.le_of_ble_eq_true rfl, Nat.le_of_ble_eq_true rfl⟩ rfl (Nat.le_of_ble_eq_true rfl) dX10_laysChanges_91) (fun u_118 H locs hw hP hD hS => ?_)
                          obtain ⟨zatW_120, zatL_121, zatT_122, zatH_123, zatM_124, zatI_125, zatQ_126, zgoPace_127, zgoMinutes_128, zworth_129, zisRefused_130, ztired_131, zupNext_132⟩ := u_118
                          try dsimp only at hw hP hD
                          obtain ⟨p_133, p_134, p_135, p_136⟩ := hw
                          obtain ⟨n_137, en_137⟩ : ∃ y : Int32, y = l_86 + 1 := ⟨_, rfl⟩
                          have tn_137 : n_137.toInt = l_86.toInt + 1 := i_add en_137 (rfl : l_86.toInt = l_86.toInt) (by decide : (1 : Int32).toInt = 1) (by omega) (by omega)
                          refine lv_iinc (v := n_137) (lv' := [(2, .int n_137), (1, .int l_21), (0, .ref (hm 0))]) hx hb dX10_laysChanges_94 hl (k := 0) rfl (by rw [en_137]; rfl) (by decide) rfl (fun ls hl => ?_)
                          refine lv_goto (tgt := 47) hx hb dX10_laysChanges_97 (by decide) ?_
                          exact ih47_96 zisRefused_130 ztired_131 zupNext_132 zworth_129 n_137 zatH_123 zatI_125 zatL_121 zatM_124 zatQ_126 zatT_122 zatW_120 zgoMinutes_128 zgoPace_127 p_135 p_136 (by omega) (by omega) (by omega) (by omega) _ _ _ hP hD hS (lv_sub hl [0, 1, 2] rfl)
                have k_138 : (0 : Int32).toInt = 0 := by decide
                exact L47_96 8589934592 f_16 f_17 f_63 f_20 0 w_22 w_23 w_24 w_25 w_26 w_27 w_28 w_29 w_30 hL2_31_0 hL2_31_1 (by omega) (by omega) (by omega) (by omega) _ _ _ hP hD hS (lv_sub hl [0, 1, 2] rfl)
              · have gc_67 : l_21.toInt = 0 := i_eq (rfl : l_21.toInt = l_21.toInt) (by decide : (0 : Int32).toInt = 0) c_67
                refine lv_aload_n hx hb dX10_laysChanges_37 rfl (lv_at hl 2 rfl) ?_
                refine lv_iconst (v := 0) hx hb dX10_laysChanges_38 (by decide) ?_
                refine lv_iconst (v := 0) hx hb dX10_laysChanges_39 (by decide) ?_
                refine lv_iconst (v := 0) hx hb dX10_laysChanges_40 (by decide) ?_
                refine lv_iconst (v := 0) hx hb dX10_laysChanges_41 (by decide) ?_
                have k_139 : (0 : Int32).toInt = 0 := by decide
                refine xv hD hS hA (xV (As := [.int 0, .int 0, .int 0, .int 0]) (rest := []) hx hb hml hown hts hK hP hD hS hA NT_ok hN hAe hl.1 ⟨Nat.le_refl _, Nat.le_refl _⟩ 0 rfl rfl rfl (c_X10_goesFrom l D cy hm v_taped v_walkers v_loads v_pieces v_changeCosts v_planned v_isMarch v_clauseMany v_place v_end v_bad v_clauses v_codes v_open v_stacked v_isOver v_isBehind w_28 w_24 w_27 w_22 w_25 w_23 w_26 v_packing v_packed w_30 w_29 v_spentAt v_ranChanges f_m_tape f_m_knee f_m_weight f_m_isLame f_m_loadWeight f_m_owner f_m_food f_m_miles f_m_slope f_m_clauseLetter f_m_sumFrom f_m_codeFrom f_m_codeTo f_m_code f_m_codeArg f_m_newLetter f_m_newSum f_m_newFrom f_m_newTo f_m_newCode f_m_newArg f_m_stack f_20 f_16 f_m_least f_m_packPounds f_m_packOwner f_m_room f_m_givenTo f_m_canBe f_m_setPounds f_m_plainTime f_m_muleTime f_m_planTo f_m_march f_17 f_m_ranMinutes f_m_tiredAhead f_m_isReached f_m_toEnd f_19 f_63 f_m_byChanges f_m_bandPaces H.size 0 0 0 0 (by omega) (by omega) (by omega) (by omega) (by omega) hr_m_weight hr_m_isLame hr_m_loadWeight hr_m_food hr_m_miles hL2_31_0 hL2_31_1 (by omega) (by omega) (by omega) (by omega) hwf (by omega)) (gi_V lwd_1143 lwd_1144 lwd_1145 lwd_5 lwd_1146) ⟨rfl, hd_X10_goesFrom⟩ ⟨Nat.le_of_ble_eq_true rfl, Nat.le_of_ble_eq_true rfl⟩ rfl (Nat.le_of_ble_eq_true rfl) dX10_laysChanges_42) (fun u_140 H locs hw hP hD hS => ?_)
                obtain ⟨zatW_142, zatL_143, zatT_144, zatH_145, zatM_146, zatI_147, zatQ_148, zgoPace_149, zgoMinutes_150, zworth_151, zisRefused_152, ztired_153, zupNext_154⟩ := u_140
                try dsimp only at hw hP hD
                obtain ⟨p_155, p_156, p_157, p_158⟩ := hw
                refine lv_iconst (v := 0) hx hb dX10_laysChanges_45 (by decide) ?_
                refine lv_istore_n (lv' := [(2, .int 0), (1, .int l_21), (0, .ref (hm 0))]) hx hb dX10_laysChanges_46 rfl hl (by decide) rfl (fun ls hl => ?_)
                have L47_159 : ∀ (n : Nat) , 77761 - 0 < n → ∀ (H : Heap) (locs : List Loc) (ls : Array Slot), va_P D vwCl (wMD cy hm v_taped v_walkers v_loads v_pieces v_changeCosts v_planned v_isMarch v_clauseMany v_place v_end v_bad v_clauses v_codes v_open v_stacked v_isOver v_isBehind zatW_142 zatL_143 zatT_144 zatH_145 zatM_146 zatI_147 zatQ_148 v_packing v_packed zgoPace_149 zgoMinutes_150 v_spentAt v_ranChanges f_m_tape f_m_knee f_m_weight f_m_isLame f_m_loadWeight f_m_owner f_m_food f_m_miles f_m_slope f_m_clauseLetter f_m_sumFrom f_m_codeFrom f_m_codeTo f_m_code f_m_codeArg f_m_newLetter f_m_newSum f_m_newFrom f_m_newTo f_m_newCode f_m_newArg f_m_stack zworth_151 zisRefused_152 f_m_least f_m_packPounds f_m_packOwner f_m_room f_m_givenTo f_m_canBe f_m_setPounds f_m_plainTime f_m_muleTime f_m_planTo f_m_march ztired_153 f_m_ranMinutes f_m_tiredAhead f_m_isReached f_m_toEnd f_19 zupNext_154 f_m_byChanges f_m_bandPaces) H → va_D A (wMD cy hm v_taped v_walkers v_loads v_pieces v_changeCosts v_planned v_isMarch v_clauseMany v_place v_end v_bad v_clauses v_codes v_open v_stacked v_isOver v_isBehind zatW_142 zatL_143 zatT_144 zatH_145 zatM_146 zatI_147 zatQ_148 v_packing v_packed zgoPace_149 zgoMinutes_150 v_spentAt v_ranChanges f_m_tape f_m_knee f_m_weight f_m_isLame f_m_loadWeight f_m_owner f_m_food f_m_miles f_m_slope f_m_clauseLetter f_m_sumFrom f_m_codeFrom f_m_codeTo f_m_code f_m_codeArg f_m_newLetter f_m_newSum f_m_newFrom f_m_newTo f_m_newCode f_m_newArg f_m_stack zworth_151 zisRefused_152 f_m_least f_m_packPounds f_m_packOwner f_m_room f_m_givenTo f_m_canBe f_m_setPounds f_m_plainTime f_m_muleTime f_m_planTo f_m_march ztired_153 f_m_ranMinutes f_m_tiredAhead f_m_isReached f_m_toEnd f_19 zupNext_154 f_m_byChanges f_m_bandPaces) → va_S A s.heap H locs → lv_has ls 3 [(2, .int 0), (1, .int l_21), (0, .ref (hm 0))] → W p l e (gRm 9) s m args below meth c H locs 0 0 Q (F0 m 47 ls []) := by
                  intro n
                  induction n with
                  | zero => intro   hm; exact absurd hm (by omega)
                  | succ n ih47_159 =>
                    intro   hmL47_159 H locs ls hP hD hS hl
                    refine lv_iload_n hx hb dX10_laysChanges_47 rfl (lv_at hl 0 rfl) ?_
                    refine lv_ldc hx hb hown (hts _ lwd_197) dX10_laysChanges_48 ?_
                    refine lv_icmp_ge (tgt := 100) hx hb dX10_laysChanges_50 (by decide) (fun c_160 => ?_) (fun c_160 => ?_)
                    · exact absurd c_160 (by decide)
                    · skip
                      refine lv_iload_n hx hb dX10_laysChanges_53 rfl (lv_at hl 1 rfl) ?_
                      refine lv_if_le (tgt := 100) hx hb dX10_laysChanges_54 (by decide) (fun c_161 => ?_) (fun c_161 => ?_)
                      · have gc_161 : l_21.toInt ≤ 0 := i_le (rfl : l_21.toInt = l_21.toInt) (by decide : (0 : Int32).toInt = 0) c_161
                        refine lv_iconst (v := 0) hx hb dX10_laysChanges_100 (by decide) ?_
                        refine lv_istore_n (lv' := [(2, .int 0), (1, .int l_21), (0, .ref (hm 0))]) hx hb dX10_laysChanges_101 rfl hl (by decide) rfl (fun ls hl => ?_)
                        have L102_166 : ∀ (n : Nat) (f_164 : Nat → Int32) (l_165 : Int32), (0 ≤ l_165.toInt ∧ l_165.toInt ≤ 77760) → 77761 - l_165.toInt < n → ∀ (H : Heap) (locs : List Loc) (ls : Array Slot), va_P D vwCl (wMD cy hm v_taped v_walkers v_loads v_pieces v_changeCosts v_planned v_isMarch v_clauseMany v_place v_end v_bad v_clauses v_codes v_open v_stacked v_isOver v_isBehind zatW_142 zatL_143 zatT_144 zatH_145 zatM_146 zatI_147 zatQ_148 v_packing v_packed zgoPace_149 zgoMinutes_150 v_spentAt v_ranChanges f_m_tape f_m_knee f_m_weight f_m_isLame f_m_loadWeight f_m_owner f_m_food f_m_miles f_m_slope f_m_clauseLetter f_m_sumFrom f_m_codeFrom f_m_codeTo f_m_code f_m_codeArg f_m_newLetter f_m_newSum f_m_newFrom f_m_newTo f_m_newCode f_m_newArg f_m_stack zworth_151 zisRefused_152 f_m_least f_m_packPounds f_m_packOwner f_m_room f_m_givenTo f_m_canBe f_m_setPounds f_m_plainTime f_m_muleTime f_m_planTo f_m_march ztired_153 f_m_ranMinutes f_m_tiredAhead f_m_isReached f_m_toEnd f_164 zupNext_154 f_m_byChanges f_m_bandPaces) H → va_D A (wMD cy hm v_taped v_walkers v_loads v_pieces v_changeCosts v_planned v_isMarch v_clauseMany v_place v_end v_bad v_clauses v_codes v_open v_stacked v_isOver v_isBehind zatW_142 zatL_143 zatT_144 zatH_145 zatM_146 zatI_147 zatQ_148 v_packing v_packed zgoPace_149 zgoMinutes_150 v_spentAt v_ranChanges f_m_tape f_m_knee f_m_weight f_m_isLame f_m_loadWeight f_m_owner f_m_food f_m_miles f_m_slope f_m_clauseLetter f_m_sumFrom f_m_codeFrom f_m_codeTo f_m_code f_m_codeArg f_m_newLetter f_m_newSum f_m_newFrom f_m_newTo f_m_newCode f_m_newArg f_m_stack zworth_151 zisRefused_152 f_m_least f_m_packPounds f_m_packOwner f_m_room f_m_givenTo f_m_canBe f_m_setPounds f_m_plainTime f_m_muleTime f_m_planTo f_m_march ztired_153 f_m_ranMinutes f_m_tiredAhead f_m_isReached f_m_toEnd f_164 zupNext_154 f_m_byChanges f_m_bandPaces) → va_S A s.heap H locs → lv_has ls 3 [(2, .int l_165), (1, .int l_21), (0, .ref (hm 0))] → W p l e (gRm 9) s m args below meth c H locs 0 0 Q (F0 m 102 ls []) := by
                          intro n
                          induction n with
                          | zero => intro f_164 l_165 hL102_166_0 hm; exact absurd hm (by omega)
                          | succ n ih102_166 =>
                            intro f_164 l_165 hL102_166_0 hmL102_166 H locs ls hP hD hS hl
                            refine lv_iload_n hx hb dX10_laysChanges_102 rfl (lv_at hl 0 rfl) ?_
                            refine lv_ldc hx hb hown (hts _ lwd_197) dX10_laysChanges_103 ?_
                            refine lv_icmp_ge (tgt := 126) hx hb dX10_laysChanges_105 (by decide) (fun c_167 => ?_) (fun c_167 => ?_)
                            · have gc_167 : 77760 ≤ l_165.toInt := i_le (by decide : (77760 : Int32).toInt = 77760) (rfl : l_165.toInt = l_165.toInt) c_167
                              obtain ⟨n_168, en_168⟩ : ∃ y : Int32, y = l_21 + 1 := ⟨_, rfl⟩
                              have tn_168 : n_168.toInt = l_21.toInt + 1 := i_add en_168 (rfl : l_21.toInt = l_21.toInt) (by decide : (1 : Int32).toInt = 1) (by omega) (by omega)
                              refine lv_iinc (v := n_168) (lv' := [(1, .int n_168), (2, .int l_165), (0, .ref (hm 0))]) hx hb dX10_laysChanges_126 hl (k := 1) rfl (by rw [en_168]; rfl) (by decide) rfl (fun ls hl => ?_)
                              refine lv_goto (tgt := 2) hx hb dX10_laysChanges_129 (by decide) ?_
                              exact ih2_31 zisRefused_152 ztired_153 zupNext_154 f_164 zworth_151 n_168 zatH_145 zatI_147 zatL_143 zatM_146 zatQ_148 zatT_144 zatW_142 zgoMinutes_150 zgoPace_149 p_157 p_158 (by omega) (by omega) (by omega) (by omega) _ _ _ hP hD hS (lv_sub hl [0, 2] rfl)
                            · have gc_167 : l_165.toInt < 77760 := i_nle (by decide : (77760 : Int32).toInt = 77760) (rfl : l_165.toInt = l_165.toInt) c_167
                              refine lv_aload_n hx hb dX10_laysChanges_108 rfl (lv_at hl 2 rfl) ?_
                              refine gt_MD_MD_upTo hx hb hts hown hK hP lwd_198 dX10_laysChanges_109 ?_
                              refine lv_iload_n hx hb dX10_laysChanges_112 rfl (lv_at hl 0 rfl) ?_
                              refine lv_aload_n hx hb dX10_laysChanges_113 rfl (lv_at hl 2 rfl) ?_
                              refine gt_MD_MD_upNext hx hb hts hown hK hP lwd_199 dX10_laysChanges_114 ?_
                              refine lv_iload_n hx hb dX10_laysChanges_117 rfl (lv_at hl 0 rfl) ?_
                              refine al_m_upNext hx hb hK hP (i_in (rfl : l_165.toInt = l_165.toInt) (by omega) (by omega)) dX10_laysChanges_118 (fun n_169 en_169 => ?_)
                              refine as_m_upTo (x := n_169) hx hb hK hP hD hS (i_in (rfl : l_165.toInt = l_165.toInt) (by omega) (by omega)) dX10_laysChanges_119 (fun f_170 ef_170 H locs hP hD hS => ?_)
                              obtain ⟨n_171, en_171⟩ : ∃ y : Int32, y = l_165 + 1 := ⟨_, rfl⟩
                              have tn_171 : n_171.toInt = l_165.toInt + 1 := i_add en_171 (rfl : l_165.toInt = l_165.toInt) (by decide : (1 : Int32).toInt = 1) (by omega) (by omega)
                              refine lv_iinc (v := n_171) (lv' := [(2, .int n_171), (1, .int l_21), (0, .ref (hm 0))]) hx hb dX10_laysChanges_120 hl (k := 0) rfl (by rw [en_171]; rfl) (by decide) rfl (fun ls hl => ?_)
                              refine lv_goto (tgt := 102) hx hb dX10_laysChanges_123 (by decide) ?_
                              exact ih102_166 f_170 n_171 (by omega) (by omega) _ _ _ hP hD hS (lv_sub hl [0, 1, 2] rfl)
                        have k_172 : (0 : Int32).toInt = 0 := by decide
                        exact L102_166 8589934592 f_19 0 (by omega) (by omega) _ _ _ hP hD hS (lv_sub hl [0, 1, 2] rfl)
                      · have gc_161 : 0 < l_21.toInt := i_nle (rfl : l_21.toInt = l_21.toInt) (by decide : (0 : Int32).toInt = 0) c_161
                        exact absurd gc_161 (by omega)
                exact L47_159 8589934592 (by omega) _ _ _ hP hD hS (lv_sub hl [0, 1, 2] rfl)
            · have gc_66 : l_64.toInt < 77760 := i_nle (by decide : (77760 : Int32).toInt = 77760) (rfl : l_64.toInt = l_64.toInt) c_66
              refine lv_aload_n hx hb dX10_laysChanges_18 rfl (lv_at hl 2 rfl) ?_
              refine gt_MD_MD_upNext hx hb hts hown hK hP lwd_199 dX10_laysChanges_19 ?_
              refine lv_iload_n hx hb dX10_laysChanges_22 rfl (lv_at hl 0 rfl) ?_
              refine lv_ldcw hx hb hown (hts _ lwd_827) dX10_laysChanges_23 ?_
              refine as_m_upNext (x := 1000000000) hx hb hK hP hD hS (i_in (rfl : l_64.toInt = l_64.toInt) (by omega) (by omega)) dX10_laysChanges_26 (fun f_173 ef_173 H locs hP hD hS => ?_)
              obtain ⟨n_174, en_174⟩ : ∃ y : Int32, y = l_64 + 1 := ⟨_, rfl⟩
              have tn_174 : n_174.toInt = l_64.toInt + 1 := i_add en_174 (rfl : l_64.toInt = l_64.toInt) (by decide : (1 : Int32).toInt = 1) (by omega) (by omega)
              refine lv_iinc (v := n_174) (lv' := [(2, .int n_174), (1, .int l_21), (0, .ref (hm 0))]) hx hb dX10_laysChanges_27 hl (k := 0) rfl (by rw [en_174]; rfl) (by decide) rfl (fun ls hl => ?_)
              refine lv_goto (tgt := 12) hx hb dX10_laysChanges_30 (by decide) ?_
              exact ih12_65 f_173 n_174 (by omega) (by omega) _ _ _ hP hD hS (lv_sub hl [0, 1, 2] rfl)
        have k_175 : (0 : Int32).toInt = 0 := by decide
        exact L12_65 8589934592 f_18 0 (by omega) (by omega) _ _ _ hP hD hS (lv_sub hl [0, 1, 2] rfl)
  have k_176 : (0 : Int32).toInt = 0 := by decide
  exact L2_31 8589934592 f_m_isRefused f_m_tired f_m_upNext f_m_upTo f_m_worth 0 v_atH v_atI v_atL v_atM v_atQ v_atT v_atW v_goMinutes v_goPace hr_m_isRefused hr_m_tired (by omega) (by omega) (by omega) (by omega) _ _ _ hP hD hS (lv_sub hl [0, 1] rfl)
set_option maxHeartbeats 16000000 in
set_option maxRecDepth 100000 in
theorem c_X10_often (l : Launch) (D : va_G) (cy : Nat → ClassId) (hm : Nat → Nat) (v_taped v_walkers v_loads v_pieces v_changeCosts v_planned v_isMarch v_clauseMany v_place v_end v_bad v_clauses v_codes v_open v_stacked v_isOver v_isBehind v_atW v_atL v_atT v_atH v_atM v_atI v_atQ v_packing v_packed v_goPace v_goMinutes v_spentAt v_ranChanges : Int32) (f_m_tape f_m_knee f_m_weight f_m_isLame f_m_loadWeight f_m_owner f_m_food f_m_miles f_m_slope f_m_clauseLetter f_m_sumFrom f_m_codeFrom f_m_codeTo f_m_code f_m_codeArg f_m_newLetter f_m_newSum f_m_newFrom f_m_newTo f_m_newCode f_m_newArg f_m_stack f_m_worth f_m_isRefused f_m_least f_m_packPounds f_m_packOwner f_m_room f_m_givenTo f_m_canBe f_m_setPounds f_m_plainTime f_m_muleTime f_m_planTo f_m_march f_m_tired f_m_ranMinutes f_m_tiredAhead f_m_isReached f_m_toEnd f_m_upTo f_m_upNext f_m_byChanges f_m_bandPaces : Nat → Int32) (sz : Nat) (n1 : Int32) (hb_v_walkers : 0 ≤ v_walkers.toInt ∧ v_walkers.toInt ≤ 6) (hb_v_loads : 0 ≤ v_loads.toInt ∧ v_loads.toInt ≤ 9) (hb_v_pieces : 0 ≤ v_pieces.toInt ∧ v_pieces.toInt ≤ 10) (hb_v_clauseMany : 0 ≤ v_clauseMany.toInt ∧ v_clauseMany.toInt ≤ 14) (hb_v_atW : 0 ≤ v_atW.toInt ∧ v_atW.toInt ≤ 5) (hb_v_goPace : 0 ≤ v_goPace.toInt ∧ v_goPace.toInt ≤ 60) (hr_m_weight : rg (0) 250 f_m_weight) (hr_m_isLame : rg (0) 1 f_m_isLame) (hr_m_loadWeight : rg (0) 120 f_m_loadWeight) (hr_m_food : rg (0) 20 f_m_food) (hr_m_miles : rg (0) 20 f_m_miles) (hr_m_isRefused : rg (0) 1 f_m_isRefused) (hr_m_tired : rg (0) 5 f_m_tired) (hwf : wfC v_clauseMany f_m_sumFrom f_m_codeFrom f_m_codeTo f_m_code) : gMi l yX10_often cX10_often 4 .int 10 [.ref (hm 0), .int n1] D cy (wMD cy hm v_taped v_walkers v_loads v_pieces v_changeCosts v_planned v_isMarch v_clauseMany v_place v_end v_bad v_clauses v_codes v_open v_stacked v_isOver v_isBehind v_atW v_atL v_atT v_atH v_atM v_atI v_atQ v_packing v_packed v_goPace v_goMinutes v_spentAt v_ranChanges f_m_tape f_m_knee f_m_weight f_m_isLame f_m_loadWeight f_m_owner f_m_food f_m_miles f_m_slope f_m_clauseLetter f_m_sumFrom f_m_codeFrom f_m_codeTo f_m_code f_m_codeArg f_m_newLetter f_m_newSum f_m_newFrom f_m_newTo f_m_newCode f_m_newArg f_m_stack f_m_worth f_m_isRefused f_m_least f_m_packPounds f_m_packOwner f_m_room f_m_givenTo f_m_canBe f_m_setPounds f_m_plainTime f_m_muleTime f_m_planTo f_m_march f_m_tired f_m_ranMinutes f_m_tiredAhead f_m_isReached f_m_toEnd f_m_upTo f_m_upNext f_m_byChanges f_m_bandPaces) NT sz (fun (r : Int32) (u : Int32 × Int32 × Int32 × Int32 × Int32 × Int32 × Int32 × Int32 × Int32 × (Nat → Int32) × (Nat → Int32) × (Nat → Int32) × (Nat → Int32) × (Nat → Int32) × (Nat → Int32)) => (0 ≤ (u.1).toInt ∧ (u.1).toInt ≤ 5) ∧ (0 ≤ (u.2.2.2.2.2.2.2.1).toInt ∧ (u.2.2.2.2.2.2.2.1).toInt ≤ 60) ∧ (rg (0) 1 (u.2.2.2.2.2.2.2.2.2.2.1)) ∧ (rg (0) 5 (u.2.2.2.2.2.2.2.2.2.2.2.1))) (fun u => wMD cy hm v_taped v_walkers v_loads v_pieces v_changeCosts v_planned v_isMarch v_clauseMany v_place v_end v_bad v_clauses v_codes v_open v_stacked v_isOver v_isBehind (u.1) (u.2.1) (u.2.2.1) (u.2.2.2.1) (u.2.2.2.2.1) (u.2.2.2.2.2.1) (u.2.2.2.2.2.2.1) v_packing v_packed (u.2.2.2.2.2.2.2.1) (u.2.2.2.2.2.2.2.2.1) v_spentAt v_ranChanges f_m_tape f_m_knee f_m_weight f_m_isLame f_m_loadWeight f_m_owner f_m_food f_m_miles f_m_slope f_m_clauseLetter f_m_sumFrom f_m_codeFrom f_m_codeTo f_m_code f_m_codeArg f_m_newLetter f_m_newSum f_m_newFrom f_m_newTo f_m_newCode f_m_newArg f_m_stack (u.2.2.2.2.2.2.2.2.2.1) (u.2.2.2.2.2.2.2.2.2.2.1) f_m_least f_m_packPounds f_m_packOwner f_m_room f_m_givenTo f_m_canBe f_m_setPounds f_m_plainTime f_m_muleTime f_m_planTo f_m_march (u.2.2.2.2.2.2.2.2.2.2.2.1) f_m_ranMinutes f_m_tiredAhead f_m_isReached f_m_toEnd (u.2.2.2.2.2.2.2.2.2.2.2.2.1) (u.2.2.2.2.2.2.2.2.2.2.2.2.2.1) (u.2.2.2.2.2.2.2.2.2.2.2.2.2.2) f_m_bandPaces) := by
  refine gMi_in (by decide) (Nat.le_of_ble_eq_true rfl) ?_
  intro p e s m args below meth c A ls Q hx hb hml hts hown hsz hP hK hD hN hAe hA hS hl hret
  subst hsz
  have hl : lv_has ls 4 [(0, .ref (hm 0)), (1, .int n1)] := hl
  have hrt := fun (r : Int32) (v_atW' : Int32) (v_atL' : Int32) (v_atT' : Int32) (v_atH' : Int32) (v_atM' : Int32) (v_atI' : Int32) (v_atQ' : Int32) (v_goPace' : Int32) (v_goMinutes' : Int32) (f_m_worth' : Nat → Int32) (f_m_isRefused' : Nat → Int32) (f_m_tired' : Nat → Int32) (f_m_upTo' : Nat → Int32) (f_m_upNext' : Nat → Int32) (f_m_byChanges' : Nat → Int32) (hp : (0 ≤ v_atW'.toInt ∧ v_atW'.toInt ≤ 5) ∧ (0 ≤ v_goPace'.toInt ∧ v_goPace'.toInt ≤ 60) ∧ (rg (0) 1 f_m_isRefused') ∧ (rg (0) 5 f_m_tired')) {H : Heap} {locs : List Loc} {pc : Nat} {ls : Array Slot} => hret r (v_atW', v_atL', v_atT', v_atH', v_atM', v_atI', v_atQ', v_goPace', v_goMinutes', f_m_worth', f_m_isRefused', f_m_tired', f_m_upTo', f_m_upNext', f_m_byChanges') (H := H) (locs := locs) (pc := pc) (ls := ls) hp
  clear hret
  refine lv_aload_n hx hb dX10_often_0 rfl (lv_at hl 0 rfl) ?_
  refine gt_MD_MD_walkers hx hb hts hown hK hP lwd_221 dX10_often_1 ?_
  refine lv_if_eq (tgt := 26) hx hb dX10_often_4 (by decide) (fun c_1 => ?_) (fun c_1 => ?_)
  · have gc_1 : v_walkers.toInt = 0 := i_eq (rfl : v_walkers.toInt = v_walkers.toInt) (by decide : (0 : Int32).toInt = 0) c_1
    refine lv_iconst (v := (-1)) hx hb dX10_often_26 (by decide) ?_
    have k_2 : ((-1) : Int32).toInt = (-1) := by decide
    exact hrt (-1) v_atW v_atL v_atT v_atH v_atM v_atI v_atQ v_goPace v_goMinutes f_m_worth f_m_isRefused f_m_tired f_m_upTo f_m_upNext f_m_byChanges ⟨(by omega), (by omega), hr_m_isRefused, hr_m_tired⟩ hP hD hS rfl dX10_often_27
  · have gc_1 : v_walkers.toInt ≠ 0 := i_ne (rfl : v_walkers.toInt = v_walkers.toInt) (by decide : (0 : Int32).toInt = 0) c_1
    refine lv_aload_n hx hb dX10_often_7 rfl (lv_at hl 0 rfl) ?_
    refine gt_MD_MD_pieces hx hb hts hown hK hP lwd_265 dX10_often_8 ?_
    refine lv_if_eq (tgt := 26) hx hb dX10_often_11 (by decide) (fun c_3 => ?_) (fun c_3 => ?_)
    · have gc_3 : v_pieces.toInt = 0 := i_eq (rfl : v_pieces.toInt = v_pieces.toInt) (by decide : (0 : Int32).toInt = 0) c_3
      refine lv_iconst (v := (-1)) hx hb dX10_often_26 (by decide) ?_
      have k_4 : ((-1) : Int32).toInt = (-1) := by decide
      exact hrt (-1) v_atW v_atL v_atT v_atH v_atM v_atI v_atQ v_goPace v_goMinutes f_m_worth f_m_isRefused f_m_tired f_m_upTo f_m_upNext f_m_byChanges ⟨(by omega), (by omega), hr_m_isRefused, hr_m_tired⟩ hP hD hS rfl dX10_often_27
    · have gc_3 : v_pieces.toInt ≠ 0 := i_ne (rfl : v_pieces.toInt = v_pieces.toInt) (by decide : (0 : Int32).toInt = 0) c_3
      refine lv_iload_n hx hb dX10_often_14 rfl (lv_at hl 1 rfl) ?_
      refine lv_i2l (v := n1.toInt64) hx hb dX10_often_15 rfl ?_
      have hl_5 : n1.toInt64.toInt = n1.toInt := i_l (rfl : n1.toInt = n1.toInt)
      refine lv_lconst (v := 0) hx hb dX10_often_16 (by decide) ?_
      refine lv_ldc2 hx hb hown (hts _ lwd_983) dX10_often_17 ?_
      have k_6 : (0 : Int64).toInt = 0 := by decide
      have k_7 : (3 : Int64).toInt = 3 := by decide
      refine xi hD hS hA (xS (As := [.long n1.toInt64, .long 0, .long 3]) (rest := []) hx hb hml hown hts hK hP hD hS hA NT_ok hN hAe hl.1 ⟨Nat.le_refl _, Nat.le_refl _⟩ (c_X10_lies l D cy hm v_taped v_walkers v_loads v_pieces v_changeCosts v_planned v_isMarch v_clauseMany v_place v_end v_bad v_clauses v_codes v_open v_stacked v_isOver v_isBehind v_atW v_atL v_atT v_atH v_atM v_atI v_atQ v_packing v_packed v_goPace v_goMinutes v_spentAt v_ranChanges f_m_tape f_m_knee f_m_weight f_m_isLame f_m_loadWeight f_m_owner f_m_food f_m_miles f_m_slope f_m_clauseLetter f_m_sumFrom f_m_codeFrom f_m_codeTo f_m_code f_m_codeArg f_m_newLetter f_m_newSum f_m_newFrom f_m_newTo f_m_newCode f_m_newArg f_m_stack f_m_worth f_m_isRefused f_m_least f_m_packPounds f_m_packOwner f_m_room f_m_givenTo f_m_canBe f_m_setPounds f_m_plainTime f_m_muleTime f_m_planTo f_m_march f_m_tired f_m_ranMinutes f_m_tiredAhead f_m_isReached f_m_toEnd f_m_upTo f_m_upNext f_m_byChanges f_m_bandPaces s.heap.size n1.toInt64 0 3) (gi_S lwd_226 lwd_227 lwd_5 lwd_228) hd_X10_lies ⟨Nat.le_of_ble_eq_true rfl, Nat.le_of_ble_eq_true rfl⟩ rfl (Nat.le_of_ble_eq_true rfl) dX10_often_20) (fun r_9 u_8 H locs hw hP hD hS => ?_)
      try dsimp only at hw hP hD
      obtain ⟨p_10, p_11⟩ := hw
      refine lv_if_ne (tgt := 28) hx hb dX10_often_23 (by decide) (fun c_12 => ?_) (fun c_12 => ?_)
      · have gc_12 : r_9.toInt ≠ 0 := i_ne (rfl : r_9.toInt = r_9.toInt) (by decide : (0 : Int32).toInt = 0) c_12
        refine lv_aload_n hx hb dX10_often_28 rfl (lv_at hl 0 rfl) ?_
        refine xi hD hS hA (xV (As := []) (rest := []) hx hb hml hown hts hK hP hD hS hA NT_ok hN hAe hl.1 ⟨Nat.le_refl _, Nat.le_refl _⟩ 0 rfl rfl rfl (c_X10_isTold l D cy hm v_taped v_walkers v_loads v_pieces v_changeCosts v_planned v_isMarch v_clauseMany v_place v_end v_bad v_clauses v_codes v_open v_stacked v_isOver v_isBehind v_atW v_atL v_atT v_atH v_atM v_atI v_atQ v_packing v_packed v_goPace v_goMinutes v_spentAt v_ranChanges f_m_tape f_m_knee f_m_weight f_m_isLame f_m_loadWeight f_m_owner f_m_food f_m_miles f_m_slope f_m_clauseLetter f_m_sumFrom f_m_codeFrom f_m_codeTo f_m_code f_m_codeArg f_m_newLetter f_m_newSum f_m_newFrom f_m_newTo f_m_newCode f_m_newArg f_m_stack f_m_worth f_m_isRefused f_m_least f_m_packPounds f_m_packOwner f_m_room f_m_givenTo f_m_canBe f_m_setPounds f_m_plainTime f_m_muleTime f_m_planTo f_m_march f_m_tired f_m_ranMinutes f_m_tiredAhead f_m_isReached f_m_toEnd f_m_upTo f_m_upNext f_m_byChanges f_m_bandPaces H.size (by omega)) (gi_V lwd_1104 lwd_1105 lwd_1106 lwd_5 lwd_1107) ⟨rfl, hd_X10_isTold⟩ ⟨Nat.le_of_ble_eq_true rfl, Nat.le_of_ble_eq_true rfl⟩ rfl (Nat.le_of_ble_eq_true rfl) dX10_often_29) (fun r_14 u_13 H locs hw hP hD hS => ?_)
        try dsimp only at hw hP hD
        obtain ⟨p_15, p_16⟩ := hw
        refine lv_if_ne (tgt := 38) hx hb dX10_often_32 (by decide) (fun c_17 => ?_) (fun c_17 => ?_)
        · have gc_17 : r_14.toInt ≠ 0 := i_ne (rfl : r_14.toInt = r_14.toInt) (by decide : (0 : Int32).toInt = 0) c_17
          refine lv_aload_n hx hb dX10_often_38 rfl (lv_at hl 0 rfl) ?_
          refine xv hD hS hA (xV (As := []) (rest := []) hx hb hml hown hts hK hP hD hS hA NT_ok hN hAe hl.1 ⟨Nat.le_refl _, Nat.le_refl _⟩ 0 rfl rfl rfl (c_X10_laysChanges l D cy hm v_taped v_walkers v_loads v_pieces v_changeCosts v_planned v_isMarch v_clauseMany v_place v_end v_bad v_clauses v_codes v_open v_stacked v_isOver v_isBehind v_atW v_atL v_atT v_atH v_atM v_atI v_atQ v_packing v_packed v_goPace v_goMinutes v_spentAt v_ranChanges f_m_tape f_m_knee f_m_weight f_m_isLame f_m_loadWeight f_m_owner f_m_food f_m_miles f_m_slope f_m_clauseLetter f_m_sumFrom f_m_codeFrom f_m_codeTo f_m_code f_m_codeArg f_m_newLetter f_m_newSum f_m_newFrom f_m_newTo f_m_newCode f_m_newArg f_m_stack f_m_worth f_m_isRefused f_m_least f_m_packPounds f_m_packOwner f_m_room f_m_givenTo f_m_canBe f_m_setPounds f_m_plainTime f_m_muleTime f_m_planTo f_m_march f_m_tired f_m_ranMinutes f_m_tiredAhead f_m_isReached f_m_toEnd f_m_upTo f_m_upNext f_m_byChanges f_m_bandPaces H.size (by omega) (by omega) (by omega) (by omega) (by omega) (by omega) hr_m_weight hr_m_isLame hr_m_loadWeight hr_m_food hr_m_miles hr_m_isRefused hr_m_tired hwf (by omega)) (gi_V lwd_1139 lwd_1140 lwd_1141 lwd_5 lwd_1142) ⟨rfl, hd_X10_laysChanges⟩ ⟨Nat.le_of_ble_eq_true rfl, Nat.le_of_ble_eq_true rfl⟩ rfl (Nat.le_of_ble_eq_true rfl) dX10_often_39) (fun u_18 H locs hw hP hD hS => ?_)
          obtain ⟨zatW_20, zatL_21, zatT_22, zatH_23, zatM_24, zatI_25, zatQ_26, zgoPace_27, zgoMinutes_28, zworth_29, zisRefused_30, ztired_31, zupTo_32, zupNext_33, zbyChanges_34⟩ := u_18
          try dsimp only at hw hP hD
          obtain ⟨p_35, p_36, p_37, p_38⟩ := hw
          refine lv_ldcw hx hb hown (hts _ lwd_827) dX10_often_42 ?_
          refine lv_istore_n (lv' := [(2, .int 1000000000), (0, .ref (hm 0)), (1, .int n1)]) hx hb dX10_often_45 rfl hl (by decide) rfl (fun ls hl => ?_)
          refine lv_iconst (v := 0) hx hb dX10_often_46 (by decide) ?_
          refine lv_istore_n (lv' := [(3, .int 0), (2, .int 1000000000), (0, .ref (hm 0)), (1, .int n1)]) hx hb dX10_often_47 rfl hl (by decide) rfl (fun ls hl => ?_)
          have L48_43 : ∀ (n : Nat) (l_41 : Int32) (l_42 : Int32), (0 ≤ l_42.toInt ∧ l_42.toInt ≤ 4) → 5 - l_42.toInt < n → ∀ (H : Heap) (locs : List Loc) (ls : Array Slot), va_P D vwCl (wMD cy hm v_taped v_walkers v_loads v_pieces v_changeCosts v_planned v_isMarch v_clauseMany v_place v_end v_bad v_clauses v_codes v_open v_stacked v_isOver v_isBehind zatW_20 zatL_21 zatT_22 zatH_23 zatM_24 zatI_25 zatQ_26 v_packing v_packed zgoPace_27 zgoMinutes_28 v_spentAt v_ranChanges f_m_tape f_m_knee f_m_weight f_m_isLame f_m_loadWeight f_m_owner f_m_food f_m_miles f_m_slope f_m_clauseLetter f_m_sumFrom f_m_codeFrom f_m_codeTo f_m_code f_m_codeArg f_m_newLetter f_m_newSum f_m_newFrom f_m_newTo f_m_newCode f_m_newArg f_m_stack zworth_29 zisRefused_30 f_m_least f_m_packPounds f_m_packOwner f_m_room f_m_givenTo f_m_canBe f_m_setPounds f_m_plainTime f_m_muleTime f_m_planTo f_m_march ztired_31 f_m_ranMinutes f_m_tiredAhead f_m_isReached f_m_toEnd zupTo_32 zupNext_33 zbyChanges_34 f_m_bandPaces) H → va_D A (wMD cy hm v_taped v_walkers v_loads v_pieces v_changeCosts v_planned v_isMarch v_clauseMany v_place v_end v_bad v_clauses v_codes v_open v_stacked v_isOver v_isBehind zatW_20 zatL_21 zatT_22 zatH_23 zatM_24 zatI_25 zatQ_26 v_packing v_packed zgoPace_27 zgoMinutes_28 v_spentAt v_ranChanges f_m_tape f_m_knee f_m_weight f_m_isLame f_m_loadWeight f_m_owner f_m_food f_m_miles f_m_slope f_m_clauseLetter f_m_sumFrom f_m_codeFrom f_m_codeTo f_m_code f_m_codeArg f_m_newLetter f_m_newSum f_m_newFrom f_m_newTo f_m_newCode f_m_newArg f_m_stack zworth_29 zisRefused_30 f_m_least f_m_packPounds f_m_packOwner f_m_room f_m_givenTo f_m_canBe f_m_setPounds f_m_plainTime f_m_muleTime f_m_planTo f_m_march ztired_31 f_m_ranMinutes f_m_tiredAhead f_m_isReached f_m_toEnd zupTo_32 zupNext_33 zbyChanges_34 f_m_bandPaces) → va_S A s.heap H locs → lv_has ls 4 [(3, .int l_42), (2, .int l_41), (0, .ref (hm 0)), (1, .int n1)] → W p l e (gRm 10) s m args below meth c H locs 0 0 Q (F0 m 48 ls []) := by
            intro n
            induction n with
            | zero => intro l_41 l_42 hL48_43_0 hm; exact absurd hm (by omega)
            | succ n ih48_43 =>
              intro l_41 l_42 hL48_43_0 hmL48_43 H locs ls hP hD hS hl
              refine lv_iload_n hx hb dX10_often_48 rfl (lv_at hl 0 rfl) ?_
              refine lv_iload_n hx hb dX10_often_49 rfl (lv_at hl 3 rfl) ?_
              refine lv_icmp_gt (tgt := 102) hx hb dX10_often_50 (by decide) (fun c_44 => ?_) (fun c_44 => ?_)
              · have gc_44 : n1.toInt < l_42.toInt := i_lt (rfl : n1.toInt = n1.toInt) (rfl : l_42.toInt = l_42.toInt) c_44
                refine lv_iload_n hx hb dX10_often_102 rfl (lv_at hl 1 rfl) ?_
                refine lv_ldcw hx hb hown (hts _ lwd_827) dX10_often_103 ?_
                refine lv_icmp_ne (tgt := 114) hx hb dX10_often_106 (by decide) (fun c_45 => ?_) (fun c_45 => ?_)
                · have gc_45 : l_41.toInt ≠ 1000000000 := i_ne (rfl : l_41.toInt = l_41.toInt) (by decide : (1000000000 : Int32).toInt = 1000000000) c_45
                  refine lv_iload_n hx hb dX10_often_114 rfl (lv_at hl 1 rfl) ?_
                  exact hrt l_41 zatW_20 zatL_21 zatT_22 zatH_23 zatM_24 zatI_25 zatQ_26 zgoPace_27 zgoMinutes_28 zworth_29 zisRefused_30 ztired_31 zupTo_32 zupNext_33 zbyChanges_34 ⟨(by omega), (by omega), p_37, p_38⟩ hP hD hS rfl dX10_often_115
                · have gc_45 : l_41.toInt = 1000000000 := i_eq (rfl : l_41.toInt = l_41.toInt) (by decide : (1000000000 : Int32).toInt = 1000000000) c_45
                  refine lv_bipush (v := (-2)) hx hb dX10_often_109 (by decide) ?_
                  refine lv_goto (tgt := 115) hx hb dX10_often_111 (by decide) ?_
                  have k_46 : ((-2) : Int32).toInt = (-2) := by decide
                  exact hrt (-2) zatW_20 zatL_21 zatT_22 zatH_23 zatM_24 zatI_25 zatQ_26 zgoPace_27 zgoMinutes_28 zworth_29 zisRefused_30 ztired_31 zupTo_32 zupNext_33 zbyChanges_34 ⟨(by omega), (by omega), p_37, p_38⟩ hP hD hS rfl dX10_often_115
              · have gc_44 : l_42.toInt ≤ n1.toInt := i_nlt (rfl : n1.toInt = n1.toInt) (rfl : l_42.toInt = l_42.toInt) c_44
                refine lv_aload_n hx hb dX10_often_53 rfl (lv_at hl 2 rfl) ?_
                refine gt_MD_MD_byChanges hx hb hts hown hK hP lwd_200 dX10_often_54 ?_
                refine lv_iload_n hx hb dX10_often_57 rfl (lv_at hl 0 rfl) ?_
                refine al_m_byChanges hx hb hK hP (i_in (rfl : l_42.toInt = l_42.toInt) (by omega) (by omega)) dX10_often_58 (fun n_47 en_47 => ?_)
                refine lv_ldcw hx hb hown (hts _ lwd_827) dX10_often_59 ?_
                refine lv_icmp_ge (tgt := 96) hx hb dX10_often_62 (by decide) (fun c_48 => ?_) (fun c_48 => ?_)
                · have gc_48 : 1000000000 ≤ n_47.toInt := i_le (by decide : (1000000000 : Int32).toInt = 1000000000) (rfl : n_47.toInt = n_47.toInt) c_48
                  obtain ⟨n_49, en_49⟩ : ∃ y : Int32, y = l_42 + 1 := ⟨_, rfl⟩
                  have tn_49 : n_49.toInt = l_42.toInt + 1 := i_add en_49 (rfl : l_42.toInt = l_42.toInt) (by decide : (1 : Int32).toInt = 1) (by omega) (by omega)
                  refine lv_iinc (v := n_49) (lv' := [(3, .int n_49), (2, .int l_41), (0, .ref (hm 0)), (1, .int n1)]) hx hb dX10_often_96 hl (k := 0) rfl (by rw [en_49]; rfl) (by decide) rfl (fun ls hl => ?_)
                  refine lv_goto (tgt := 48) hx hb dX10_often_99 (by decide) ?_
                  exact ih48_43 l_41 n_49 (by omega) (by omega) _ _ _ hP hD hS (lv_sub hl [0, 1, 2, 3] rfl)
                · have gc_48 : n_47.toInt < 1000000000 := i_nle (by decide : (1000000000 : Int32).toInt = 1000000000) (rfl : n_47.toInt = n_47.toInt) c_48
                  refine lv_aload_n hx hb dX10_often_65 rfl (lv_at hl 2 rfl) ?_
                  refine gt_MD_MD_byChanges hx hb hts hown hK hP lwd_200 dX10_often_66 ?_
                  refine lv_iload_n hx hb dX10_often_69 rfl (lv_at hl 0 rfl) ?_
                  refine al_m_byChanges hx hb hK hP (i_in (rfl : l_42.toInt = l_42.toInt) (by omega) (by omega)) dX10_often_70 (fun n_50 en_50 => ?_)
                  obtain rfl : n_47 = n_50 := en_47.trans en_50.symm
                  refine lv_iload_n hx hb dX10_often_71 rfl (lv_at hl 0 rfl) ?_
                  refine lv_aload_n hx hb dX10_often_72 rfl (lv_at hl 2 rfl) ?_
                  refine gt_MD_MD_changeCosts hx hb hts hown hK hP lwd_156 dX10_often_73 ?_
                  refine lv_imul hx hb dX10_often_76 ?_
                  refine lv_topi (fun n_51 en_51 => ?_)
                  refine lv_iadd hx hb dX10_often_77 ?_
                  refine lv_topi (fun n_52 en_52 => ?_)
                  refine lv_iload_n hx hb dX10_often_78 rfl (lv_at hl 1 rfl) ?_
                  refine lv_icmp_ge (tgt := 96) hx hb dX10_often_79 (by decide) (fun c_53 => ?_) (fun c_53 => ?_)
                  · have gc_53 : l_41.toInt ≤ n_52.toInt := i_le (rfl : l_41.toInt = l_41.toInt) (rfl : n_52.toInt = n_52.toInt) c_53
                    obtain ⟨n_54, en_54⟩ : ∃ y : Int32, y = l_42 + 1 := ⟨_, rfl⟩
                    have tn_54 : n_54.toInt = l_42.toInt + 1 := i_add en_54 (rfl : l_42.toInt = l_42.toInt) (by decide : (1 : Int32).toInt = 1) (by omega) (by omega)
                    refine lv_iinc (v := n_54) (lv' := [(3, .int n_54), (2, .int l_41), (0, .ref (hm 0)), (1, .int n1)]) hx hb dX10_often_96 hl (k := 0) rfl (by rw [en_54]; rfl) (by decide) rfl (fun ls hl => ?_)
                    refine lv_goto (tgt := 48) hx hb dX10_often_99 (by decide) ?_
                    exact ih48_43 l_41 n_54 (by omega) (by omega) _ _ _ hP hD hS (lv_sub hl [0, 1, 2, 3] rfl)
                  · have gc_53 : n_52.toInt < l_41.toInt := i_nle (rfl : l_41.toInt = l_41.toInt) (rfl : n_52.toInt = n_52.toInt) c_53
                    refine lv_aload_n hx hb dX10_often_82 rfl (lv_at hl 2 rfl) ?_
                    refine gt_MD_MD_byChanges hx hb hts hown hK hP lwd_200 dX10_often_83 ?_
                    refine lv_iload_n hx hb dX10_often_86 rfl (lv_at hl 0 rfl) ?_
                    refine al_m_byChanges hx hb hK hP (i_in (rfl : l_42.toInt = l_42.toInt) (by omega) (by omega)) dX10_often_87 (fun n_55 en_55 => ?_)
                    obtain rfl : n_47 = n_55 := en_47.trans en_55.symm
                    refine lv_iload_n hx hb dX10_often_88 rfl (lv_at hl 0 rfl) ?_
                    refine lv_aload_n hx hb dX10_often_89 rfl (lv_at hl 2 rfl) ?_
                    refine gt_MD_MD_changeCosts hx hb hts hown hK hP lwd_156 dX10_often_90 ?_
                    refine lv_imul hx hb dX10_often_93 ?_
                    refine lv_topi (fun n_56 en_56 => ?_)
                    obtain rfl : n_51 = n_56 := en_51.trans en_56.symm
                    refine lv_iadd hx hb dX10_often_94 ?_
                    refine lv_topi (fun n_57 en_57 => ?_)
                    obtain rfl : n_52 = n_57 := en_52.trans en_57.symm
                    refine lv_istore_n (lv' := [(2, .int n_52), (3, .int l_42), (0, .ref (hm 0)), (1, .int n1)]) hx hb dX10_often_95 rfl hl (by decide) rfl (fun ls hl => ?_)
                    obtain ⟨n_58, en_58⟩ : ∃ y : Int32, y = l_42 + 1 := ⟨_, rfl⟩
                    have tn_58 : n_58.toInt = l_42.toInt + 1 := i_add en_58 (rfl : l_42.toInt = l_42.toInt) (by decide : (1 : Int32).toInt = 1) (by omega) (by omega)
                    refine lv_iinc (v := n_58) (lv' := [(3, .int n_58), (2, .int n_52), (0, .ref (hm 0)), (1, .int n1)]) hx hb dX10_often_96 hl (k := 1) rfl (by rw [en_58]; rfl) (by decide) rfl (fun ls hl => ?_)
                    refine lv_goto (tgt := 48) hx hb dX10_often_99 (by decide) ?_
                    exact ih48_43 n_52 n_58 (by omega) (by omega) _ _ _ hP hD hS (lv_sub hl [0, 1, 2, 3] rfl)
          have k_59 : (1000000000 : Int32).toInt = 1000000000 := by decide
          have k_60 : (0 : Int32).toInt = 0 := by decide
          exact L48_43 8589934592 1000000000 0 (by omega) (by omega) _ _ _ hP hD hS (lv_sub hl [0, 1, 2, 3] rfl)
        · have gc_17 : r_14.toInt = 0 := i_eq (rfl : r_14.toInt = r_14.toInt) (by decide : (0 : Int32).toInt = 0) c_17
          refine lv_bipush (v := (-2)) hx hb dX10_often_35 (by decide) ?_
          have k_61 : ((-2) : Int32).toInt = (-2) := by decide
          exact hrt (-2) v_atW v_atL v_atT v_atH v_atM v_atI v_atQ v_goPace v_goMinutes f_m_worth f_m_isRefused f_m_tired f_m_upTo f_m_upNext f_m_byChanges ⟨(by omega), (by omega), hr_m_isRefused, hr_m_tired⟩ hP hD hS rfl dX10_often_37
      · have gc_12 : r_9.toInt = 0 := i_eq (rfl : r_9.toInt = r_9.toInt) (by decide : (0 : Int32).toInt = 0) c_12
        refine lv_iconst (v := (-1)) hx hb dX10_often_26 (by decide) ?_
        have k_62 : ((-1) : Int32).toInt = (-1) := by decide
        exact hrt (-1) v_atW v_atL v_atT v_atH v_atM v_atI v_atQ v_goPace v_goMinutes f_m_worth f_m_isRefused f_m_tired f_m_upTo f_m_upNext f_m_byChanges ⟨(by omega), (by omega), hr_m_isRefused, hr_m_tired⟩ hP hD hS rfl dX10_often_27
set_option maxHeartbeats 16000000 in
set_option maxRecDepth 100000 in
theorem c_X10_edge (l : Launch) (D : va_G) (cy : Nat → ClassId) (hm : Nat → Nat) (v_taped v_walkers v_loads v_pieces v_changeCosts v_planned v_isMarch v_clauseMany v_place v_end v_bad v_clauses v_codes v_open v_stacked v_isOver v_isBehind v_atW v_atL v_atT v_atH v_atM v_atI v_atQ v_packing v_packed v_goPace v_goMinutes v_spentAt v_ranChanges : Int32) (f_m_tape f_m_knee f_m_weight f_m_isLame f_m_loadWeight f_m_owner f_m_food f_m_miles f_m_slope f_m_clauseLetter f_m_sumFrom f_m_codeFrom f_m_codeTo f_m_code f_m_codeArg f_m_newLetter f_m_newSum f_m_newFrom f_m_newTo f_m_newCode f_m_newArg f_m_stack f_m_worth f_m_isRefused f_m_least f_m_packPounds f_m_packOwner f_m_room f_m_givenTo f_m_canBe f_m_setPounds f_m_plainTime f_m_muleTime f_m_planTo f_m_march f_m_tired f_m_ranMinutes f_m_tiredAhead f_m_isReached f_m_toEnd f_m_upTo f_m_upNext f_m_byChanges f_m_bandPaces : Nat → Int32) (sz : Nat) (hb_v_walkers : 0 ≤ v_walkers.toInt ∧ v_walkers.toInt ≤ 6) (hb_v_loads : 0 ≤ v_loads.toInt ∧ v_loads.toInt ≤ 9) (hb_v_pieces : 0 ≤ v_pieces.toInt ∧ v_pieces.toInt ≤ 10) (hb_v_clauseMany : 0 ≤ v_clauseMany.toInt ∧ v_clauseMany.toInt ≤ 14) (hb_v_atW : 0 ≤ v_atW.toInt ∧ v_atW.toInt ≤ 5) (hb_v_goPace : 0 ≤ v_goPace.toInt ∧ v_goPace.toInt ≤ 60) (hr_m_weight : rg (0) 250 f_m_weight) (hr_m_isLame : rg (0) 1 f_m_isLame) (hr_m_loadWeight : rg (0) 120 f_m_loadWeight) (hr_m_food : rg (0) 20 f_m_food) (hr_m_miles : rg (0) 20 f_m_miles) (hr_m_isRefused : rg (0) 1 f_m_isRefused) (hr_m_tired : rg (0) 5 f_m_tired) (hwf : wfC v_clauseMany f_m_sumFrom f_m_codeFrom f_m_codeTo f_m_code) : gMi l yX10_edge cX10_edge 4 .int 10 [.ref (hm 0)] D cy (wMD cy hm v_taped v_walkers v_loads v_pieces v_changeCosts v_planned v_isMarch v_clauseMany v_place v_end v_bad v_clauses v_codes v_open v_stacked v_isOver v_isBehind v_atW v_atL v_atT v_atH v_atM v_atI v_atQ v_packing v_packed v_goPace v_goMinutes v_spentAt v_ranChanges f_m_tape f_m_knee f_m_weight f_m_isLame f_m_loadWeight f_m_owner f_m_food f_m_miles f_m_slope f_m_clauseLetter f_m_sumFrom f_m_codeFrom f_m_codeTo f_m_code f_m_codeArg f_m_newLetter f_m_newSum f_m_newFrom f_m_newTo f_m_newCode f_m_newArg f_m_stack f_m_worth f_m_isRefused f_m_least f_m_packPounds f_m_packOwner f_m_room f_m_givenTo f_m_canBe f_m_setPounds f_m_plainTime f_m_muleTime f_m_planTo f_m_march f_m_tired f_m_ranMinutes f_m_tiredAhead f_m_isReached f_m_toEnd f_m_upTo f_m_upNext f_m_byChanges f_m_bandPaces) NT sz (fun (r : Int32) (u : Int32 × Int32 × Int32 × Int32 × Int32 × Int32 × Int32 × Int32 × Int32 × (Nat → Int32) × (Nat → Int32) × (Nat → Int32) × (Nat → Int32) × (Nat → Int32) × (Nat → Int32)) => (0 ≤ (u.1).toInt ∧ (u.1).toInt ≤ 5) ∧ (0 ≤ (u.2.2.2.2.2.2.2.1).toInt ∧ (u.2.2.2.2.2.2.2.1).toInt ≤ 60) ∧ (rg (0) 1 (u.2.2.2.2.2.2.2.2.2.2.1)) ∧ (rg (0) 5 (u.2.2.2.2.2.2.2.2.2.2.2.1))) (fun u => wMD cy hm v_taped v_walkers v_loads v_pieces v_changeCosts v_planned v_isMarch v_clauseMany v_place v_end v_bad v_clauses v_codes v_open v_stacked v_isOver v_isBehind (u.1) (u.2.1) (u.2.2.1) (u.2.2.2.1) (u.2.2.2.2.1) (u.2.2.2.2.2.1) (u.2.2.2.2.2.2.1) v_packing v_packed (u.2.2.2.2.2.2.2.1) (u.2.2.2.2.2.2.2.2.1) v_spentAt v_ranChanges f_m_tape f_m_knee f_m_weight f_m_isLame f_m_loadWeight f_m_owner f_m_food f_m_miles f_m_slope f_m_clauseLetter f_m_sumFrom f_m_codeFrom f_m_codeTo f_m_code f_m_codeArg f_m_newLetter f_m_newSum f_m_newFrom f_m_newTo f_m_newCode f_m_newArg f_m_stack (u.2.2.2.2.2.2.2.2.2.1) (u.2.2.2.2.2.2.2.2.2.2.1) f_m_least f_m_packPounds f_m_packOwner f_m_room f_m_givenTo f_m_canBe f_m_setPounds f_m_plainTime f_m_muleTime f_m_planTo f_m_march (u.2.2.2.2.2.2.2.2.2.2.2.1) f_m_ranMinutes f_m_tiredAhead f_m_isReached f_m_toEnd (u.2.2.2.2.2.2.2.2.2.2.2.2.1) (u.2.2.2.2.2.2.2.2.2.2.2.2.2.1) (u.2.2.2.2.2.2.2.2.2.2.2.2.2.2) f_m_bandPaces) := by
  refine gMi_in (by decide) (Nat.le_of_ble_eq_true rfl) ?_
  intro p e s m args below meth c A ls Q hx hb hml hts hown hsz hP hK hD hN hAe hA hS hl hret
  subst hsz
  have hl : lv_has ls 4 [(0, .ref (hm 0))] := hl
  have hrt := fun (r : Int32) (v_atW' : Int32) (v_atL' : Int32) (v_atT' : Int32) (v_atH' : Int32) (v_atM' : Int32) (v_atI' : Int32) (v_atQ' : Int32) (v_goPace' : Int32) (v_goMinutes' : Int32) (f_m_worth' : Nat → Int32) (f_m_isRefused' : Nat → Int32) (f_m_tired' : Nat → Int32) (f_m_upTo' : Nat → Int32) (f_m_upNext' : Nat → Int32) (f_m_byChanges' : Nat → Int32) (hp : (0 ≤ v_atW'.toInt ∧ v_atW'.toInt ≤ 5) ∧ (0 ≤ v_goPace'.toInt ∧ v_goPace'.toInt ≤ 60) ∧ (rg (0) 1 f_m_isRefused') ∧ (rg (0) 5 f_m_tired')) {H : Heap} {locs : List Loc} {pc : Nat} {ls : Array Slot} => hret r (v_atW', v_atL', v_atT', v_atH', v_atM', v_atI', v_atQ', v_goPace', v_goMinutes', f_m_worth', f_m_isRefused', f_m_tired', f_m_upTo', f_m_upNext', f_m_byChanges') (H := H) (locs := locs) (pc := pc) (ls := ls) hp
  clear hret
  refine lv_aload_n hx hb dX10_edge_0 rfl (lv_at hl 0 rfl) ?_
  refine gt_MD_MD_walkers hx hb hts hown hK hP lwd_221 dX10_edge_1 ?_
  refine lv_if_eq (tgt := 14) hx hb dX10_edge_4 (by decide) (fun c_1 => ?_) (fun c_1 => ?_)
  · have gc_1 : v_walkers.toInt = 0 := i_eq (rfl : v_walkers.toInt = v_walkers.toInt) (by decide : (0 : Int32).toInt = 0) c_1
    refine lv_iconst (v := (-1)) hx hb dX10_edge_14 (by decide) ?_
    have k_2 : ((-1) : Int32).toInt = (-1) := by decide
    exact hrt (-1) v_atW v_atL v_atT v_atH v_atM v_atI v_atQ v_goPace v_goMinutes f_m_worth f_m_isRefused f_m_tired f_m_upTo f_m_upNext f_m_byChanges ⟨(by omega), (by omega), hr_m_isRefused, hr_m_tired⟩ hP hD hS rfl dX10_edge_15
  · have gc_1 : v_walkers.toInt ≠ 0 := i_ne (rfl : v_walkers.toInt = v_walkers.toInt) (by decide : (0 : Int32).toInt = 0) c_1
    refine lv_aload_n hx hb dX10_edge_7 rfl (lv_at hl 0 rfl) ?_
    refine gt_MD_MD_pieces hx hb hts hown hK hP lwd_265 dX10_edge_8 ?_
    refine lv_if_ne (tgt := 16) hx hb dX10_edge_11 (by decide) (fun c_3 => ?_) (fun c_3 => ?_)
    · have gc_3 : v_pieces.toInt ≠ 0 := i_ne (rfl : v_pieces.toInt = v_pieces.toInt) (by decide : (0 : Int32).toInt = 0) c_3
      refine lv_aload_n hx hb dX10_edge_16 rfl (lv_at hl 0 rfl) ?_
      refine xi hD hS hA (xV (As := []) (rest := []) hx hb hml hown hts hK hP hD hS hA NT_ok hN hAe hl.1 ⟨Nat.le_refl _, Nat.le_refl _⟩ 0 rfl rfl rfl (c_X10_isTold l D cy hm v_taped v_walkers v_loads v_pieces v_changeCosts v_planned v_isMarch v_clauseMany v_place v_end v_bad v_clauses v_codes v_open v_stacked v_isOver v_isBehind v_atW v_atL v_atT v_atH v_atM v_atI v_atQ v_packing v_packed v_goPace v_goMinutes v_spentAt v_ranChanges f_m_tape f_m_knee f_m_weight f_m_isLame f_m_loadWeight f_m_owner f_m_food f_m_miles f_m_slope f_m_clauseLetter f_m_sumFrom f_m_codeFrom f_m_codeTo f_m_code f_m_codeArg f_m_newLetter f_m_newSum f_m_newFrom f_m_newTo f_m_newCode f_m_newArg f_m_stack f_m_worth f_m_isRefused f_m_least f_m_packPounds f_m_packOwner f_m_room f_m_givenTo f_m_canBe f_m_setPounds f_m_plainTime f_m_muleTime f_m_planTo f_m_march f_m_tired f_m_ranMinutes f_m_tiredAhead f_m_isReached f_m_toEnd f_m_upTo f_m_upNext f_m_byChanges f_m_bandPaces s.heap.size (by omega)) (gi_V lwd_1104 lwd_1105 lwd_1106 lwd_5 lwd_1107) ⟨rfl, hd_X10_isTold⟩ ⟨Nat.le_of_ble_eq_true rfl, Nat.le_of_ble_eq_true rfl⟩ rfl (Nat.le_of_ble_eq_true rfl) dX10_edge_17) (fun r_5 u_4 H locs hw hP hD hS => ?_)
      try dsimp only at hw hP hD
      obtain ⟨p_6, p_7⟩ := hw
      refine lv_if_ne (tgt := 26) hx hb dX10_edge_20 (by decide) (fun c_8 => ?_) (fun c_8 => ?_)
      · have gc_8 : r_5.toInt ≠ 0 := i_ne (rfl : r_5.toInt = r_5.toInt) (by decide : (0 : Int32).toInt = 0) c_8
        refine lv_aload_n hx hb dX10_edge_26 rfl (lv_at hl 0 rfl) ?_
        refine xv hD hS hA (xV (As := []) (rest := []) hx hb hml hown hts hK hP hD hS hA NT_ok hN hAe hl.1 ⟨Nat.le_refl _, Nat.le_refl _⟩ 0 rfl rfl rfl (c_X10_laysChanges l D cy hm v_taped v_walkers v_loads v_pieces v_changeCosts v_planned v_isMarch v_clauseMany v_place v_end v_bad v_clauses v_codes v_open v_stacked v_isOver v_isBehind v_atW v_atL v_atT v_atH v_atM v_atI v_atQ v_packing v_packed v_goPace v_goMinutes v_spentAt v_ranChanges f_m_tape f_m_knee f_m_weight f_m_isLame f_m_loadWeight f_m_owner f_m_food f_m_miles f_m_slope f_m_clauseLetter f_m_sumFrom f_m_codeFrom f_m_codeTo f_m_code f_m_codeArg f_m_newLetter f_m_newSum f_m_newFrom f_m_newTo f_m_newCode f_m_newArg f_m_stack f_m_worth f_m_isRefused f_m_least f_m_packPounds f_m_packOwner f_m_room f_m_givenTo f_m_canBe f_m_setPounds f_m_plainTime f_m_muleTime f_m_planTo f_m_march f_m_tired f_m_ranMinutes f_m_tiredAhead f_m_isReached f_m_toEnd f_m_upTo f_m_upNext f_m_byChanges f_m_bandPaces H.size (by omega) (by omega) (by omega) (by omega) (by omega) (by omega) hr_m_weight hr_m_isLame hr_m_loadWeight hr_m_food hr_m_miles hr_m_isRefused hr_m_tired hwf (by omega)) (gi_V lwd_1139 lwd_1140 lwd_1141 lwd_5 lwd_1142) ⟨rfl, hd_X10_laysChanges⟩ ⟨Nat.le_of_ble_eq_true rfl, Nat.le_of_ble_eq_true rfl⟩ rfl (Nat.le_of_ble_eq_true rfl) dX10_edge_27) (fun u_9 H locs hw hP hD hS => ?_)
        obtain ⟨zatW_11, zatL_12, zatT_13, zatH_14, zatM_15, zatI_16, zatQ_17, zgoPace_18, zgoMinutes_19, zworth_20, zisRefused_21, ztired_22, zupTo_23, zupNext_24, zbyChanges_25⟩ := u_9
        try dsimp only at hw hP hD
        obtain ⟨p_26, p_27, p_28, p_29⟩ := hw
        refine lv_aload_n hx hb dX10_edge_30 rfl (lv_at hl 0 rfl) ?_
        refine gt_MD_MD_byChanges hx hb hts hown hK hP lwd_200 dX10_edge_31 ?_
        refine lv_iconst (v := 0) hx hb dX10_edge_34 (by decide) ?_
        refine al_m_byChanges hx hb hK hP (i_in (by decide : (0 : Int32).toInt = 0) (by decide) (by decide)) dX10_edge_35 (fun n_30 en_30 => ?_)
        refine lv_ldcw hx hb hown (hts _ lwd_827) dX10_edge_36 ?_
        refine lv_icmp_ne (tgt := 45) hx hb dX10_edge_39 (by decide) (fun c_31 => ?_) (fun c_31 => ?_)
        · have gc_31 : n_30.toInt ≠ 1000000000 := i_ne (rfl : n_30.toInt = n_30.toInt) (by decide : (1000000000 : Int32).toInt = 1000000000) c_31
          refine lv_iconst (v := 0) hx hb dX10_edge_45 (by decide) ?_
          refine lv_istore_n (lv' := [(1, .int 0), (0, .ref (hm 0))]) hx hb dX10_edge_46 rfl hl (by decide) rfl (fun ls hl => ?_)
          have L47_34 : ∀ (n : Nat) (l_33 : Int32), (0 ≤ l_33.toInt ∧ l_33.toInt ≤ 121) → 122 - l_33.toInt < n → ∀ (H : Heap) (locs : List Loc) (ls : Array Slot), va_P D vwCl (wMD cy hm v_taped v_walkers v_loads v_pieces v_changeCosts v_planned v_isMarch v_clauseMany v_place v_end v_bad v_clauses v_codes v_open v_stacked v_isOver v_isBehind zatW_11 zatL_12 zatT_13 zatH_14 zatM_15 zatI_16 zatQ_17 v_packing v_packed zgoPace_18 zgoMinutes_19 v_spentAt v_ranChanges f_m_tape f_m_knee f_m_weight f_m_isLame f_m_loadWeight f_m_owner f_m_food f_m_miles f_m_slope f_m_clauseLetter f_m_sumFrom f_m_codeFrom f_m_codeTo f_m_code f_m_codeArg f_m_newLetter f_m_newSum f_m_newFrom f_m_newTo f_m_newCode f_m_newArg f_m_stack zworth_20 zisRefused_21 f_m_least f_m_packPounds f_m_packOwner f_m_room f_m_givenTo f_m_canBe f_m_setPounds f_m_plainTime f_m_muleTime f_m_planTo f_m_march ztired_22 f_m_ranMinutes f_m_tiredAhead f_m_isReached f_m_toEnd zupTo_23 zupNext_24 zbyChanges_25 f_m_bandPaces) H → va_D A (wMD cy hm v_taped v_walkers v_loads v_pieces v_changeCosts v_planned v_isMarch v_clauseMany v_place v_end v_bad v_clauses v_codes v_open v_stacked v_isOver v_isBehind zatW_11 zatL_12 zatT_13 zatH_14 zatM_15 zatI_16 zatQ_17 v_packing v_packed zgoPace_18 zgoMinutes_19 v_spentAt v_ranChanges f_m_tape f_m_knee f_m_weight f_m_isLame f_m_loadWeight f_m_owner f_m_food f_m_miles f_m_slope f_m_clauseLetter f_m_sumFrom f_m_codeFrom f_m_codeTo f_m_code f_m_codeArg f_m_newLetter f_m_newSum f_m_newFrom f_m_newTo f_m_newCode f_m_newArg f_m_stack zworth_20 zisRefused_21 f_m_least f_m_packPounds f_m_packOwner f_m_room f_m_givenTo f_m_canBe f_m_setPounds f_m_plainTime f_m_muleTime f_m_planTo f_m_march ztired_22 f_m_ranMinutes f_m_tiredAhead f_m_isReached f_m_toEnd zupTo_23 zupNext_24 zbyChanges_25 f_m_bandPaces) → va_S A s.heap H locs → lv_has ls 4 [(1, .int l_33), (0, .ref (hm 0))] → W p l e (gRm 10) s m args below meth c H locs 0 0 Q (F0 m 47 ls []) := by
            intro n
            induction n with
            | zero => intro l_33 hL47_34_0 hm; exact absurd hm (by omega)
            | succ n ih47_34 =>
              intro l_33 hL47_34_0 hmL47_34 H locs ls hP hD hS hl
              refine lv_iload_n hx hb dX10_edge_47 rfl (lv_at hl 0 rfl) ?_
              refine lv_bipush (v := 120) hx hb dX10_edge_48 (by decide) ?_
              refine lv_icmp_gt (tgt := 122) hx hb dX10_edge_50 (by decide) (fun c_35 => ?_) (fun c_35 => ?_)
              · have gc_35 : 120 < l_33.toInt := i_lt (by decide : (120 : Int32).toInt = 120) (rfl : l_33.toInt = l_33.toInt) c_35
                refine lv_bipush (v := (-2)) hx hb dX10_edge_122 (by decide) ?_
                have k_36 : ((-2) : Int32).toInt = (-2) := by decide
                exact hrt (-2) zatW_11 zatL_12 zatT_13 zatH_14 zatM_15 zatI_16 zatQ_17 zgoPace_18 zgoMinutes_19 zworth_20 zisRefused_21 ztired_22 zupTo_23 zupNext_24 zbyChanges_25 ⟨(by omega), (by omega), p_28, p_29⟩ hP hD hS rfl dX10_edge_124
              · have gc_35 : l_33.toInt ≤ 120 := i_nlt (by decide : (120 : Int32).toInt = 120) (rfl : l_33.toInt = l_33.toInt) c_35
                refine lv_iconst (v := 1) hx hb dX10_edge_53 (by decide) ?_
                refine lv_istore_n (lv' := [(2, .int 1), (1, .int l_33), (0, .ref (hm 0))]) hx hb dX10_edge_54 rfl hl (by decide) rfl (fun ls hl => ?_)
                refine lv_iconst (v := 1) hx hb dX10_edge_55 (by decide) ?_
                refine lv_istore_n (lv' := [(3, .int 1), (2, .int 1), (1, .int l_33), (0, .ref (hm 0))]) hx hb dX10_edge_56 rfl hl (by decide) rfl (fun ls hl => ?_)
                have L57_41 : ∀ (n : Nat) (l_39 : Int32) (l_40 : Int32), (1 ≤ l_40.toInt ∧ l_40.toInt ≤ 10) → 11 - l_40.toInt < n → ∀ (H : Heap) (locs : List Loc) (ls : Array Slot), va_P D vwCl (wMD cy hm v_taped v_walkers v_loads v_pieces v_changeCosts v_planned v_isMarch v_clauseMany v_place v_end v_bad v_clauses v_codes v_open v_stacked v_isOver v_isBehind zatW_11 zatL_12 zatT_13 zatH_14 zatM_15 zatI_16 zatQ_17 v_packing v_packed zgoPace_18 zgoMinutes_19 v_spentAt v_ranChanges f_m_tape f_m_knee f_m_weight f_m_isLame f_m_loadWeight f_m_owner f_m_food f_m_miles f_m_slope f_m_clauseLetter f_m_sumFrom f_m_codeFrom f_m_codeTo f_m_code f_m_codeArg f_m_newLetter f_m_newSum f_m_newFrom f_m_newTo f_m_newCode f_m_newArg f_m_stack zworth_20 zisRefused_21 f_m_least f_m_packPounds f_m_packOwner f_m_room f_m_givenTo f_m_canBe f_m_setPounds f_m_plainTime f_m_muleTime f_m_planTo f_m_march ztired_22 f_m_ranMinutes f_m_tiredAhead f_m_isReached f_m_toEnd zupTo_23 zupNext_24 zbyChanges_25 f_m_bandPaces) H → va_D A (wMD cy hm v_taped v_walkers v_loads v_pieces v_changeCosts v_planned v_isMarch v_clauseMany v_place v_end v_bad v_clauses v_codes v_open v_stacked v_isOver v_isBehind zatW_11 zatL_12 zatT_13 zatH_14 zatM_15 zatI_16 zatQ_17 v_packing v_packed zgoPace_18 zgoMinutes_19 v_spentAt v_ranChanges f_m_tape f_m_knee f_m_weight f_m_isLame f_m_loadWeight f_m_owner f_m_food f_m_miles f_m_slope f_m_clauseLetter f_m_sumFrom f_m_codeFrom f_m_codeTo f_m_code f_m_codeArg f_m_newLetter f_m_newSum f_m_newFrom f_m_newTo f_m_newCode f_m_newArg f_m_stack zworth_20 zisRefused_21 f_m_least f_m_packPounds f_m_packOwner f_m_room f_m_givenTo f_m_canBe f_m_setPounds f_m_plainTime f_m_muleTime f_m_planTo f_m_march ztired_22 f_m_ranMinutes f_m_tiredAhead f_m_isReached f_m_toEnd zupTo_23 zupNext_24 zbyChanges_25 f_m_bandPaces) → va_S A s.heap H locs → lv_has ls 4 [(3, .int l_40), (2, .int l_39), (1, .int l_33), (0, .ref (hm 0))] → W p l e (gRm 10) s m args below meth c H locs 0 0 Q (F0 m 57 ls []) := by
                  intro n
                  induction n with
                  | zero => intro l_39 l_40 hL57_41_0 hm; exact absurd hm (by omega)
                  | succ n ih57_41 =>
                    intro l_39 l_40 hL57_41_0 hmL57_41 H locs ls hP hD hS hl
                    refine lv_iload_n hx hb dX10_edge_57 rfl (lv_at hl 0 rfl) ?_
                    refine lv_bipush (v := 10) hx hb dX10_edge_58 (by decide) ?_
                    refine lv_icmp_ge (tgt := 110) hx hb dX10_edge_60 (by decide) (fun c_42 => ?_) (fun c_42 => ?_)
                    · have gc_42 : 10 ≤ l_40.toInt := i_le (by decide : (10 : Int32).toInt = 10) (rfl : l_40.toInt = l_40.toInt) c_42
                      refine lv_iload_n hx hb dX10_edge_110 rfl (lv_at hl 1 rfl) ?_
                      refine lv_if_eq (tgt := 116) hx hb dX10_edge_111 (by decide) (fun c_43 => ?_) (fun c_43 => ?_)
                      · have gc_43 : l_39.toInt = 0 := i_eq (rfl : l_39.toInt = l_39.toInt) (by decide : (0 : Int32).toInt = 0) c_43
                        obtain ⟨n_44, en_44⟩ : ∃ y : Int32, y = l_33 + 1 := ⟨_, rfl⟩
                        have tn_44 : n_44.toInt = l_33.toInt + 1 := i_add en_44 (rfl : l_33.toInt = l_33.toInt) (by decide : (1 : Int32).toInt = 1) (by omega) (by omega)
                        refine lv_iinc (v := n_44) (lv' := [(1, .int n_44), (3, .int l_40), (2, .int l_39), (0, .ref (hm 0))]) hx hb dX10_edge_116 hl (k := 2) rfl (by rw [en_44]; rfl) (by decide) rfl (fun ls hl => ?_)
                        refine lv_goto (tgt := 47) hx hb dX10_edge_119 (by decide) ?_
                        exact ih47_34 n_44 (by omega) (by omega) _ _ _ hP hD hS (lv_sub hl [0, 3] rfl)
                      · have gc_43 : l_39.toInt ≠ 0 := i_ne (rfl : l_39.toInt = l_39.toInt) (by decide : (0 : Int32).toInt = 0) c_43
                        refine lv_iload_n hx hb dX10_edge_114 rfl (lv_at hl 2 rfl) ?_
                        exact hrt l_33 zatW_11 zatL_12 zatT_13 zatH_14 zatM_15 zatI_16 zatQ_17 zgoPace_18 zgoMinutes_19 zworth_20 zisRefused_21 ztired_22 zupTo_23 zupNext_24 zbyChanges_25 ⟨(by omega), (by omega), p_28, p_29⟩ hP hD hS rfl dX10_edge_115
                    · have gc_42 : l_40.toInt < 10 := i_nle (by decide : (10 : Int32).toInt = 10) (rfl : l_40.toInt = l_40.toInt) c_42
                      refine lv_iload_n hx hb dX10_edge_63 rfl (lv_at hl 1 rfl) ?_
                      refine lv_if_eq (tgt := 102) hx hb dX10_edge_64 (by decide) (fun c_45 => ?_) (fun c_45 => ?_)
                      · have gc_45 : l_39.toInt = 0 := i_eq (rfl : l_39.toInt = l_39.toInt) (by decide : (0 : Int32).toInt = 0) c_45
                        refine lv_iconst (v := 0) hx hb dX10_edge_102 (by decide) ?_
                        refine lv_istore_n (lv' := [(2, .int 0), (3, .int l_40), (1, .int l_33), (0, .ref (hm 0))]) hx hb dX10_edge_103 rfl hl (by decide) rfl (fun ls hl => ?_)
                        obtain ⟨n_46, en_46⟩ : ∃ y : Int32, y = l_40 + 1 := ⟨_, rfl⟩
                        have tn_46 : n_46.toInt = l_40.toInt + 1 := i_add en_46 (rfl : l_40.toInt = l_40.toInt) (by decide : (1 : Int32).toInt = 1) (by omega) (by omega)
                        refine lv_iinc (v := n_46) (lv' := [(3, .int n_46), (2, .int 0), (1, .int l_33), (0, .ref (hm 0))]) hx hb dX10_edge_104 hl (k := 1) rfl (by rw [en_46]; rfl) (by decide) rfl (fun ls hl => ?_)
                        refine lv_goto (tgt := 57) hx hb dX10_edge_107 (by decide) ?_
                        have k_47 : (0 : Int32).toInt = 0 := by decide
                        exact ih57_41 0 n_46 (by omega) (by omega) _ _ _ hP hD hS (lv_sub hl [0, 1, 2, 3] rfl)
                      · have gc_45 : l_39.toInt ≠ 0 := i_ne (rfl : l_39.toInt = l_39.toInt) (by decide : (0 : Int32).toInt = 0) c_45
                        refine lv_aload_n hx hb dX10_edge_67 rfl (lv_at hl 3 rfl) ?_
                        refine gt_MD_MD_byChanges hx hb hts hown hK hP lwd_200 dX10_edge_68 ?_
                        refine lv_iload_n hx hb dX10_edge_71 rfl (lv_at hl 0 rfl) ?_
                        refine al_m_byChanges hx hb hK hP (i_in (rfl : l_40.toInt = l_40.toInt) (by omega) (by omega)) dX10_edge_72 (fun n_48 en_48 => ?_)
                        refine lv_ldcw hx hb hown (hts _ lwd_827) dX10_edge_73 ?_
                        refine lv_icmp_eq (tgt := 98) hx hb dX10_edge_76 (by decide) (fun c_49 => ?_) (fun c_49 => ?_)
                        · have gc_49 : n_48.toInt = 1000000000 := i_eq (rfl : n_48.toInt = n_48.toInt) (by decide : (1000000000 : Int32).toInt = 1000000000) c_49
                          refine lv_iconst (v := 1) hx hb dX10_edge_98 (by decide) ?_
                          refine lv_goto (tgt := 103) hx hb dX10_edge_99 (by decide) ?_
                          refine lv_istore_n (lv' := [(2, .int 1), (3, .int l_40), (1, .int l_33), (0, .ref (hm 0))]) hx hb dX10_edge_103 rfl hl (by decide) rfl (fun ls hl => ?_)
                          obtain ⟨n_50, en_50⟩ : ∃ y : Int32, y = l_40 + 1 := ⟨_, rfl⟩
                          have tn_50 : n_50.toInt = l_40.toInt + 1 := i_add en_50 (rfl : l_40.toInt = l_40.toInt) (by decide : (1 : Int32).toInt = 1) (by omega) (by omega)
                          refine lv_iinc (v := n_50) (lv' := [(3, .int n_50), (2, .int 1), (1, .int l_33), (0, .ref (hm 0))]) hx hb dX10_edge_104 hl (k := 1) rfl (by rw [en_50]; rfl) (by decide) rfl (fun ls hl => ?_)
                          refine lv_goto (tgt := 57) hx hb dX10_edge_107 (by decide) ?_
                          have k_51 : (1 : Int32).toInt = 1 := by decide
                          exact ih57_41 1 n_50 (by omega) (by omega) _ _ _ hP hD hS (lv_sub hl [0, 1, 2, 3] rfl)
                        · have gc_49 : n_48.toInt ≠ 1000000000 := i_ne (rfl : n_48.toInt = n_48.toInt) (by decide : (1000000000 : Int32).toInt = 1000000000) c_49
                          refine lv_aload_n hx hb dX10_edge_79 rfl (lv_at hl 3 rfl) ?_
                          refine gt_MD_MD_byChanges hx hb hts hown hK hP lwd_200 dX10_edge_80 ?_
                          refine lv_iload_n hx hb dX10_edge_83 rfl (lv_at hl 0 rfl) ?_
                          refine al_m_byChanges hx hb hK hP (i_in (rfl : l_40.toInt = l_40.toInt) (by omega) (by omega)) dX10_edge_84 (fun n_52 en_52 => ?_)
                          obtain rfl : n_48 = n_52 := en_48.trans en_52.symm
                          refine lv_iload_n hx hb dX10_edge_85 rfl (lv_at hl 0 rfl) ?_
                          refine lv_iload_n hx hb dX10_edge_86 rfl (lv_at hl 2 rfl) ?_
                          refine lv_imul hx hb dX10_edge_87 ?_
                          have mb_53 := mul_bd (a := l_40.toInt) (b := l_33.toInt) (A := 9) (B := 120) (by omega) (by omega) (by omega) (by omega)
                          refine lv_topi (fun n_54 en_54 => ?_)
                          have tn_54 : n_54.toInt = l_40.toInt * l_33.toInt := i_mul en_54 (rfl : l_40.toInt = l_40.toInt) (rfl : l_33.toInt = l_33.toInt) (by omega) (by omega)
                          refine lv_iadd hx hb dX10_edge_88 ?_
                          refine lv_topi (fun n_55 en_55 => ?_)
                          refine lv_aload_n hx hb dX10_edge_89 rfl (lv_at hl 3 rfl) ?_
                          refine gt_MD_MD_byChanges hx hb hts hown hK hP lwd_200 dX10_edge_90 ?_
                          refine lv_iconst (v := 0) hx hb dX10_edge_93 (by decide) ?_
                          refine al_m_byChanges hx hb hK hP (i_in (by decide : (0 : Int32).toInt = 0) (by decide) (by decide)) dX10_edge_94 (fun n_56 en_56 => ?_)
                          obtain rfl : n_30 = n_56 := en_30.trans en_56.symm
                          refine lv_icmp_lt (tgt := 102) hx hb dX10_edge_95 (by decide) (fun c_57 => ?_) (fun c_57 => ?_)
                          · have gc_57 : n_55.toInt < n_30.toInt := i_lt (rfl : n_55.toInt = n_55.toInt) (rfl : n_30.toInt = n_30.toInt) c_57
                            refine lv_iconst (v := 0) hx hb dX10_edge_102 (by decide) ?_
                            refine lv_istore_n (lv' := [(2, .int 0), (3, .int l_40), (1, .int l_33), (0, .ref (hm 0))]) hx hb dX10_edge_103 rfl hl (by decide) rfl (fun ls hl => ?_)
                            obtain ⟨n_58, en_58⟩ : ∃ y : Int32, y = l_40 + 1 := ⟨_, rfl⟩
                            have tn_58 : n_58.toInt = l_40.toInt + 1 := i_add en_58 (rfl : l_40.toInt = l_40.toInt) (by decide : (1 : Int32).toInt = 1) (by omega) (by omega)
                            refine lv_iinc (v := n_58) (lv' := [(3, .int n_58), (2, .int 0), (1, .int l_33), (0, .ref (hm 0))]) hx hb dX10_edge_104 hl (k := 1) rfl (by rw [en_58]; rfl) (by decide) rfl (fun ls hl => ?_)
                            refine lv_goto (tgt := 57) hx hb dX10_edge_107 (by decide) ?_
                            have k_59 : (0 : Int32).toInt = 0 := by decide
                            exact ih57_41 0 n_58 (by omega) (by omega) _ _ _ hP hD hS (lv_sub hl [0, 1, 2, 3] rfl)
                          · have gc_57 : n_30.toInt ≤ n_55.toInt := i_nlt (rfl : n_55.toInt = n_55.toInt) (rfl : n_30.toInt = n_30.toInt) c_57
                            refine lv_iconst (v := 1) hx hb dX10_edge_98 (by decide) ?_
                            refine lv_goto (tgt := 103) hx hb dX10_edge_99 (by decide) ?_
                            refine lv_istore_n (lv' := [(2, .int 1), (3, .int l_40), (1, .int l_33), (0, .ref (hm 0))]) hx hb dX10_edge_103 rfl hl (by decide) rfl (fun ls hl => ?_)
                            obtain ⟨n_60, en_60⟩ : ∃ y : Int32, y = l_40 + 1 := ⟨_, rfl⟩
                            have tn_60 : n_60.toInt = l_40.toInt + 1 := i_add en_60 (rfl : l_40.toInt = l_40.toInt) (by decide : (1 : Int32).toInt = 1) (by omega) (by omega)
                            refine lv_iinc (v := n_60) (lv' := [(3, .int n_60), (2, .int 1), (1, .int l_33), (0, .ref (hm 0))]) hx hb dX10_edge_104 hl (k := 1) rfl (by rw [en_60]; rfl) (by decide) rfl (fun ls hl => ?_)
                            refine lv_goto (tgt := 57) hx hb dX10_edge_107 (by decide) ?_
                            have k_61 : (1 : Int32).toInt = 1 := by decide
                            exact ih57_41 1 n_60 (by omega) (by omega) _ _ _ hP hD hS (lv_sub hl [0, 1, 2, 3] rfl)
                have k_62 : (1 : Int32).toInt = 1 := by decide
                have k_63 : (1 : Int32).toInt = 1 := by decide
                exact L57_41 8589934592 1 1 (by omega) (by omega) _ _ _ hP hD hS (lv_sub hl [0, 1, 2, 3] rfl)
          have k_64 : (0 : Int32).toInt = 0 := by decide
          exact L47_34 8589934592 0 (by omega) (by omega) _ _ _ hP hD hS (lv_sub hl [0, 1] rfl)
        · have gc_31 : n_30.toInt = 1000000000 := i_eq (rfl : n_30.toInt = n_30.toInt) (by decide : (1000000000 : Int32).toInt = 1000000000) c_31
          refine lv_bipush (v := (-2)) hx hb dX10_edge_42 (by decide) ?_
          have k_65 : ((-2) : Int32).toInt = (-2) := by decide
          exact hrt (-2) zatW_11 zatL_12 zatT_13 zatH_14 zatM_15 zatI_16 zatQ_17 zgoPace_18 zgoMinutes_19 zworth_20 zisRefused_21 ztired_22 zupTo_23 zupNext_24 zbyChanges_25 ⟨(by omega), (by omega), p_28, p_29⟩ hP hD hS rfl dX10_edge_44
      · have gc_8 : r_5.toInt = 0 := i_eq (rfl : r_5.toInt = r_5.toInt) (by decide : (0 : Int32).toInt = 0) c_8
        refine lv_bipush (v := (-2)) hx hb dX10_edge_23 (by decide) ?_
        have k_66 : ((-2) : Int32).toInt = (-2) := by decide
        exact hrt (-2) v_atW v_atL v_atT v_atH v_atM v_atI v_atQ v_goPace v_goMinutes f_m_worth f_m_isRefused f_m_tired f_m_upTo f_m_upNext f_m_byChanges ⟨(by omega), (by omega), hr_m_isRefused, hr_m_tired⟩ hP hD hS rfl dX10_edge_25
    · have gc_3 : v_pieces.toInt = 0 := i_eq (rfl : v_pieces.toInt = v_pieces.toInt) (by decide : (0 : Int32).toInt = 0) c_3
      refine lv_iconst (v := (-1)) hx hb dX10_edge_14 (by decide) ?_
      have k_67 : ((-1) : Int32).toInt = (-1) := by decide
      exact hrt (-1) v_atW v_atL v_atT v_atH v_atM v_atI v_atQ v_goPace v_goMinutes f_m_worth f_m_isRefused f_m_tired f_m_upTo f_m_upNext f_m_byChanges ⟨(by omega), (by omega), hr_m_isRefused, hr_m_tired⟩ hP hD hS rfl dX10_edge_15
set_option maxHeartbeats 16000000 in
set_option maxRecDepth 100000 in
theorem c_X10_setPace (l : Launch) (D : va_G) (cy : Nat → ClassId) (hm : Nat → Nat) (v_taped v_walkers v_loads v_pieces v_changeCosts v_planned v_isMarch v_clauseMany v_place v_end v_bad v_clauses v_codes v_open v_stacked v_isOver v_isBehind v_atW v_atL v_atT v_atH v_atM v_atI v_atQ v_packing v_packed v_goPace v_goMinutes v_spentAt v_ranChanges : Int32) (f_m_tape f_m_knee f_m_weight f_m_isLame f_m_loadWeight f_m_owner f_m_food f_m_miles f_m_slope f_m_clauseLetter f_m_sumFrom f_m_codeFrom f_m_codeTo f_m_code f_m_codeArg f_m_newLetter f_m_newSum f_m_newFrom f_m_newTo f_m_newCode f_m_newArg f_m_stack f_m_worth f_m_isRefused f_m_least f_m_packPounds f_m_packOwner f_m_room f_m_givenTo f_m_canBe f_m_setPounds f_m_plainTime f_m_muleTime f_m_planTo f_m_march f_m_tired f_m_ranMinutes f_m_tiredAhead f_m_isReached f_m_toEnd f_m_upTo f_m_upNext f_m_byChanges f_m_bandPaces : Nat → Int32) (sz : Nat) (set : Int32) (i : Int32) (tn : Int32) (hb_v_walkers : 0 ≤ v_walkers.toInt ∧ v_walkers.toInt ≤ 6) (hb_v_clauseMany : 0 ≤ v_clauseMany.toInt ∧ v_clauseMany.toInt ≤ 14) (hb_v_atW : 0 ≤ v_atW.toInt ∧ v_atW.toInt ≤ 5) (hr_m_weight : rg (0) 250 f_m_weight) (hr_m_isLame : rg (0) 1 f_m_isLame) (hr_m_miles : rg (0) 20 f_m_miles) (hr_m_isRefused : rg (0) 1 f_m_isRefused) (ha_i : 0 ≤ i.toInt ∧ i.toInt ≤ 9) (ha_tn : 0 ≤ tn.toInt ∧ tn.toInt ≤ 1) (hwf : wfC v_clauseMany f_m_sumFrom f_m_codeFrom f_m_codeTo f_m_code) : gMi l yX10_setPace cX10_setPace 7 .int 6 [.ref (hm 0), .int set, .int i, .int tn] D cy (wMD cy hm v_taped v_walkers v_loads v_pieces v_changeCosts v_planned v_isMarch v_clauseMany v_place v_end v_bad v_clauses v_codes v_open v_stacked v_isOver v_isBehind v_atW v_atL v_atT v_atH v_atM v_atI v_atQ v_packing v_packed v_goPace v_goMinutes v_spentAt v_ranChanges f_m_tape f_m_knee f_m_weight f_m_isLame f_m_loadWeight f_m_owner f_m_food f_m_miles f_m_slope f_m_clauseLetter f_m_sumFrom f_m_codeFrom f_m_codeTo f_m_code f_m_codeArg f_m_newLetter f_m_newSum f_m_newFrom f_m_newTo f_m_newCode f_m_newArg f_m_stack f_m_worth f_m_isRefused f_m_least f_m_packPounds f_m_packOwner f_m_room f_m_givenTo f_m_canBe f_m_setPounds f_m_plainTime f_m_muleTime f_m_planTo f_m_march f_m_tired f_m_ranMinutes f_m_tiredAhead f_m_isReached f_m_toEnd f_m_upTo f_m_upNext f_m_byChanges f_m_bandPaces) NT sz (fun (r : Int32) (u : Int32 × Int32 × Int32 × Int32 × Int32 × Int32 × Int32 × (Nat → Int32) × (Nat → Int32)) => (0 ≤ r.toInt ∧ r.toInt ≤ 60) ∧ (0 ≤ (u.1).toInt ∧ (u.1).toInt ≤ 5) ∧ (rg (0) 1 (u.2.2.2.2.2.2.2.2))) (fun u => wMD cy hm v_taped v_walkers v_loads v_pieces v_changeCosts v_planned v_isMarch v_clauseMany v_place v_end v_bad v_clauses v_codes v_open v_stacked v_isOver v_isBehind (u.1) (u.2.1) (u.2.2.1) (u.2.2.2.1) (u.2.2.2.2.1) (u.2.2.2.2.2.1) (u.2.2.2.2.2.2.1) v_packing v_packed v_goPace v_goMinutes v_spentAt v_ranChanges f_m_tape f_m_knee f_m_weight f_m_isLame f_m_loadWeight f_m_owner f_m_food f_m_miles f_m_slope f_m_clauseLetter f_m_sumFrom f_m_codeFrom f_m_codeTo f_m_code f_m_codeArg f_m_newLetter f_m_newSum f_m_newFrom f_m_newTo f_m_newCode f_m_newArg f_m_stack (u.2.2.2.2.2.2.2.1) (u.2.2.2.2.2.2.2.2) f_m_least f_m_packPounds f_m_packOwner f_m_room f_m_givenTo f_m_canBe f_m_setPounds f_m_plainTime f_m_muleTime f_m_planTo f_m_march f_m_tired f_m_ranMinutes f_m_tiredAhead f_m_isReached f_m_toEnd f_m_upTo f_m_upNext f_m_byChanges f_m_bandPaces) := by
  refine gMi_in (by decide) (Nat.le_of_ble_eq_true rfl) ?_
  intro p e s m args below meth c A ls Q hx hb hml hts hown hsz hP hK hD hN hAe hA hS hl hret
  subst hsz
  have hl : lv_has ls 7 [(0, .ref (hm 0)), (1, .int set), (2, .int i), (3, .int tn)] := hl
  have hrt := fun (r : Int32) (v_atW' : Int32) (v_atL' : Int32) (v_atT' : Int32) (v_atH' : Int32) (v_atM' : Int32) (v_atI' : Int32) (v_atQ' : Int32) (f_m_worth' : Nat → Int32) (f_m_isRefused' : Nat → Int32) (hp : (0 ≤ r.toInt ∧ r.toInt ≤ 60) ∧ (0 ≤ v_atW'.toInt ∧ v_atW'.toInt ≤ 5) ∧ (rg (0) 1 f_m_isRefused')) {H : Heap} {locs : List Loc} {pc : Nat} {ls : Array Slot} => hret r (v_atW', v_atL', v_atT', v_atH', v_atM', v_atI', v_atQ', f_m_worth', f_m_isRefused') (H := H) (locs := locs) (pc := pc) (ls := ls) hp
  clear hret
  refine lv_bipush (v := 60) hx hb dX10_setPace_0 (by decide) ?_
  refine lv_istore (lv' := [(4, .int 60), (0, .ref (hm 0)), (1, .int set), (2, .int i), (3, .int tn)]) hx hb dX10_setPace_2 hl (by decide) rfl (fun ls hl => ?_)
  refine lv_iconst (v := 0) hx hb dX10_setPace_4 (by decide) ?_
  refine lv_istore (lv' := [(5, .int 0), (4, .int 60), (0, .ref (hm 0)), (1, .int set), (2, .int i), (3, .int tn)]) hx hb dX10_setPace_5 hl (by decide) rfl (fun ls hl => ?_)
  have L7_23 : ∀ (n : Nat) (f_12 : Nat → Int32) (f_13 : Nat → Int32) (l_14 : Int32) (l_15 : Int32) (w_16 : Int32) (w_17 : Int32) (w_18 : Int32) (w_19 : Int32) (w_20 : Int32) (w_21 : Int32) (w_22 : Int32), (rg (0) 1 f_12) → (0 ≤ l_14.toInt ∧ l_14.toInt ≤ 60) → (0 ≤ l_15.toInt ∧ l_15.toInt ≤ 6) → (0 ≤ w_22.toInt ∧ w_22.toInt ≤ 5) → 7 - l_15.toInt < n → ∀ (H : Heap) (locs : List Loc) (ls : Array Slot), va_P D vwCl (wMD cy hm v_taped v_walkers v_loads v_pieces v_changeCosts v_planned v_isMarch v_clauseMany v_place v_end v_bad v_clauses v_codes v_open v_stacked v_isOver v_isBehind w_22 w_18 w_21 w_16 w_19 w_17 w_20 v_packing v_packed v_goPace v_goMinutes v_spentAt v_ranChanges f_m_tape f_m_knee f_m_weight f_m_isLame f_m_loadWeight f_m_owner f_m_food f_m_miles f_m_slope f_m_clauseLetter f_m_sumFrom f_m_codeFrom f_m_codeTo f_m_code f_m_codeArg f_m_newLetter f_m_newSum f_m_newFrom f_m_newTo f_m_newCode f_m_newArg f_m_stack f_13 f_12 f_m_least f_m_packPounds f_m_packOwner f_m_room f_m_givenTo f_m_canBe f_m_setPounds f_m_plainTime f_m_muleTime f_m_planTo f_m_march f_m_tired f_m_ranMinutes f_m_tiredAhead f_m_isReached f_m_toEnd f_m_upTo f_m_upNext f_m_byChanges f_m_bandPaces) H → va_D A (wMD cy hm v_taped v_walkers v_loads v_pieces v_changeCosts v_planned v_isMarch v_clauseMany v_place v_end v_bad v_clauses v_codes v_open v_stacked v_isOver v_isBehind w_22 w_18 w_21 w_16 w_19 w_17 w_20 v_packing v_packed v_goPace v_goMinutes v_spentAt v_ranChanges f_m_tape f_m_knee f_m_weight f_m_isLame f_m_loadWeight f_m_owner f_m_food f_m_miles f_m_slope f_m_clauseLetter f_m_sumFrom f_m_codeFrom f_m_codeTo f_m_code f_m_codeArg f_m_newLetter f_m_newSum f_m_newFrom f_m_newTo f_m_newCode f_m_newArg f_m_stack f_13 f_12 f_m_least f_m_packPounds f_m_packOwner f_m_room f_m_givenTo f_m_canBe f_m_setPounds f_m_plainTime f_m_muleTime f_m_planTo f_m_march f_m_tired f_m_ranMinutes f_m_tiredAhead f_m_isReached f_m_toEnd f_m_upTo f_m_upNext f_m_byChanges f_m_bandPaces) → va_S A s.heap H locs → lv_has ls 7 [(5, .int l_15), (4, .int l_14), (0, .ref (hm 0)), (1, .int set), (2, .int i), (3, .int tn)] → W p l e (gRm 6) s m args below meth c H locs 0 0 Q (F0 m 7 ls []) := by
    intro n
    induction n with
    | zero => intro f_12 f_13 l_14 l_15 w_16 w_17 w_18 w_19 w_20 w_21 w_22 hL7_23_0 hL7_23_1 hL7_23_2 hL7_23_3 hm; exact absurd hm (by omega)
    | succ n ih7_23 =>
      intro f_12 f_13 l_14 l_15 w_16 w_17 w_18 w_19 w_20 w_21 w_22 hL7_23_0 hL7_23_1 hL7_23_2 hL7_23_3 hmL7_23 H locs ls hP hD hS hl
      refine lv_iload hx hb dX10_setPace_7 (lv_at hl 0 rfl) ?_
      refine lv_aload_n hx hb dX10_setPace_9 rfl (lv_at hl 2 rfl) ?_
      refine gt_MD_MD_walkers hx hb hts hown hK hP lwd_221 dX10_setPace_10 ?_
      refine lv_icmp_ge (tgt := 62) hx hb dX10_setPace_13 (by decide) (fun c_24 => ?_) (fun c_24 => ?_)
      · have gc_24 : v_walkers.toInt ≤ l_15.toInt := i_le (rfl : v_walkers.toInt = v_walkers.toInt) (rfl : l_15.toInt = l_15.toInt) c_24
        refine lv_iload hx hb dX10_setPace_62 (lv_at hl 1 rfl) ?_
        exact hrt l_14 w_22 w_18 w_21 w_16 w_19 w_17 w_20 f_13 f_12 ⟨(by omega), (by omega), hL7_23_0⟩ hP hD hS rfl dX10_setPace_64
      · have gc_24 : l_15.toInt < v_walkers.toInt := i_nle (rfl : v_walkers.toInt = v_walkers.toInt) (rfl : l_15.toInt = l_15.toInt) c_24
        refine lv_iload_n hx hb dX10_setPace_16 rfl (lv_at hl 3 rfl) ?_
        refine lv_iload hx hb dX10_setPace_17 (lv_at hl 0 rfl) ?_
        refine xi hD hS hA (xS (As := [.int set, .int l_15]) (rest := []) hx hb hml hown hts hK hP hD hS hA NT_ok hN hAe hl.1 ⟨Nat.le_refl _, Nat.le_refl _⟩ (c_X10_has l D cy hm v_taped v_walkers v_loads v_pieces v_changeCosts v_planned v_isMarch v_clauseMany v_place v_end v_bad v_clauses v_codes v_open v_stacked v_isOver v_isBehind w_22 w_18 w_21 w_16 w_19 w_17 w_20 v_packing v_packed v_goPace v_goMinutes v_spentAt v_ranChanges f_m_tape f_m_knee f_m_weight f_m_isLame f_m_loadWeight f_m_owner f_m_food f_m_miles f_m_slope f_m_clauseLetter f_m_sumFrom f_m_codeFrom f_m_codeTo f_m_code f_m_codeArg f_m_newLetter f_m_newSum f_m_newFrom f_m_newTo f_m_newCode f_m_newArg f_m_stack f_13 f_12 f_m_least f_m_packPounds f_m_packOwner f_m_room f_m_givenTo f_m_canBe f_m_setPounds f_m_plainTime f_m_muleTime f_m_planTo f_m_march f_m_tired f_m_ranMinutes f_m_tiredAhead f_m_isReached f_m_toEnd f_m_upTo f_m_upNext f_m_byChanges f_m_bandPaces H.size set l_15) (gi_S lwd_750 lwd_751 lwd_5 lwd_752) hd_X10_has ⟨Nat.le_of_ble_eq_true rfl, Nat.le_of_ble_eq_true rfl⟩ rfl (Nat.le_of_ble_eq_true rfl) dX10_setPace_19) (fun r_26 u_25 H locs hw hP hD hS => ?_)
        try dsimp only at hw hP hD
        obtain ⟨p_27, p_28⟩ := hw
        refine lv_if_ne (tgt := 28) hx hb dX10_setPace_22 (by decide) (fun c_29 => ?_) (fun c_29 => ?_)
        · have gc_29 : r_26.toInt ≠ 0 := i_ne (rfl : r_26.toInt = r_26.toInt) (by decide : (0 : Int32).toInt = 0) c_29
          refine lv_aload_n hx hb dX10_setPace_28 rfl (lv_at hl 2 rfl) ?_
          refine lv_iload hx hb dX10_setPace_29 (lv_at hl 0 rfl) ?_
          refine lv_iconst (v := 0) hx hb dX10_setPace_31 (by decide) ?_
          refine lv_iconst (v := 0) hx hb dX10_setPace_32 (by decide) ?_
          refine lv_iload_n hx hb dX10_setPace_33 rfl (lv_at hl 4 rfl) ?_
          refine lv_iload_n hx hb dX10_setPace_34 rfl (lv_at hl 5 rfl) ?_
          have k_30 : (0 : Int32).toInt = 0 := by decide
          refine xi hD hS hA (xV (As := [.int l_15, .int 0, .int 0, .int i, .int tn]) (rest := []) hx hb hml hown hts hK hP hD hS hA NT_ok hN hAe hl.1 ⟨Nat.le_refl _, Nat.le_refl _⟩ 0 rfl rfl rfl (c_X10_paceOf l D cy hm v_taped v_walkers v_loads v_pieces v_changeCosts v_planned v_isMarch v_clauseMany v_place v_end v_bad v_clauses v_codes v_open v_stacked v_isOver v_isBehind w_22 w_18 w_21 w_16 w_19 w_17 w_20 v_packing v_packed v_goPace v_goMinutes v_spentAt v_ranChanges f_m_tape f_m_knee f_m_weight f_m_isLame f_m_loadWeight f_m_owner f_m_food f_m_miles f_m_slope f_m_clauseLetter f_m_sumFrom f_m_codeFrom f_m_codeTo f_m_code f_m_codeArg f_m_newLetter f_m_newSum f_m_newFrom f_m_newTo f_m_newCode f_m_newArg f_m_stack f_13 f_12 f_m_least f_m_packPounds f_m_packOwner f_m_room f_m_givenTo f_m_canBe f_m_setPounds f_m_plainTime f_m_muleTime f_m_planTo f_m_march f_m_tired f_m_ranMinutes f_m_tiredAhead f_m_isReached f_m_toEnd f_m_upTo f_m_upNext f_m_byChanges f_m_bandPaces H.size l_15 0 0 i tn (by omega) (by omega) (by omega) hr_m_weight hr_m_isLame hr_m_miles hL7_23_0 (by omega) (by omega) (by omega) hwf) (gi_V lwd_553 lwd_554 lwd_555 lwd_5 lwd_556) ⟨rfl, hd_X10_paceOf⟩ ⟨Nat.le_of_ble_eq_true rfl, Nat.le_of_ble_eq_true rfl⟩ rfl (Nat.le_of_ble_eq_true rfl) dX10_setPace_35) (fun r_32 u_31 H locs hw hP hD hS => ?_)
          obtain ⟨zatW_33, zatL_34, zatT_35, zatH_36, zatM_37, zatI_38, zatQ_39, zworth_40, zisRefused_41⟩ := u_31
          try dsimp only at hw hP hD
          obtain ⟨p_42, p_43, p_44, p_45⟩ := hw
          refine lv_istore (lv' := [(6, .int r_32), (5, .int l_15), (4, .int l_14), (0, .ref (hm 0)), (1, .int set), (2, .int i), (3, .int tn)]) hx hb dX10_setPace_38 hl (by decide) rfl (fun ls hl => ?_)
          refine lv_iload hx hb dX10_setPace_40 (lv_at hl 0 rfl) ?_
          refine lv_iload hx hb dX10_setPace_42 (lv_at hl 2 rfl) ?_
          refine lv_icmp_ge (tgt := 52) hx hb dX10_setPace_44 (by decide) (fun c_46 => ?_) (fun c_46 => ?_)
          · have gc_46 : l_14.toInt ≤ r_32.toInt := i_le (rfl : l_14.toInt = l_14.toInt) (rfl : r_32.toInt = r_32.toInt) c_46
            refine lv_iload hx hb dX10_setPace_52 (lv_at hl 2 rfl) ?_
            refine lv_istore (lv' := [(4, .int l_14), (6, .int r_32), (5, .int l_15), (0, .ref (hm 0)), (1, .int set), (2, .int i), (3, .int tn)]) hx hb dX10_setPace_54 hl (by decide) rfl (fun ls hl => ?_)
            obtain ⟨n_47, en_47⟩ : ∃ y : Int32, y = l_15 + 1 := ⟨_, rfl⟩
            have tn_47 : n_47.toInt = l_15.toInt + 1 := i_add en_47 (rfl : l_15.toInt = l_15.toInt) (by decide : (1 : Int32).toInt = 1) (by omega) (by omega)
            refine lv_iinc (v := n_47) (lv' := [(5, .int n_47), (4, .int l_14), (6, .int r_32), (0, .ref (hm 0)), (1, .int set), (2, .int i), (3, .int tn)]) hx hb dX10_setPace_56 hl (k := 2) rfl (by rw [en_47]; rfl) (by decide) rfl (fun ls hl => ?_)
            refine lv_goto (tgt := 7) hx hb dX10_setPace_59 (by decide) ?_
            exact ih7_23 zisRefused_41 zworth_40 l_14 n_47 zatH_36 zatI_38 zatL_34 zatM_37 zatQ_39 zatT_35 zatW_33 p_45 (by omega) (by omega) (by omega) (by omega) _ _ _ hP hD hS (lv_sub hl [0, 1, 3, 4, 5, 6] rfl)
          · have gc_46 : r_32.toInt < l_14.toInt := i_nle (rfl : l_14.toInt = l_14.toInt) (rfl : r_32.toInt = r_32.toInt) c_46
            refine lv_iload hx hb dX10_setPace_47 (lv_at hl 0 rfl) ?_
            refine lv_goto (tgt := 54) hx hb dX10_setPace_49 (by decide) ?_
            refine lv_istore (lv' := [(4, .int r_32), (6, .int r_32), (5, .int l_15), (0, .ref (hm 0)), (1, .int set), (2, .int i), (3, .int tn)]) hx hb dX10_setPace_54 hl (by decide) rfl (fun ls hl => ?_)
            obtain ⟨n_48, en_48⟩ : ∃ y : Int32, y = l_15 + 1 := ⟨_, rfl⟩
            have tn_48 : n_48.toInt = l_15.toInt + 1 := i_add en_48 (rfl : l_15.toInt = l_15.toInt) (by decide : (1 : Int32).toInt = 1) (by omega) (by omega)
            refine lv_iinc (v := n_48) (lv' := [(5, .int n_48), (4, .int r_32), (6, .int r_32), (0, .ref (hm 0)), (1, .int set), (2, .int i), (3, .int tn)]) hx hb dX10_setPace_56 hl (k := 2) rfl (by rw [en_48]; rfl) (by decide) rfl (fun ls hl => ?_)
            refine lv_goto (tgt := 7) hx hb dX10_setPace_59 (by decide) ?_
            exact ih7_23 zisRefused_41 zworth_40 r_32 n_48 zatH_36 zatI_38 zatL_34 zatM_37 zatQ_39 zatT_35 zatW_33 p_45 (by omega) (by omega) (by omega) (by omega) _ _ _ hP hD hS (lv_sub hl [0, 1, 3, 4, 5, 6] rfl)
        · have gc_29 : r_26.toInt = 0 := i_eq (rfl : r_26.toInt = r_26.toInt) (by decide : (0 : Int32).toInt = 0) c_29
          refine lv_goto (tgt := 56) hx hb dX10_setPace_25 (by decide) ?_
          obtain ⟨n_49, en_49⟩ : ∃ y : Int32, y = l_15 + 1 := ⟨_, rfl⟩
          have tn_49 : n_49.toInt = l_15.toInt + 1 := i_add en_49 (rfl : l_15.toInt = l_15.toInt) (by decide : (1 : Int32).toInt = 1) (by omega) (by omega)
          refine lv_iinc (v := n_49) (lv' := [(5, .int n_49), (4, .int l_14), (0, .ref (hm 0)), (1, .int set), (2, .int i), (3, .int tn)]) hx hb dX10_setPace_56 hl (k := 0) rfl (by rw [en_49]; rfl) (by decide) rfl (fun ls hl => ?_)
          refine lv_goto (tgt := 7) hx hb dX10_setPace_59 (by decide) ?_
          exact ih7_23 f_12 f_13 l_14 n_49 w_16 w_17 w_18 w_19 w_20 w_21 w_22 hL7_23_0 (by omega) (by omega) (by omega) (by omega) _ _ _ hP hD hS (lv_sub hl [0, 1, 2, 3, 4, 5] rfl)
  have k_50 : (60 : Int32).toInt = 60 := by decide
  have k_51 : (0 : Int32).toInt = 0 := by decide
  exact L7_23 8589934592 f_m_isRefused f_m_worth 60 0 v_atH v_atI v_atL v_atM v_atQ v_atT v_atW hr_m_isRefused (by omega) (by omega) (by omega) (by omega) _ _ _ hP hD hS (lv_sub hl [0, 1, 2, 3, 4, 5] rfl)
set_option maxHeartbeats 16000000 in
set_option maxRecDepth 100000 in
theorem c_X10_kettle (l : Launch) (D : va_G) (cy : Nat → ClassId) (hm : Nat → Nat) (v_taped v_walkers v_loads v_pieces v_changeCosts v_planned v_isMarch v_clauseMany v_place v_end v_bad v_clauses v_codes v_open v_stacked v_isOver v_isBehind v_atW v_atL v_atT v_atH v_atM v_atI v_atQ v_packing v_packed v_goPace v_goMinutes v_spentAt v_ranChanges : Int32) (f_m_tape f_m_knee f_m_weight f_m_isLame f_m_loadWeight f_m_owner f_m_food f_m_miles f_m_slope f_m_clauseLetter f_m_sumFrom f_m_codeFrom f_m_codeTo f_m_code f_m_codeArg f_m_newLetter f_m_newSum f_m_newFrom f_m_newTo f_m_newCode f_m_newArg f_m_stack f_m_worth f_m_isRefused f_m_least f_m_packPounds f_m_packOwner f_m_room f_m_givenTo f_m_canBe f_m_setPounds f_m_plainTime f_m_muleTime f_m_planTo f_m_march f_m_tired f_m_ranMinutes f_m_tiredAhead f_m_isReached f_m_toEnd f_m_upTo f_m_upNext f_m_byChanges f_m_bandPaces : Nat → Int32) (sz : Nat) (x : Int32) (hb_v_walkers : 0 ≤ v_walkers.toInt ∧ v_walkers.toInt ≤ 6) (hb_v_loads : 0 ≤ v_loads.toInt ∧ v_loads.toInt ≤ 9) (hb_v_pieces : 0 ≤ v_pieces.toInt ∧ v_pieces.toInt ≤ 10) (hb_v_isMarch : 0 ≤ v_isMarch.toInt ∧ v_isMarch.toInt ≤ 1) (hb_v_clauseMany : 0 ≤ v_clauseMany.toInt ∧ v_clauseMany.toInt ≤ 14) (hb_v_atW : 0 ≤ v_atW.toInt ∧ v_atW.toInt ≤ 5) (hb_v_goPace : 0 ≤ v_goPace.toInt ∧ v_goPace.toInt ≤ 60) (hb_v_spentAt : -1 ≤ v_spentAt.toInt ∧ v_spentAt.toInt ≤ 9) (hr_m_weight : rg (0) 250 f_m_weight) (hr_m_isLame : rg (0) 1 f_m_isLame) (hr_m_loadWeight : rg (0) 120 f_m_loadWeight) (hr_m_food : rg (0) 20 f_m_food) (hr_m_miles : rg (0) 20 f_m_miles) (hr_m_isRefused : rg (0) 1 f_m_isRefused) (hr_m_march : rg (0) 17 f_m_march) (hr_m_tired : rg (0) 5 f_m_tired) (hr_m_tiredAhead : rg (0) 46655 f_m_tiredAhead) (hwf : wfC v_clauseMany f_m_sumFrom f_m_codeFrom f_m_codeTo f_m_code) : gMi l yX10_kettle cX10_kettle 7 .int 9 [.ref (hm 0), .int x] D cy (wMD cy hm v_taped v_walkers v_loads v_pieces v_changeCosts v_planned v_isMarch v_clauseMany v_place v_end v_bad v_clauses v_codes v_open v_stacked v_isOver v_isBehind v_atW v_atL v_atT v_atH v_atM v_atI v_atQ v_packing v_packed v_goPace v_goMinutes v_spentAt v_ranChanges f_m_tape f_m_knee f_m_weight f_m_isLame f_m_loadWeight f_m_owner f_m_food f_m_miles f_m_slope f_m_clauseLetter f_m_sumFrom f_m_codeFrom f_m_codeTo f_m_code f_m_codeArg f_m_newLetter f_m_newSum f_m_newFrom f_m_newTo f_m_newCode f_m_newArg f_m_stack f_m_worth f_m_isRefused f_m_least f_m_packPounds f_m_packOwner f_m_room f_m_givenTo f_m_canBe f_m_setPounds f_m_plainTime f_m_muleTime f_m_planTo f_m_march f_m_tired f_m_ranMinutes f_m_tiredAhead f_m_isReached f_m_toEnd f_m_upTo f_m_upNext f_m_byChanges f_m_bandPaces) NT sz (fun (r : Int32) (u : Int32 × Int32 × Int32 × Int32 × Int32 × Int32 × Int32 × Int32 × Int32 × Int32 × Int32 × (Nat → Int32) × (Nat → Int32) × (Nat → Int32) × (Nat → Int32) × (Nat → Int32)) => (0 ≤ (u.1).toInt ∧ (u.1).toInt ≤ 5) ∧ (0 ≤ (u.2.2.2.2.2.2.2.1).toInt ∧ (u.2.2.2.2.2.2.2.1).toInt ≤ 60) ∧ (-1 ≤ (u.2.2.2.2.2.2.2.2.2.1).toInt ∧ (u.2.2.2.2.2.2.2.2.2.1).toInt ≤ 9) ∧ (rg (0) 1 (u.2.2.2.2.2.2.2.2.2.2.2.2.1)) ∧ (rg (0) 5 (u.2.2.2.2.2.2.2.2.2.2.2.2.2.1)) ∧ (rg (0) 46655 (u.2.2.2.2.2.2.2.2.2.2.2.2.2.2.2))) (fun u => wMD cy hm v_taped v_walkers v_loads v_pieces v_changeCosts v_planned v_isMarch v_clauseMany v_place v_end v_bad v_clauses v_codes v_open v_stacked v_isOver v_isBehind (u.1) (u.2.1) (u.2.2.1) (u.2.2.2.1) (u.2.2.2.2.1) (u.2.2.2.2.2.1) (u.2.2.2.2.2.2.1) v_packing v_packed (u.2.2.2.2.2.2.2.1) (u.2.2.2.2.2.2.2.2.1) (u.2.2.2.2.2.2.2.2.2.1) (u.2.2.2.2.2.2.2.2.2.2.1) f_m_tape f_m_knee f_m_weight f_m_isLame f_m_loadWeight f_m_owner f_m_food f_m_miles f_m_slope f_m_clauseLetter f_m_sumFrom f_m_codeFrom f_m_codeTo f_m_code f_m_codeArg f_m_newLetter f_m_newSum f_m_newFrom f_m_newTo f_m_newCode f_m_newArg f_m_stack (u.2.2.2.2.2.2.2.2.2.2.2.1) (u.2.2.2.2.2.2.2.2.2.2.2.2.1) f_m_least f_m_packPounds f_m_packOwner f_m_room f_m_givenTo f_m_canBe f_m_setPounds f_m_plainTime f_m_muleTime f_m_planTo f_m_march (u.2.2.2.2.2.2.2.2.2.2.2.2.2.1) (u.2.2.2.2.2.2.2.2.2.2.2.2.2.2.1) (u.2.2.2.2.2.2.2.2.2.2.2.2.2.2.2) f_m_isReached f_m_toEnd f_m_upTo f_m_upNext f_m_byChanges f_m_bandPaces) := by
  refine gMi_in (by decide) (Nat.le_of_ble_eq_true rfl) ?_
  intro p e s m args below meth c A ls Q hx hb hml hts hown hsz hP hK hD hN hAe hA hS hl hret
  subst hsz
  have hl : lv_has ls 7 [(0, .ref (hm 0)), (1, .int x)] := hl
  have hrt := fun (r : Int32) (v_atW' : Int32) (v_atL' : Int32) (v_atT' : Int32) (v_atH' : Int32) (v_atM' : Int32) (v_atI' : Int32) (v_atQ' : Int32) (v_goPace' : Int32) (v_goMinutes' : Int32) (v_spentAt' : Int32) (v_ranChanges' : Int32) (f_m_worth' : Nat → Int32) (f_m_isRefused' : Nat → Int32) (f_m_tired' : Nat → Int32) (f_m_ranMinutes' : Nat → Int32) (f_m_tiredAhead' : Nat → Int32) (hp : (0 ≤ v_atW'.toInt ∧ v_atW'.toInt ≤ 5) ∧ (0 ≤ v_goPace'.toInt ∧ v_goPace'.toInt ≤ 60) ∧ (-1 ≤ v_spentAt'.toInt ∧ v_spentAt'.toInt ≤ 9) ∧ (rg (0) 1 f_m_isRefused') ∧ (rg (0) 5 f_m_tired') ∧ (rg (0) 46655 f_m_tiredAhead')) {H : Heap} {locs : List Loc} {pc : Nat} {ls : Array Slot} => hret r (v_atW', v_atL', v_atT', v_atH', v_atM', v_atI', v_atQ', v_goPace', v_goMinutes', v_spentAt', v_ranChanges', f_m_worth', f_m_isRefused', f_m_tired', f_m_ranMinutes', f_m_tiredAhead') (H := H) (locs := locs) (pc := pc) (ls := ls) hp
  clear hret
  refine lv_aload_n hx hb dX10_kettle_0 rfl (lv_at hl 0 rfl) ?_
  refine gt_MD_MD_isMarch hx hb hts hown hK hP lwd_225 dX10_kettle_1 ?_
  refine lv_if_eq (tgt := 15) hx hb dX10_kettle_4 (by decide) (fun c_1 => ?_) (fun c_1 => ?_)
  · have gc_1 : v_isMarch.toInt = 0 := i_eq (rfl : v_isMarch.toInt = v_isMarch.toInt) (by decide : (0 : Int32).toInt = 0) c_1
    refine lv_iconst (v := (-1)) hx hb dX10_kettle_15 (by decide) ?_
    have k_2 : ((-1) : Int32).toInt = (-1) := by decide
    exact hrt (-1) v_atW v_atL v_atT v_atH v_atM v_atI v_atQ v_goPace v_goMinutes v_spentAt v_ranChanges f_m_worth f_m_isRefused f_m_tired f_m_ranMinutes f_m_tiredAhead ⟨(by omega), (by omega), (by omega), hr_m_isRefused, hr_m_tired, hr_m_tiredAhead⟩ hP hD hS rfl dX10_kettle_16
  · have gc_1 : v_isMarch.toInt ≠ 0 := i_ne (rfl : v_isMarch.toInt = v_isMarch.toInt) (by decide : (0 : Int32).toInt = 0) c_1
    refine lv_aload_n hx hb dX10_kettle_7 rfl (lv_at hl 0 rfl) ?_
    refine lv_iload_n hx hb dX10_kettle_8 rfl (lv_at hl 1 rfl) ?_
    refine xi hD hS hA (xV (As := [.int x]) (rest := []) hx hb hml hown hts hK hP hD hS hA NT_ok hN hAe hl.1 ⟨Nat.le_refl _, Nat.le_refl _⟩ 0 rfl rfl rfl (c_X10_isLoad l D cy hm v_taped v_walkers v_loads v_pieces v_changeCosts v_planned v_isMarch v_clauseMany v_place v_end v_bad v_clauses v_codes v_open v_stacked v_isOver v_isBehind v_atW v_atL v_atT v_atH v_atM v_atI v_atQ v_packing v_packed v_goPace v_goMinutes v_spentAt v_ranChanges f_m_tape f_m_knee f_m_weight f_m_isLame f_m_loadWeight f_m_owner f_m_food f_m_miles f_m_slope f_m_clauseLetter f_m_sumFrom f_m_codeFrom f_m_codeTo f_m_code f_m_codeArg f_m_newLetter f_m_newSum f_m_newFrom f_m_newTo f_m_newCode f_m_newArg f_m_stack f_m_worth f_m_isRefused f_m_least f_m_packPounds f_m_packOwner f_m_room f_m_givenTo f_m_canBe f_m_setPounds f_m_plainTime f_m_muleTime f_m_planTo f_m_march f_m_tired f_m_ranMinutes f_m_tiredAhead f_m_isReached f_m_toEnd f_m_upTo f_m_upNext f_m_byChanges f_m_bandPaces s.heap.size x (by omega)) (gi_V lwd_732 lwd_733 lwd_734 lwd_5 lwd_735) ⟨rfl, hd_X10_isLoad⟩ ⟨Nat.le_of_ble_eq_true rfl, Nat.le_of_ble_eq_true rfl⟩ rfl (Nat.le_of_ble_eq_true rfl) dX10_kettle_9) (fun r_4 u_3 H locs hw hP hD hS => ?_)
    try dsimp only at hw hP hD
    obtain ⟨p_5, p_6⟩ := hw
    refine lv_if_ne (tgt := 17) hx hb dX10_kettle_12 (by decide) (fun c_7 => ?_) (fun c_7 => ?_)
    · have gc_7 : r_4.toInt ≠ 0 := i_ne (rfl : r_4.toInt = r_4.toInt) (by decide : (0 : Int32).toInt = 0) c_7
      refine lv_aload_n hx hb dX10_kettle_17 rfl (lv_at hl 0 rfl) ?_
      refine xv hD hS hA (xV (As := []) (rest := []) hx hb hml hown hts hK hP hD hS hA NT_ok hN hAe hl.1 ⟨Nat.le_refl _, Nat.le_refl _⟩ 0 rfl rfl rfl (c_X10_runs l D cy hm v_taped v_walkers v_loads v_pieces v_changeCosts v_planned v_isMarch v_clauseMany v_place v_end v_bad v_clauses v_codes v_open v_stacked v_isOver v_isBehind v_atW v_atL v_atT v_atH v_atM v_atI v_atQ v_packing v_packed v_goPace v_goMinutes v_spentAt v_ranChanges f_m_tape f_m_knee f_m_weight f_m_isLame f_m_loadWeight f_m_owner f_m_food f_m_miles f_m_slope f_m_clauseLetter f_m_sumFrom f_m_codeFrom f_m_codeTo f_m_code f_m_codeArg f_m_newLetter f_m_newSum f_m_newFrom f_m_newTo f_m_newCode f_m_newArg f_m_stack f_m_worth f_m_isRefused f_m_least f_m_packPounds f_m_packOwner f_m_room f_m_givenTo f_m_canBe f_m_setPounds f_m_plainTime f_m_muleTime f_m_planTo f_m_march f_m_tired f_m_ranMinutes f_m_tiredAhead f_m_isReached f_m_toEnd f_m_upTo f_m_upNext f_m_byChanges f_m_bandPaces H.size (by omega) (by omega) (by omega) (by omega) (by omega) (by omega) (by omega) hr_m_weight hr_m_isLame hr_m_loadWeight hr_m_food hr_m_miles hr_m_isRefused hr_m_march hr_m_tired hr_m_tiredAhead hwf) (gi_V lwd_986 lwd_987 lwd_988 lwd_5 lwd_989) ⟨rfl, hd_X10_runs⟩ ⟨Nat.le_of_ble_eq_true rfl, Nat.le_of_ble_eq_true rfl⟩ rfl (Nat.le_of_ble_eq_true rfl) dX10_kettle_18) (fun u_8 H locs hw hP hD hS => ?_)
      obtain ⟨zatW_10, zatL_11, zatT_12, zatH_13, zatM_14, zatI_15, zatQ_16, zgoPace_17, zgoMinutes_18, zspentAt_19, zranChanges_20, zworth_21, zisRefused_22, ztired_23, zranMinutes_24, ztiredAhead_25⟩ := u_8
      try dsimp only at hw hP hD
      obtain ⟨p_26, p_27, p_28, p_29, p_30, p_31⟩ := hw
      refine lv_bipush (v := (-2)) hx hb dX10_kettle_21 (by decide) ?_
      refine lv_istore_n (lv' := [(2, .int (-2)), (0, .ref (hm 0)), (1, .int x)]) hx hb dX10_kettle_23 rfl hl (by decide) rfl (fun ls hl => ?_)
      refine lv_iconst (v := 0) hx hb dX10_kettle_24 (by decide) ?_
      refine lv_istore_n (lv' := [(3, .int 0), (2, .int (-2)), (0, .ref (hm 0)), (1, .int x)]) hx hb dX10_kettle_25 rfl hl (by decide) rfl (fun ls hl => ?_)
      refine lv_iconst (v := 0) hx hb dX10_kettle_26 (by decide) ?_
      refine lv_istore (lv' := [(4, .int 0), (3, .int 0), (2, .int (-2)), (0, .ref (hm 0)), (1, .int x)]) hx hb dX10_kettle_27 hl (by decide) rfl (fun ls hl => ?_)
      have L29_38 : ∀ (n : Nat) (l_35 : Int32) (l_36 : Int32) (l_37 : Int32), (0 ≤ l_37.toInt ∧ l_37.toInt ≤ 6) → 7 - l_37.toInt < n → ∀ (H : Heap) (locs : List Loc) (ls : Array Slot), va_P D vwCl (wMD cy hm v_taped v_walkers v_loads v_pieces v_changeCosts v_planned v_isMarch v_clauseMany v_place v_end v_bad v_clauses v_codes v_open v_stacked v_isOver v_isBehind zatW_10 zatL_11 zatT_12 zatH_13 zatM_14 zatI_15 zatQ_16 v_packing v_packed zgoPace_17 zgoMinutes_18 zspentAt_19 zranChanges_20 f_m_tape f_m_knee f_m_weight f_m_isLame f_m_loadWeight f_m_owner f_m_food f_m_miles f_m_slope f_m_clauseLetter f_m_sumFrom f_m_codeFrom f_m_codeTo f_m_code f_m_codeArg f_m_newLetter f_m_newSum f_m_newFrom f_m_newTo f_m_newCode f_m_newArg f_m_stack zworth_21 zisRefused_22 f_m_least f_m_packPounds f_m_packOwner f_m_room f_m_givenTo f_m_canBe f_m_setPounds f_m_plainTime f_m_muleTime f_m_planTo f_m_march ztired_23 zranMinutes_24 ztiredAhead_25 f_m_isReached f_m_toEnd f_m_upTo f_m_upNext f_m_byChanges f_m_bandPaces) H → va_D A (wMD cy hm v_taped v_walkers v_loads v_pieces v_changeCosts v_planned v_isMarch v_clauseMany v_place v_end v_bad v_clauses v_codes v_open v_stacked v_isOver v_isBehind zatW_10 zatL_11 zatT_12 zatH_13 zatM_14 zatI_15 zatQ_16 v_packing v_packed zgoPace_17 zgoMinutes_18 zspentAt_19 zranChanges_20 f_m_tape f_m_knee f_m_weight f_m_isLame f_m_loadWeight f_m_owner f_m_food f_m_miles f_m_slope f_m_clauseLetter f_m_sumFrom f_m_codeFrom f_m_codeTo f_m_code f_m_codeArg f_m_newLetter f_m_newSum f_m_newFrom f_m_newTo f_m_newCode f_m_newArg f_m_stack zworth_21 zisRefused_22 f_m_least f_m_packPounds f_m_packOwner f_m_room f_m_givenTo f_m_canBe f_m_setPounds f_m_plainTime f_m_muleTime f_m_planTo f_m_march ztired_23 zranMinutes_24 ztiredAhead_25 f_m_isReached f_m_toEnd f_m_upTo f_m_upNext f_m_byChanges f_m_bandPaces) → va_S A s.heap H locs → lv_has ls 7 [(4, .int l_37), (3, .int l_36), (2, .int l_35), (0, .ref (hm 0)), (1, .int x)] → W p l e (gRm 9) s m args below meth c H locs 0 0 Q (F0 m 29 ls []) := by
        intro n
        induction n with
        | zero => intro l_35 l_36 l_37 hL29_38_0 hm; exact absurd hm (by omega)
        | succ n ih29_38 =>
          intro l_35 l_36 l_37 hL29_38_0 hmL29_38 H locs ls hP hD hS hl
          refine lv_iload hx hb dX10_kettle_29 (lv_at hl 0 rfl) ?_
          refine lv_aload_n hx hb dX10_kettle_31 rfl (lv_at hl 3 rfl) ?_
          refine gt_MD_MD_walkers hx hb hts hown hK hP lwd_221 dX10_kettle_32 ?_
          refine lv_icmp_ge (tgt := 121) hx hb dX10_kettle_35 (by decide) (fun c_39 => ?_) (fun c_39 => ?_)
          · have gc_39 : v_walkers.toInt ≤ l_37.toInt := i_le (rfl : v_walkers.toInt = v_walkers.toInt) (rfl : l_37.toInt = l_37.toInt) c_39
            refine lv_iload_n hx hb dX10_kettle_121 rfl (lv_at hl 2 rfl) ?_
            exact hrt l_35 zatW_10 zatL_11 zatT_12 zatH_13 zatM_14 zatI_15 zatQ_16 zgoPace_17 zgoMinutes_18 zspentAt_19 zranChanges_20 zworth_21 zisRefused_22 ztired_23 zranMinutes_24 ztiredAhead_25 ⟨(by omega), (by omega), (by omega), p_29, p_30, p_31⟩ hP hD hS rfl dX10_kettle_122
          · have gc_39 : l_37.toInt < v_walkers.toInt := i_nle (rfl : v_walkers.toInt = v_walkers.toInt) (rfl : l_37.toInt = l_37.toInt) c_39
            refine lv_iconst (v := 0) hx hb dX10_kettle_38 (by decide) ?_
            refine lv_istore (lv' := [(5, .int 0), (4, .int l_37), (3, .int l_36), (2, .int l_35), (0, .ref (hm 0)), (1, .int x)]) hx hb dX10_kettle_39 hl (by decide) rfl (fun ls hl => ?_)
            refine lv_iconst (v := 0) hx hb dX10_kettle_41 (by decide) ?_
            refine lv_istore (lv' := [(6, .int 0), (5, .int 0), (4, .int l_37), (3, .int l_36), (2, .int l_35), (0, .ref (hm 0)), (1, .int x)]) hx hb dX10_kettle_42 hl (by decide) rfl (fun ls hl => ?_)
            have L44_44 : ∀ (n : Nat) (l_42 : Int32) (l_43 : Int32), (0 ≤ l_43.toInt ∧ l_43.toInt ≤ 10) → 11 - l_43.toInt < n → ∀ (H : Heap) (locs : List Loc) (ls : Array Slot), va_P D vwCl (wMD cy hm v_taped v_walkers v_loads v_pieces v_changeCosts v_planned v_isMarch v_clauseMany v_place v_end v_bad v_clauses v_codes v_open v_stacked v_isOver v_isBehind zatW_10 zatL_11 zatT_12 zatH_13 zatM_14 zatI_15 zatQ_16 v_packing v_packed zgoPace_17 zgoMinutes_18 zspentAt_19 zranChanges_20 f_m_tape f_m_knee f_m_weight f_m_isLame f_m_loadWeight f_m_owner f_m_food f_m_miles f_m_slope f_m_clauseLetter f_m_sumFrom f_m_codeFrom f_m_codeTo f_m_code f_m_codeArg f_m_newLetter f_m_newSum f_m_newFrom f_m_newTo f_m_newCode f_m_newArg f_m_stack zworth_21 zisRefused_22 f_m_least f_m_packPounds f_m_packOwner f_m_room f_m_givenTo f_m_canBe f_m_setPounds f_m_plainTime f_m_muleTime f_m_planTo f_m_march ztired_23 zranMinutes_24 ztiredAhead_25 f_m_isReached f_m_toEnd f_m_upTo f_m_upNext f_m_byChanges f_m_bandPaces) H → va_D A (wMD cy hm v_taped v_walkers v_loads v_pieces v_changeCosts v_planned v_isMarch v_clauseMany v_place v_end v_bad v_clauses v_codes v_open v_stacked v_isOver v_isBehind zatW_10 zatL_11 zatT_12 zatH_13 zatM_14 zatI_15 zatQ_16 v_packing v_packed zgoPace_17 zgoMinutes_18 zspentAt_19 zranChanges_20 f_m_tape f_m_knee f_m_weight f_m_isLame f_m_loadWeight f_m_owner f_m_food f_m_miles f_m_slope f_m_clauseLetter f_m_sumFrom f_m_codeFrom f_m_codeTo f_m_code f_m_codeArg f_m_newLetter f_m_newSum f_m_newFrom f_m_newTo f_m_newCode f_m_newArg f_m_stack zworth_21 zisRefused_22 f_m_least f_m_packPounds f_m_packOwner f_m_room f_m_givenTo f_m_canBe f_m_setPounds f_m_plainTime f_m_muleTime f_m_planTo f_m_march ztired_23 zranMinutes_24 ztiredAhead_25 f_m_isReached f_m_toEnd f_m_upTo f_m_upNext f_m_byChanges f_m_bandPaces) → va_S A s.heap H locs → lv_has ls 7 [(6, .int l_43), (5, .int l_42), (4, .int l_37), (3, .int l_36), (2, .int l_35), (0, .ref (hm 0)), (1, .int x)] → W p l e (gRm 9) s m args below meth c H locs 0 0 Q (F0 m 44 ls []) := by
              intro n
              induction n with
              | zero => intro l_42 l_43 hL44_44_0 hm; exact absurd hm (by omega)
              | succ n ih44_44 =>
                intro l_42 l_43 hL44_44_0 hmL44_44 H locs ls hP hD hS hl
                refine lv_iload hx hb dX10_kettle_44 (lv_at hl 0 rfl) ?_
                refine lv_aload_n hx hb dX10_kettle_46 rfl (lv_at hl 5 rfl) ?_
                refine xi hD hS hA (xV (As := []) (rest := [.int l_43]) hx hb hml hown hts hK hP hD hS hA NT_ok hN hAe hl.1 ⟨Nat.le_refl _, Nat.le_refl _⟩ 0 rfl rfl rfl (c_X10_gone l D cy hm v_taped v_walkers v_loads v_pieces v_changeCosts v_planned v_isMarch v_clauseMany v_place v_end v_bad v_clauses v_codes v_open v_stacked v_isOver v_isBehind zatW_10 zatL_11 zatT_12 zatH_13 zatM_14 zatI_15 zatQ_16 v_packing v_packed zgoPace_17 zgoMinutes_18 zspentAt_19 zranChanges_20 f_m_tape f_m_knee f_m_weight f_m_isLame f_m_loadWeight f_m_owner f_m_food f_m_miles f_m_slope f_m_clauseLetter f_m_sumFrom f_m_codeFrom f_m_codeTo f_m_code f_m_codeArg f_m_newLetter f_m_newSum f_m_newFrom f_m_newTo f_m_newCode f_m_newArg f_m_stack zworth_21 zisRefused_22 f_m_least f_m_packPounds f_m_packOwner f_m_room f_m_givenTo f_m_canBe f_m_setPounds f_m_plainTime f_m_muleTime f_m_planTo f_m_march ztired_23 zranMinutes_24 ztiredAhead_25 f_m_isReached f_m_toEnd f_m_upTo f_m_upNext f_m_byChanges f_m_bandPaces H.size (by omega) (by omega)) (gi_V lwd_1020 lwd_1021 lwd_1022 lwd_5 lwd_1023) ⟨rfl, hd_X10_gone⟩ ⟨Nat.le_of_ble_eq_true rfl, Nat.le_of_ble_eq_true rfl⟩ rfl (Nat.le_of_ble_eq_true rfl) dX10_kettle_47) (fun r_46 u_45 H locs hw hP hD hS => ?_)
                try dsimp only at hw hP hD
                have p_47 := hw
                clear hw
                refine lv_icmp_ge (tgt := 100) hx hb dX10_kettle_50 (by decide) (fun c_48 => ?_) (fun c_48 => ?_)
                · have gc_48 : r_46.toInt ≤ l_43.toInt := i_le (rfl : r_46.toInt = r_46.toInt) (rfl : l_43.toInt = l_43.toInt) c_48
                  refine lv_iload hx hb dX10_kettle_100 (lv_at hl 1 rfl) ?_
                  refine lv_iload_n hx hb dX10_kettle_102 rfl (lv_at hl 3 rfl) ?_
                  refine lv_icmp_gt (tgt := 109) hx hb dX10_kettle_103 (by decide) (fun c_49 => ?_) (fun c_49 => ?_)
                  · have gc_49 : l_36.toInt < l_42.toInt := i_lt (rfl : l_36.toInt = l_36.toInt) (rfl : l_42.toInt = l_42.toInt) c_49
                    refine lv_iload hx hb dX10_kettle_109 (lv_at hl 2 rfl) ?_
                    refine lv_istore_n (lv' := [(2, .int l_37), (6, .int l_43), (5, .int l_42), (4, .int l_37), (3, .int l_36), (0, .ref (hm 0)), (1, .int x)]) hx hb dX10_kettle_111 rfl hl (by decide) rfl (fun ls hl => ?_)
                    refine lv_iload hx hb dX10_kettle_112 (lv_at hl 2 rfl) ?_
                    refine lv_istore_n (lv' := [(3, .int l_42), (2, .int l_37), (6, .int l_43), (5, .int l_42), (4, .int l_37), (0, .ref (hm 0)), (1, .int x)]) hx hb dX10_kettle_114 rfl hl (by decide) rfl (fun ls hl => ?_)
                    obtain ⟨n_50, en_50⟩ : ∃ y : Int32, y = l_37 + 1 := ⟨_, rfl⟩
                    have tn_50 : n_50.toInt = l_37.toInt + 1 := i_add en_50 (rfl : l_37.toInt = l_37.toInt) (by decide : (1 : Int32).toInt = 1) (by omega) (by omega)
                    refine lv_iinc (v := n_50) (lv' := [(4, .int n_50), (3, .int l_42), (2, .int l_37), (6, .int l_43), (5, .int l_42), (0, .ref (hm 0)), (1, .int x)]) hx hb dX10_kettle_115 hl (k := 4) rfl (by rw [en_50]; rfl) (by decide) rfl (fun ls hl => ?_)
                    refine lv_goto (tgt := 29) hx hb dX10_kettle_118 (by decide) ?_
                    exact ih29_38 l_37 l_42 n_50 (by omega) (by omega) _ _ _ hP hD hS (lv_sub hl [0, 1, 2, 5, 6] rfl)
                  · have gc_49 : l_42.toInt ≤ l_36.toInt := i_nlt (rfl : l_36.toInt = l_36.toInt) (rfl : l_42.toInt = l_42.toInt) c_49
                    refine lv_goto (tgt := 115) hx hb dX10_kettle_106 (by decide) ?_
                    obtain ⟨n_51, en_51⟩ : ∃ y : Int32, y = l_37 + 1 := ⟨_, rfl⟩
                    have tn_51 : n_51.toInt = l_37.toInt + 1 := i_add en_51 (rfl : l_37.toInt = l_37.toInt) (by decide : (1 : Int32).toInt = 1) (by omega) (by omega)
                    refine lv_iinc (v := n_51) (lv' := [(4, .int n_51), (6, .int l_43), (5, .int l_42), (3, .int l_36), (2, .int l_35), (0, .ref (hm 0)), (1, .int x)]) hx hb dX10_kettle_115 hl (k := 2) rfl (by rw [en_51]; rfl) (by decide) rfl (fun ls hl => ?_)
                    refine lv_goto (tgt := 29) hx hb dX10_kettle_118 (by decide) ?_
                    exact ih29_38 l_35 l_36 n_51 (by omega) (by omega) _ _ _ hP hD hS (lv_sub hl [0, 3, 4, 5, 6] rfl)
                · have gc_48 : l_43.toInt < r_46.toInt := i_nle (rfl : r_46.toInt = r_46.toInt) (rfl : l_43.toInt = l_43.toInt) c_48
                  refine lv_iload hx hb dX10_kettle_53 (lv_at hl 1 rfl) ?_
                  refine lv_aload_n hx hb dX10_kettle_55 rfl (lv_at hl 5 rfl) ?_
                  refine gt_MD_MD_planTo hx hb hts hown hK hP lwd_189 dX10_kettle_56 ?_
                  refine lv_bipush (v := 9) hx hb dX10_kettle_59 (by decide) ?_
                  refine lv_aload_n hx hb dX10_kettle_61 rfl (lv_at hl 5 rfl) ?_
                  refine gt_MD_MD_march hx hb hts hown hK hP lwd_190 dX10_kettle_62 ?_
                  refine lv_iload hx hb dX10_kettle_65 (lv_at hl 0 rfl) ?_
                  refine al_m_march hx hb hK hP hr_m_march (i_in (rfl : l_43.toInt = l_43.toInt) (by omega) (by omega)) dX10_kettle_67 (fun n_52 en_52 bn_52 => ?_)
                  refine lv_bipush (v := 6) hx hb dX10_kettle_68 (by decide) ?_
                  refine lv_irem hx hb dX10_kettle_70 (by decide) ?_
                  refine lv_topi (fun n_53 en_53 => ?_)
                  have tn_53 : n_53.toInt = n_52.toInt % 6 := i_rem en_53 (rfl : n_52.toInt = n_52.toInt) (by decide : (6 : Int32).toInt = 6) (by omega) (by omega)
                  refine lv_imul hx hb dX10_kettle_71 ?_
                  refine lv_topi (fun n_54 en_54 => ?_)
                  have tn_54 : n_54.toInt = 9 * (n_52.toInt % 6) := i_mul en_54 (by decide : (9 : Int32).toInt = 9) tn_53 (by omega) (by omega)
                  refine lv_iload_n hx hb dX10_kettle_72 rfl (lv_at hl 6 rfl) ?_
                  refine lv_iadd hx hb dX10_kettle_73 ?_
                  have hb_55 := And.intro (i_bot x) (i_top x)
                  refine lv_topi (fun n_56 en_56 => ?_)
                  have tn_56 : n_56.toInt = (9 * (n_52.toInt % 6)) + x.toInt := i_add en_56 tn_54 (rfl : x.toInt = x.toInt) (by omega) (by omega)
                  refine al_m_planTo hx hb hK hP (i_in tn_56 (by omega) (by omega)) dX10_kettle_74 (fun n_57 en_57 => ?_)
                  refine lv_iload hx hb dX10_kettle_75 (lv_at hl 2 rfl) ?_
                  refine lv_icmp_ne (tgt := 90) hx hb dX10_kettle_77 (by decide) (fun c_58 => ?_) (fun c_58 => ?_)
                  · have gc_58 : n_57.toInt ≠ l_37.toInt := i_ne (rfl : n_57.toInt = n_57.toInt) (rfl : l_37.toInt = l_37.toInt) c_58
                    refine lv_iconst (v := 0) hx hb dX10_kettle_90 (by decide) ?_
                    refine lv_iadd hx hb dX10_kettle_91 ?_
                    have hb_59 := And.intro (i_bot l_42) (i_top l_42)
                    refine lv_topi (fun n_60 en_60 => ?_)
                    have tn_60 : n_60.toInt = l_42.toInt + 0 := i_add en_60 (rfl : l_42.toInt = l_42.toInt) (by decide : (0 : Int32).toInt = 0) (by omega) (by omega)
                    refine lv_istore (lv' := [(5, .int n_60), (6, .int l_43), (4, .int l_37), (3, .int l_36), (2, .int l_35), (0, .ref (hm 0)), (1, .int x)]) hx hb dX10_kettle_92 hl (by decide) rfl (fun ls hl => ?_)
                    obtain ⟨n_61, en_61⟩ : ∃ y : Int32, y = l_43 + 1 := ⟨_, rfl⟩
                    have tn_61 : n_61.toInt = l_43.toInt + 1 := i_add en_61 (rfl : l_43.toInt = l_43.toInt) (by decide : (1 : Int32).toInt = 1) (by omega) (by omega)
                    refine lv_iinc (v := n_61) (lv' := [(6, .int n_61), (5, .int n_60), (4, .int l_37), (3, .int l_36), (2, .int l_35), (0, .ref (hm 0)), (1, .int x)]) hx hb dX10_kettle_94 hl (k := 1) rfl (by rw [en_61]; rfl) (by decide) rfl (fun ls hl => ?_)
                    refine lv_goto (tgt := 44) hx hb dX10_kettle_97 (by decide) ?_
                    exact ih44_44 n_60 n_61 (by omega) (by omega) _ _ _ hP hD hS (lv_sub hl [0, 1, 2, 3, 4, 5, 6] rfl)
                  · have gc_58 : n_57.toInt = l_37.toInt := i_eq (rfl : n_57.toInt = n_57.toInt) (rfl : l_37.toInt = l_37.toInt) c_58
                    refine lv_aload_n hx hb dX10_kettle_80 rfl (lv_at hl 5 rfl) ?_
                    refine gt_MD_MD_miles hx hb hts hown hK hP lwd_163 dX10_kettle_81 ?_
                    refine lv_iload hx hb dX10_kettle_84 (lv_at hl 0 rfl) ?_
                    refine al_m_miles hx hb hK hP hr_m_miles (i_in (rfl : l_43.toInt = l_43.toInt) (by omega) (by omega)) dX10_kettle_86 (fun n_62 en_62 bn_62 => ?_)
                    refine lv_goto (tgt := 91) hx hb dX10_kettle_87 (by decide) ?_
                    refine lv_iadd hx hb dX10_kettle_91 ?_
                    refine lv_topi (fun n_63 en_63 => ?_)
                    refine lv_istore (lv' := [(5, .int n_63), (6, .int l_43), (4, .int l_37), (3, .int l_36), (2, .int l_35), (0, .ref (hm 0)), (1, .int x)]) hx hb dX10_kettle_92 hl (by decide) rfl (fun ls hl => ?_)
                    obtain ⟨n_64, en_64⟩ : ∃ y : Int32, y = l_43 + 1 := ⟨_, rfl⟩
                    have tn_64 : n_64.toInt = l_43.toInt + 1 := i_add en_64 (rfl : l_43.toInt = l_43.toInt) (by decide : (1 : Int32).toInt = 1) (by omega) (by omega)
                    refine lv_iinc (v := n_64) (lv' := [(6, .int n_64), (5, .int n_63), (4, .int l_37), (3, .int l_36), (2, .int l_35), (0, .ref (hm 0)), (1, .int x)]) hx hb dX10_kettle_94 hl (k := 1) rfl (by rw [en_64]; rfl) (by decide) rfl (fun ls hl => ?_)
                    refine lv_goto (tgt := 44) hx hb dX10_kettle_97 (by decide) ?_
                    exact ih44_44 n_63 n_64 (by omega) (by omega) _ _ _ hP hD hS (lv_sub hl [0, 1, 2, 3, 4, 5, 6] rfl)
            have k_65 : (0 : Int32).toInt = 0 := by decide
            have k_66 : (0 : Int32).toInt = 0 := by decide
            exact L44_44 8589934592 0 0 (by omega) (by omega) _ _ _ hP hD hS (lv_sub hl [0, 1, 2, 3, 4, 5, 6] rfl)
      have k_67 : ((-2) : Int32).toInt = (-2) := by decide
      have k_68 : (0 : Int32).toInt = 0 := by decide
      have k_69 : (0 : Int32).toInt = 0 := by decide
      exact L29_38 8589934592 (-2) 0 0 (by omega) (by omega) _ _ _ hP hD hS (lv_sub hl [0, 1, 2, 3, 4] rfl)
    · have gc_7 : r_4.toInt = 0 := i_eq (rfl : r_4.toInt = r_4.toInt) (by decide : (0 : Int32).toInt = 0) c_7
      refine lv_iconst (v := (-1)) hx hb dX10_kettle_15 (by decide) ?_
      have k_70 : ((-1) : Int32).toInt = (-1) := by decide
      exact hrt (-1) v_atW v_atL v_atT v_atH v_atM v_atI v_atQ v_goPace v_goMinutes v_spentAt v_ranChanges f_m_worth f_m_isRefused f_m_tired f_m_ranMinutes f_m_tiredAhead ⟨(by omega), (by omega), (by omega), hr_m_isRefused, hr_m_tired, hr_m_tiredAhead⟩ hP hD hS rfl dX10_kettle_16
set_option maxHeartbeats 16000000 in
set_option maxRecDepth 100000 in
theorem c_X10_numberAt (l : Launch) (D : va_G) (cy : Nat → ClassId) (hm : Nat → Nat) (v_taped v_walkers v_loads v_pieces v_changeCosts v_planned v_isMarch v_clauseMany v_place v_end v_bad v_clauses v_codes v_open v_stacked v_isOver v_isBehind v_atW v_atL v_atT v_atH v_atM v_atI v_atQ v_packing v_packed v_goPace v_goMinutes v_spentAt v_ranChanges : Int32) (f_m_tape f_m_knee f_m_weight f_m_isLame f_m_loadWeight f_m_owner f_m_food f_m_miles f_m_slope f_m_clauseLetter f_m_sumFrom f_m_codeFrom f_m_codeTo f_m_code f_m_codeArg f_m_newLetter f_m_newSum f_m_newFrom f_m_newTo f_m_newCode f_m_newArg f_m_stack f_m_worth f_m_isRefused f_m_least f_m_packPounds f_m_packOwner f_m_room f_m_givenTo f_m_canBe f_m_setPounds f_m_plainTime f_m_muleTime f_m_planTo f_m_march f_m_tired f_m_ranMinutes f_m_tiredAhead f_m_isReached f_m_toEnd f_m_upTo f_m_upNext f_m_byChanges f_m_bandPaces : Nat → Int32) (sz : Nat) (k : Int32) (hr_m_tape : rg (-128) 127 f_m_tape) (ha_k : 0 ≤ k.toInt ∧ k.toInt ≤ 9) : gMi l yX10_numberAt cX10_numberAt 4 .int 1 [.ref (hm 0), .int k] D cy (wMD cy hm v_taped v_walkers v_loads v_pieces v_changeCosts v_planned v_isMarch v_clauseMany v_place v_end v_bad v_clauses v_codes v_open v_stacked v_isOver v_isBehind v_atW v_atL v_atT v_atH v_atM v_atI v_atQ v_packing v_packed v_goPace v_goMinutes v_spentAt v_ranChanges f_m_tape f_m_knee f_m_weight f_m_isLame f_m_loadWeight f_m_owner f_m_food f_m_miles f_m_slope f_m_clauseLetter f_m_sumFrom f_m_codeFrom f_m_codeTo f_m_code f_m_codeArg f_m_newLetter f_m_newSum f_m_newFrom f_m_newTo f_m_newCode f_m_newArg f_m_stack f_m_worth f_m_isRefused f_m_least f_m_packPounds f_m_packOwner f_m_room f_m_givenTo f_m_canBe f_m_setPounds f_m_plainTime f_m_muleTime f_m_planTo f_m_march f_m_tired f_m_ranMinutes f_m_tiredAhead f_m_isReached f_m_toEnd f_m_upTo f_m_upNext f_m_byChanges f_m_bandPaces) NT sz (fun (r : Int32) (u : Unit) => True) (fun u => wMD cy hm v_taped v_walkers v_loads v_pieces v_changeCosts v_planned v_isMarch v_clauseMany v_place v_end v_bad v_clauses v_codes v_open v_stacked v_isOver v_isBehind v_atW v_atL v_atT v_atH v_atM v_atI v_atQ v_packing v_packed v_goPace v_goMinutes v_spentAt v_ranChanges f_m_tape f_m_knee f_m_weight f_m_isLame f_m_loadWeight f_m_owner f_m_food f_m_miles f_m_slope f_m_clauseLetter f_m_sumFrom f_m_codeFrom f_m_codeTo f_m_code f_m_codeArg f_m_newLetter f_m_newSum f_m_newFrom f_m_newTo f_m_newCode f_m_newArg f_m_stack f_m_worth f_m_isRefused f_m_least f_m_packPounds f_m_packOwner f_m_room f_m_givenTo f_m_canBe f_m_setPounds f_m_plainTime f_m_muleTime f_m_planTo f_m_march f_m_tired f_m_ranMinutes f_m_tiredAhead f_m_isReached f_m_toEnd f_m_upTo f_m_upNext f_m_byChanges f_m_bandPaces) := by
  refine gMi_in (by decide) (Nat.le_of_ble_eq_true rfl) ?_
  intro p e s m args below meth c A ls Q hx hb hml hts hown hsz hP hK hD hN hAe hA hS hl hret
  subst hsz
  have hl : lv_has ls 4 [(0, .ref (hm 0)), (1, .int k)] := hl
  have hrt := fun (r : Int32)   {H : Heap} {locs : List Loc} {pc : Nat} {ls : Array Slot} => hret r () (H := H) (locs := locs) (pc := pc) (ls := ls) trivial
  clear hret
  refine lv_iconst (v := 0) hx hb dX10_numberAt_0 (by decide) ?_
  refine lv_istore_n (lv' := [(2, .int 0), (0, .ref (hm 0)), (1, .int k)]) hx hb dX10_numberAt_1 rfl hl (by decide) rfl (fun ls hl => ?_)
  refine lv_iconst (v := 0) hx hb dX10_numberAt_2 (by decide) ?_
  refine lv_istore_n (lv' := [(3, .int 0), (2, .int 0), (0, .ref (hm 0)), (1, .int k)]) hx hb dX10_numberAt_3 rfl hl (by decide) rfl (fun ls hl => ?_)
  have L4_5 : ∀ (n : Nat) (l_3 : Int32) (l_4 : Int32), (0 ≤ l_4.toInt ∧ l_4.toInt ≤ 4) → 5 - l_4.toInt < n → ∀ (H : Heap) (locs : List Loc) (ls : Array Slot), va_P D vwCl (wMD cy hm v_taped v_walkers v_loads v_pieces v_changeCosts v_planned v_isMarch v_clauseMany v_place v_end v_bad v_clauses v_codes v_open v_stacked v_isOver v_isBehind v_atW v_atL v_atT v_atH v_atM v_atI v_atQ v_packing v_packed v_goPace v_goMinutes v_spentAt v_ranChanges f_m_tape f_m_knee f_m_weight f_m_isLame f_m_loadWeight f_m_owner f_m_food f_m_miles f_m_slope f_m_clauseLetter f_m_sumFrom f_m_codeFrom f_m_codeTo f_m_code f_m_codeArg f_m_newLetter f_m_newSum f_m_newFrom f_m_newTo f_m_newCode f_m_newArg f_m_stack f_m_worth f_m_isRefused f_m_least f_m_packPounds f_m_packOwner f_m_room f_m_givenTo f_m_canBe f_m_setPounds f_m_plainTime f_m_muleTime f_m_planTo f_m_march f_m_tired f_m_ranMinutes f_m_tiredAhead f_m_isReached f_m_toEnd f_m_upTo f_m_upNext f_m_byChanges f_m_bandPaces) H → va_D A (wMD cy hm v_taped v_walkers v_loads v_pieces v_changeCosts v_planned v_isMarch v_clauseMany v_place v_end v_bad v_clauses v_codes v_open v_stacked v_isOver v_isBehind v_atW v_atL v_atT v_atH v_atM v_atI v_atQ v_packing v_packed v_goPace v_goMinutes v_spentAt v_ranChanges f_m_tape f_m_knee f_m_weight f_m_isLame f_m_loadWeight f_m_owner f_m_food f_m_miles f_m_slope f_m_clauseLetter f_m_sumFrom f_m_codeFrom f_m_codeTo f_m_code f_m_codeArg f_m_newLetter f_m_newSum f_m_newFrom f_m_newTo f_m_newCode f_m_newArg f_m_stack f_m_worth f_m_isRefused f_m_least f_m_packPounds f_m_packOwner f_m_room f_m_givenTo f_m_canBe f_m_setPounds f_m_plainTime f_m_muleTime f_m_planTo f_m_march f_m_tired f_m_ranMinutes f_m_tiredAhead f_m_isReached f_m_toEnd f_m_upTo f_m_upNext f_m_byChanges f_m_bandPaces) → va_S A s.heap H locs → lv_has ls 4 [(3, .int l_4), (2, .int l_3), (0, .ref (hm 0)), (1, .int k)] → W p l e (gRm 1) s m args below meth c H locs 0 0 Q (F0 m 4 ls []) := by
    intro n
    induction n with
    | zero => intro l_3 l_4 hL4_5_0 hm; exact absurd hm (by omega)
    | succ n ih4_5 =>
      intro l_3 l_4 hL4_5_0 hmL4_5 H locs ls hP hD hS hl
      refine lv_iload_n hx hb dX10_numberAt_4 rfl (lv_at hl 0 rfl) ?_
      refine lv_iconst (v := 4) hx hb dX10_numberAt_5 (by decide) ?_
      refine lv_icmp_ge (tgt := 35) hx hb dX10_numberAt_6 (by decide) (fun c_6 => ?_) (fun c_6 => ?_)
      · have gc_6 : 4 ≤ l_4.toInt := i_le (by decide : (4 : Int32).toInt = 4) (rfl : l_4.toInt = l_4.toInt) c_6
        refine lv_iload_n hx hb dX10_numberAt_35 rfl (lv_at hl 1 rfl) ?_
        exact hrt l_3   hP hD hS rfl dX10_numberAt_36
      · have gc_6 : l_4.toInt < 4 := i_nle (by decide : (4 : Int32).toInt = 4) (rfl : l_4.toInt = l_4.toInt) c_6
        refine lv_iload_n hx hb dX10_numberAt_9 rfl (lv_at hl 1 rfl) ?_
        refine lv_bipush (v := 8) hx hb dX10_numberAt_10 (by decide) ?_
        refine lv_ishl hx hb dX10_numberAt_12 ?_
        refine lv_topi (fun n_7 en_7 => ?_)
        refine lv_aload_n hx hb dX10_numberAt_13 rfl (lv_at hl 2 rfl) ?_
        refine gt_MD_MD_tape hx hb hts hown hK hP lwd_155 dX10_numberAt_14 ?_
        refine lv_iconst (v := 4) hx hb dX10_numberAt_17 (by decide) ?_
        refine lv_iload_n hx hb dX10_numberAt_18 rfl (lv_at hl 3 rfl) ?_
        refine lv_imul hx hb dX10_numberAt_19 ?_
        refine lv_topi (fun n_8 en_8 => ?_)
        have tn_8 : n_8.toInt = 4 * k.toInt := i_mul en_8 (by decide : (4 : Int32).toInt = 4) (rfl : k.toInt = k.toInt) (by omega) (by omega)
        refine lv_iload_n hx hb dX10_numberAt_20 rfl (lv_at hl 0 rfl) ?_
        refine lv_iadd hx hb dX10_numberAt_21 ?_
        refine lv_topi (fun n_9 en_9 => ?_)
        have tn_9 : n_9.toInt = (4 * k.toInt) + l_4.toInt := i_add en_9 tn_8 (rfl : l_4.toInt = l_4.toInt) (by omega) (by omega)
        refine al_m_tape hx hb hK hP hr_m_tape (i_in tn_9 (by omega) (by omega)) dX10_numberAt_22 (fun n_10 en_10 bn_10 => ?_)
        refine lv_sipush (v := 255) hx hb dX10_numberAt_23 (by decide) ?_
        refine lv_iand hx hb dX10_numberAt_26 ?_
        refine lv_topi (fun n_11 en_11 => ?_)
        have bn_11 : 0 ≤ n_11.toInt ∧ n_11.toInt ≤ 255 := i_msk 8 en_11 (by decide) (by decide) (by decide)
        refine lv_ior hx hb dX10_numberAt_27 ?_
        refine lv_topi (fun n_12 en_12 => ?_)
        refine lv_istore_n (lv' := [(2, .int n_12), (3, .int l_4), (0, .ref (hm 0)), (1, .int k)]) hx hb dX10_numberAt_28 rfl hl (by decide) rfl (fun ls hl => ?_)
        obtain ⟨n_13, en_13⟩ : ∃ y : Int32, y = l_4 + 1 := ⟨_, rfl⟩
        have tn_13 : n_13.toInt = l_4.toInt + 1 := i_add en_13 (rfl : l_4.toInt = l_4.toInt) (by decide : (1 : Int32).toInt = 1) (by omega) (by omega)
        refine lv_iinc (v := n_13) (lv' := [(3, .int n_13), (2, .int n_12), (0, .ref (hm 0)), (1, .int k)]) hx hb dX10_numberAt_29 hl (k := 1) rfl (by rw [en_13]; rfl) (by decide) rfl (fun ls hl => ?_)
        refine lv_goto (tgt := 4) hx hb dX10_numberAt_32 (by decide) ?_
        exact ih4_5 n_12 n_13 (by omega) (by omega) _ _ _ hP hD hS (lv_sub hl [0, 1, 2, 3] rfl)
  have k_14 : (0 : Int32).toInt = 0 := by decide
  have k_15 : (0 : Int32).toInt = 0 := by decide
  exact L4_5 8589934592 0 0 (by omega) (by omega) _ _ _ hP hD hS (lv_sub hl [0, 1, 2, 3] rfl)
set_option maxHeartbeats 16000000 in
set_option maxRecDepth 100000 in
theorem c_X10_check (l : Launch) (D : va_G) (cy : Nat → ClassId) (hm : Nat → Nat) (v_taped v_walkers v_loads v_pieces v_changeCosts v_planned v_isMarch v_clauseMany v_place v_end v_bad v_clauses v_codes v_open v_stacked v_isOver v_isBehind v_atW v_atL v_atT v_atH v_atM v_atI v_atQ v_packing v_packed v_goPace v_goMinutes v_spentAt v_ranChanges : Int32) (f_m_tape f_m_knee f_m_weight f_m_isLame f_m_loadWeight f_m_owner f_m_food f_m_miles f_m_slope f_m_clauseLetter f_m_sumFrom f_m_codeFrom f_m_codeTo f_m_code f_m_codeArg f_m_newLetter f_m_newSum f_m_newFrom f_m_newTo f_m_newCode f_m_newArg f_m_stack f_m_worth f_m_isRefused f_m_least f_m_packPounds f_m_packOwner f_m_room f_m_givenTo f_m_canBe f_m_setPounds f_m_plainTime f_m_muleTime f_m_planTo f_m_march f_m_tired f_m_ranMinutes f_m_tiredAhead f_m_isReached f_m_toEnd f_m_upTo f_m_upNext f_m_byChanges f_m_bandPaces : Nat → Int32) (sz : Nat) (n1 : Int32) (hb_v_taped : 0 ≤ v_taped.toInt ∧ v_taped.toInt ≤ 220) (hb_v_walkers : 0 ≤ v_walkers.toInt ∧ v_walkers.toInt ≤ 6) (hb_v_loads : 0 ≤ v_loads.toInt ∧ v_loads.toInt ≤ 9) (hb_v_pieces : 0 ≤ v_pieces.toInt ∧ v_pieces.toInt ≤ 10) (hb_v_isMarch : 0 ≤ v_isMarch.toInt ∧ v_isMarch.toInt ≤ 1) (hb_v_clauseMany : 0 ≤ v_clauseMany.toInt ∧ v_clauseMany.toInt ≤ 14) (hb_v_atW : 0 ≤ v_atW.toInt ∧ v_atW.toInt ≤ 5) (hb_v_goPace : 0 ≤ v_goPace.toInt ∧ v_goPace.toInt ≤ 60) (hb_v_spentAt : -1 ≤ v_spentAt.toInt ∧ v_spentAt.toInt ≤ 9) (hr_m_tape : rg (-128) 127 f_m_tape) (hr_m_weight : rg (0) 250 f_m_weight) (hr_m_isLame : rg (0) 1 f_m_isLame) (hr_m_loadWeight : rg (0) 120 f_m_loadWeight) (hr_m_food : rg (0) 20 f_m_food) (hr_m_miles : rg (0) 20 f_m_miles) (hr_m_isRefused : rg (0) 1 f_m_isRefused) (hr_m_march : rg (0) 17 f_m_march) (hr_m_tired : rg (0) 5 f_m_tired) (hr_m_tiredAhead : rg (0) 46655 f_m_tiredAhead) (hwf : wfC v_clauseMany f_m_sumFrom f_m_codeFrom f_m_codeTo f_m_code) : gMi l yX10_check cX10_check 3 .int 9 [.ref (hm 0), .int n1] D cy (wMD cy hm v_taped v_walkers v_loads v_pieces v_changeCosts v_planned v_isMarch v_clauseMany v_place v_end v_bad v_clauses v_codes v_open v_stacked v_isOver v_isBehind v_atW v_atL v_atT v_atH v_atM v_atI v_atQ v_packing v_packed v_goPace v_goMinutes v_spentAt v_ranChanges f_m_tape f_m_knee f_m_weight f_m_isLame f_m_loadWeight f_m_owner f_m_food f_m_miles f_m_slope f_m_clauseLetter f_m_sumFrom f_m_codeFrom f_m_codeTo f_m_code f_m_codeArg f_m_newLetter f_m_newSum f_m_newFrom f_m_newTo f_m_newCode f_m_newArg f_m_stack f_m_worth f_m_isRefused f_m_least f_m_packPounds f_m_packOwner f_m_room f_m_givenTo f_m_canBe f_m_setPounds f_m_plainTime f_m_muleTime f_m_planTo f_m_march f_m_tired f_m_ranMinutes f_m_tiredAhead f_m_isReached f_m_toEnd f_m_upTo f_m_upNext f_m_byChanges f_m_bandPaces) NT sz (fun (r : Int32) (u : Int32 × Int32 × Int32 × Int32 × Int32 × Int32 × Int32 × Int32 × Int32 × Int32 × Int32 × Int32 × (Nat → Int32) × (Nat → Int32) × (Nat → Int32) × (Nat → Int32) × (Nat → Int32)) => (0 ≤ (u.1).toInt ∧ (u.1).toInt ≤ 220) ∧ (0 ≤ (u.2.1).toInt ∧ (u.2.1).toInt ≤ 5) ∧ (0 ≤ (u.2.2.2.2.2.2.2.2.1).toInt ∧ (u.2.2.2.2.2.2.2.2.1).toInt ≤ 60) ∧ (-1 ≤ (u.2.2.2.2.2.2.2.2.2.2.1).toInt ∧ (u.2.2.2.2.2.2.2.2.2.2.1).toInt ≤ 9) ∧ (rg (0) 1 (u.2.2.2.2.2.2.2.2.2.2.2.2.2.1)) ∧ (rg (0) 5 (u.2.2.2.2.2.2.2.2.2.2.2.2.2.2.1)) ∧ (rg (0) 46655 (u.2.2.2.2.2.2.2.2.2.2.2.2.2.2.2.2))) (fun u => wMD cy hm (u.1) v_walkers v_loads v_pieces v_changeCosts v_planned v_isMarch v_clauseMany v_place v_end v_bad v_clauses v_codes v_open v_stacked v_isOver v_isBehind (u.2.1) (u.2.2.1) (u.2.2.2.1) (u.2.2.2.2.1) (u.2.2.2.2.2.1) (u.2.2.2.2.2.2.1) (u.2.2.2.2.2.2.2.1) v_packing v_packed (u.2.2.2.2.2.2.2.2.1) (u.2.2.2.2.2.2.2.2.2.1) (u.2.2.2.2.2.2.2.2.2.2.1) (u.2.2.2.2.2.2.2.2.2.2.2.1) f_m_tape f_m_knee f_m_weight f_m_isLame f_m_loadWeight f_m_owner f_m_food f_m_miles f_m_slope f_m_clauseLetter f_m_sumFrom f_m_codeFrom f_m_codeTo f_m_code f_m_codeArg f_m_newLetter f_m_newSum f_m_newFrom f_m_newTo f_m_newCode f_m_newArg f_m_stack (u.2.2.2.2.2.2.2.2.2.2.2.2.1) (u.2.2.2.2.2.2.2.2.2.2.2.2.2.1) f_m_least f_m_packPounds f_m_packOwner f_m_room f_m_givenTo f_m_canBe f_m_setPounds f_m_plainTime f_m_muleTime f_m_planTo f_m_march (u.2.2.2.2.2.2.2.2.2.2.2.2.2.2.1) (u.2.2.2.2.2.2.2.2.2.2.2.2.2.2.2.1) (u.2.2.2.2.2.2.2.2.2.2.2.2.2.2.2.2) f_m_isReached f_m_toEnd f_m_upTo f_m_upNext f_m_byChanges f_m_bandPaces) := by
  refine gMi_in (by decide) (Nat.le_of_ble_eq_true rfl) ?_
  intro p e s m args below meth c A ls Q hx hb hml hts hown hsz hP hK hD hN hAe hA hS hl hret
  subst hsz
  have hl : lv_has ls 3 [(0, .ref (hm 0)), (1, .int n1)] := hl
  have hrt := fun (r : Int32) (v_taped' : Int32) (v_atW' : Int32) (v_atL' : Int32) (v_atT' : Int32) (v_atH' : Int32) (v_atM' : Int32) (v_atI' : Int32) (v_atQ' : Int32) (v_goPace' : Int32) (v_goMinutes' : Int32) (v_spentAt' : Int32) (v_ranChanges' : Int32) (f_m_worth' : Nat → Int32) (f_m_isRefused' : Nat → Int32) (f_m_tired' : Nat → Int32) (f_m_ranMinutes' : Nat → Int32) (f_m_tiredAhead' : Nat → Int32) (hp : (0 ≤ v_taped'.toInt ∧ v_taped'.toInt ≤ 220) ∧ (0 ≤ v_atW'.toInt ∧ v_atW'.toInt ≤ 5) ∧ (0 ≤ v_goPace'.toInt ∧ v_goPace'.toInt ≤ 60) ∧ (-1 ≤ v_spentAt'.toInt ∧ v_spentAt'.toInt ≤ 9) ∧ (rg (0) 1 f_m_isRefused') ∧ (rg (0) 5 f_m_tired') ∧ (rg (0) 46655 f_m_tiredAhead')) {H : Heap} {locs : List Loc} {pc : Nat} {ls : Array Slot} => hret r (v_taped', v_atW', v_atL', v_atT', v_atH', v_atM', v_atI', v_atQ', v_goPace', v_goMinutes', v_spentAt', v_ranChanges', f_m_worth', f_m_isRefused', f_m_tired', f_m_ranMinutes', f_m_tiredAhead') (H := H) (locs := locs) (pc := pc) (ls := ls) hp
  clear hret
  refine lv_aload_n hx hb dX10_check_0 rfl (lv_at hl 0 rfl) ?_
  refine gt_MD_MD_isMarch hx hb hts hown hK hP lwd_225 dX10_check_1 ?_
  refine lv_if_eq (tgt := 21) hx hb dX10_check_4 (by decide) (fun c_1 => ?_) (fun c_1 => ?_)
  · have gc_1 : v_isMarch.toInt = 0 := i_eq (rfl : v_isMarch.toInt = v_isMarch.toInt) (by decide : (0 : Int32).toInt = 0) c_1
    refine lv_bipush (v := (-2)) hx hb dX10_check_21 (by decide) ?_
    have k_2 : ((-2) : Int32).toInt = (-2) := by decide
    exact hrt (-2) v_taped v_atW v_atL v_atT v_atH v_atM v_atI v_atQ v_goPace v_goMinutes v_spentAt v_ranChanges f_m_worth f_m_isRefused f_m_tired f_m_ranMinutes f_m_tiredAhead ⟨(by omega), (by omega), (by omega), (by omega), hr_m_isRefused, hr_m_tired, hr_m_tiredAhead⟩ hP hD hS rfl dX10_check_23
  · have gc_1 : v_isMarch.toInt ≠ 0 := i_ne (rfl : v_isMarch.toInt = v_isMarch.toInt) (by decide : (0 : Int32).toInt = 0) c_1
    refine lv_iload_n hx hb dX10_check_7 rfl (lv_at hl 1 rfl) ?_
    refine lv_if_lt (tgt := 21) hx hb dX10_check_8 (by decide) (fun c_3 => ?_) (fun c_3 => ?_)
    · have gc_3 : n1.toInt < 0 := i_lt (rfl : n1.toInt = n1.toInt) (by decide : (0 : Int32).toInt = 0) c_3
      refine lv_bipush (v := (-2)) hx hb dX10_check_21 (by decide) ?_
      have k_4 : ((-2) : Int32).toInt = (-2) := by decide
      exact hrt (-2) v_taped v_atW v_atL v_atT v_atH v_atM v_atI v_atQ v_goPace v_goMinutes v_spentAt v_ranChanges f_m_worth f_m_isRefused f_m_tired f_m_ranMinutes f_m_tiredAhead ⟨(by omega), (by omega), (by omega), (by omega), hr_m_isRefused, hr_m_tired, hr_m_tiredAhead⟩ hP hD hS rfl dX10_check_23
    · have gc_3 : 0 ≤ n1.toInt := i_nlt (rfl : n1.toInt = n1.toInt) (by decide : (0 : Int32).toInt = 0) c_3
      refine lv_iload_n hx hb dX10_check_11 rfl (lv_at hl 1 rfl) ?_
      refine lv_aload_n hx hb dX10_check_12 rfl (lv_at hl 0 rfl) ?_
      refine gt_MD_MD_taped hx hb hts hown hK hP lwd_298 dX10_check_13 ?_
      refine lv_iconst (v := 4) hx hb dX10_check_16 (by decide) ?_
      refine lv_idiv hx hb dX10_check_17 (by decide) ?_
      refine lv_topi (fun n_5 en_5 => ?_)
      have tn_5 : n_5.toInt = v_taped.toInt / 4 := i_div en_5 (rfl : v_taped.toInt = v_taped.toInt) (by decide : (4 : Int32).toInt = 4) (by omega) (by omega)
      refine lv_icmp_le (tgt := 24) hx hb dX10_check_18 (by decide) (fun c_6 => ?_) (fun c_6 => ?_)
      · have gc_6 : n1.toInt ≤ v_taped.toInt / 4 := i_le (rfl : n1.toInt = n1.toInt) tn_5 c_6
        refine lv_aload_n hx hb dX10_check_24 rfl (lv_at hl 0 rfl) ?_
        refine lv_iconst (v := 0) hx hb dX10_check_25 (by decide) ?_
        refine pt_MD_MD_taped (x := 0) hx hb hts hown hK hP hD hS lwd_298 dX10_check_26 (fun H locs hP hD hS => ?_)
        refine lv_aload_n hx hb dX10_check_29 rfl (lv_at hl 0 rfl) ?_
        refine xv hD hS hA (xV (As := []) (rest := []) hx hb hml hown hts hK hP hD hS hA NT_ok hN hAe hl.1 ⟨Nat.le_refl _, Nat.le_refl _⟩ 0 rfl rfl rfl (c_X10_runs l D cy hm 0 v_walkers v_loads v_pieces v_changeCosts v_planned v_isMarch v_clauseMany v_place v_end v_bad v_clauses v_codes v_open v_stacked v_isOver v_isBehind v_atW v_atL v_atT v_atH v_atM v_atI v_atQ v_packing v_packed v_goPace v_goMinutes v_spentAt v_ranChanges f_m_tape f_m_knee f_m_weight f_m_isLame f_m_loadWeight f_m_owner f_m_food f_m_miles f_m_slope f_m_clauseLetter f_m_sumFrom f_m_codeFrom f_m_codeTo f_m_code f_m_codeArg f_m_newLetter f_m_newSum f_m_newFrom f_m_newTo f_m_newCode f_m_newArg f_m_stack f_m_worth f_m_isRefused f_m_least f_m_packPounds f_m_packOwner f_m_room f_m_givenTo f_m_canBe f_m_setPounds f_m_plainTime f_m_muleTime f_m_planTo f_m_march f_m_tired f_m_ranMinutes f_m_tiredAhead f_m_isReached f_m_toEnd f_m_upTo f_m_upNext f_m_byChanges f_m_bandPaces H.size (by omega) (by omega) (by omega) (by omega) (by omega) (by omega) (by omega) hr_m_weight hr_m_isLame hr_m_loadWeight hr_m_food hr_m_miles hr_m_isRefused hr_m_march hr_m_tired hr_m_tiredAhead hwf) (gi_V lwd_986 lwd_987 lwd_988 lwd_5 lwd_989) ⟨rfl, hd_X10_runs⟩ ⟨Nat.le_of_ble_eq_true rfl, Nat.le_of_ble_eq_true rfl⟩ rfl (Nat.le_of_ble_eq_true rfl) dX10_check_30) (fun u_7 H locs hw hP hD hS => ?_)
        obtain ⟨zatW_9, zatL_10, zatT_11, zatH_12, zatM_13, zatI_14, zatQ_15, zgoPace_16, zgoMinutes_17, zspentAt_18, zranChanges_19, zworth_20, zisRefused_21, ztired_22, zranMinutes_23, ztiredAhead_24⟩ := u_7
        try dsimp only at hw hP hD
        obtain ⟨p_25, p_26, p_27, p_28, p_29, p_30⟩ := hw
        refine lv_iconst (v := 0) hx hb dX10_check_33 (by decide) ?_
        refine lv_istore_n (lv' := [(2, .int 0), (0, .ref (hm 0)), (1, .int n1)]) hx hb dX10_check_34 rfl hl (by decide) rfl (fun ls hl => ?_)
        have L35_33 : ∀ (n : Nat) (l_32 : Int32), (0 ≤ l_32.toInt ∧ l_32.toInt ≤ 10) → 11 - l_32.toInt < n → ∀ (H : Heap) (locs : List Loc) (ls : Array Slot), va_P D vwCl (wMD cy hm 0 v_walkers v_loads v_pieces v_changeCosts v_planned v_isMarch v_clauseMany v_place v_end v_bad v_clauses v_codes v_open v_stacked v_isOver v_isBehind zatW_9 zatL_10 zatT_11 zatH_12 zatM_13 zatI_14 zatQ_15 v_packing v_packed zgoPace_16 zgoMinutes_17 zspentAt_18 zranChanges_19 f_m_tape f_m_knee f_m_weight f_m_isLame f_m_loadWeight f_m_owner f_m_food f_m_miles f_m_slope f_m_clauseLetter f_m_sumFrom f_m_codeFrom f_m_codeTo f_m_code f_m_codeArg f_m_newLetter f_m_newSum f_m_newFrom f_m_newTo f_m_newCode f_m_newArg f_m_stack zworth_20 zisRefused_21 f_m_least f_m_packPounds f_m_packOwner f_m_room f_m_givenTo f_m_canBe f_m_setPounds f_m_plainTime f_m_muleTime f_m_planTo f_m_march ztired_22 zranMinutes_23 ztiredAhead_24 f_m_isReached f_m_toEnd f_m_upTo f_m_upNext f_m_byChanges f_m_bandPaces) H → va_D A (wMD cy hm 0 v_walkers v_loads v_pieces v_changeCosts v_planned v_isMarch v_clauseMany v_place v_end v_bad v_clauses v_codes v_open v_stacked v_isOver v_isBehind zatW_9 zatL_10 zatT_11 zatH_12 zatM_13 zatI_14 zatQ_15 v_packing v_packed zgoPace_16 zgoMinutes_17 zspentAt_18 zranChanges_19 f_m_tape f_m_knee f_m_weight f_m_isLame f_m_loadWeight f_m_owner f_m_food f_m_miles f_m_slope f_m_clauseLetter f_m_sumFrom f_m_codeFrom f_m_codeTo f_m_code f_m_codeArg f_m_newLetter f_m_newSum f_m_newFrom f_m_newTo f_m_newCode f_m_newArg f_m_stack zworth_20 zisRefused_21 f_m_least f_m_packPounds f_m_packOwner f_m_room f_m_givenTo f_m_canBe f_m_setPounds f_m_plainTime f_m_muleTime f_m_planTo f_m_march ztired_22 zranMinutes_23 ztiredAhead_24 f_m_isReached f_m_toEnd f_m_upTo f_m_upNext f_m_byChanges f_m_bandPaces) → va_S A s.heap H locs → lv_has ls 3 [(2, .int l_32), (0, .ref (hm 0)), (1, .int n1)] → W p l e (gRm 9) s m args below meth c H locs 0 0 Q (F0 m 35 ls []) := by
          intro n
          induction n with
          | zero => intro l_32 hL35_33_0 hm; exact absurd hm (by omega)
          | succ n ih35_33 =>
            intro l_32 hL35_33_0 hmL35_33 H locs ls hP hD hS hl
            refine lv_iload_n hx hb dX10_check_35 rfl (lv_at hl 0 rfl) ?_
            refine lv_aload_n hx hb dX10_check_36 rfl (lv_at hl 1 rfl) ?_
            refine xi hD hS hA (xV (As := []) (rest := [.int l_32]) hx hb hml hown hts hK hP hD hS hA NT_ok hN hAe hl.1 ⟨Nat.le_refl _, Nat.le_refl _⟩ 0 rfl rfl rfl (c_X10_gone l D cy hm 0 v_walkers v_loads v_pieces v_changeCosts v_planned v_isMarch v_clauseMany v_place v_end v_bad v_clauses v_codes v_open v_stacked v_isOver v_isBehind zatW_9 zatL_10 zatT_11 zatH_12 zatM_13 zatI_14 zatQ_15 v_packing v_packed zgoPace_16 zgoMinutes_17 zspentAt_18 zranChanges_19 f_m_tape f_m_knee f_m_weight f_m_isLame f_m_loadWeight f_m_owner f_m_food f_m_miles f_m_slope f_m_clauseLetter f_m_sumFrom f_m_codeFrom f_m_codeTo f_m_code f_m_codeArg f_m_newLetter f_m_newSum f_m_newFrom f_m_newTo f_m_newCode f_m_newArg f_m_stack zworth_20 zisRefused_21 f_m_least f_m_packPounds f_m_packOwner f_m_room f_m_givenTo f_m_canBe f_m_setPounds f_m_plainTime f_m_muleTime f_m_planTo f_m_march ztired_22 zranMinutes_23 ztiredAhead_24 f_m_isReached f_m_toEnd f_m_upTo f_m_upNext f_m_byChanges f_m_bandPaces H.size (by omega) (by omega)) (gi_V lwd_1020 lwd_1021 lwd_1022 lwd_5 lwd_1023) ⟨rfl, hd_X10_gone⟩ ⟨Nat.le_of_ble_eq_true rfl, Nat.le_of_ble_eq_true rfl⟩ rfl (Nat.le_of_ble_eq_true rfl) dX10_check_37) (fun r_35 u_34 H locs hw hP hD hS => ?_)
            try dsimp only at hw hP hD
            have p_36 := hw
            clear hw
            refine lv_icmp_ge (tgt := 72) hx hb dX10_check_40 (by decide) (fun c_37 => ?_) (fun c_37 => ?_)
            · have gc_37 : r_35.toInt ≤ l_32.toInt := i_le (rfl : r_35.toInt = r_35.toInt) (rfl : l_32.toInt = l_32.toInt) c_37
              refine lv_iload_n hx hb dX10_check_72 rfl (lv_at hl 2 rfl) ?_
              refine lv_aload_n hx hb dX10_check_73 rfl (lv_at hl 1 rfl) ?_
              refine xi hD hS hA (xV (As := []) (rest := [.int n1]) hx hb hml hown hts hK hP hD hS hA NT_ok hN hAe hl.1 ⟨Nat.le_refl _, Nat.le_refl _⟩ 0 rfl rfl rfl (c_X10_gone l D cy hm 0 v_walkers v_loads v_pieces v_changeCosts v_planned v_isMarch v_clauseMany v_place v_end v_bad v_clauses v_codes v_open v_stacked v_isOver v_isBehind zatW_9 zatL_10 zatT_11 zatH_12 zatM_13 zatI_14 zatQ_15 v_packing v_packed zgoPace_16 zgoMinutes_17 zspentAt_18 zranChanges_19 f_m_tape f_m_knee f_m_weight f_m_isLame f_m_loadWeight f_m_owner f_m_food f_m_miles f_m_slope f_m_clauseLetter f_m_sumFrom f_m_codeFrom f_m_codeTo f_m_code f_m_codeArg f_m_newLetter f_m_newSum f_m_newFrom f_m_newTo f_m_newCode f_m_newArg f_m_stack zworth_20 zisRefused_21 f_m_least f_m_packPounds f_m_packOwner f_m_room f_m_givenTo f_m_canBe f_m_setPounds f_m_plainTime f_m_muleTime f_m_planTo f_m_march ztired_22 zranMinutes_23 ztiredAhead_24 f_m_isReached f_m_toEnd f_m_upTo f_m_upNext f_m_byChanges f_m_bandPaces H.size (by omega) (by omega)) (gi_V lwd_1020 lwd_1021 lwd_1022 lwd_5 lwd_1023) ⟨rfl, hd_X10_gone⟩ ⟨Nat.le_of_ble_eq_true rfl, Nat.le_of_ble_eq_true rfl⟩ rfl (Nat.le_of_ble_eq_true rfl) dX10_check_74) (fun r_39 u_38 H locs hw hP hD hS => ?_)
              try dsimp only at hw hP hD
              have p_40 := hw
              clear hw
              refine lv_icmp_ne (tgt := 84) hx hb dX10_check_77 (by decide) (fun c_41 => ?_) (fun c_41 => ?_)
              · have gc_41 : n1.toInt ≠ r_39.toInt := i_ne (rfl : n1.toInt = n1.toInt) (rfl : r_39.toInt = r_39.toInt) c_41
                refine lv_aload_n hx hb dX10_check_84 rfl (lv_at hl 1 rfl) ?_
                refine xi hD hS hA (xV (As := []) (rest := []) hx hb hml hown hts hK hP hD hS hA NT_ok hN hAe hl.1 ⟨Nat.le_refl _, Nat.le_refl _⟩ 0 rfl rfl rfl (c_X10_gone l D cy hm 0 v_walkers v_loads v_pieces v_changeCosts v_planned v_isMarch v_clauseMany v_place v_end v_bad v_clauses v_codes v_open v_stacked v_isOver v_isBehind zatW_9 zatL_10 zatT_11 zatH_12 zatM_13 zatI_14 zatQ_15 v_packing v_packed zgoPace_16 zgoMinutes_17 zspentAt_18 zranChanges_19 f_m_tape f_m_knee f_m_weight f_m_isLame f_m_loadWeight f_m_owner f_m_food f_m_miles f_m_slope f_m_clauseLetter f_m_sumFrom f_m_codeFrom f_m_codeTo f_m_code f_m_codeArg f_m_newLetter f_m_newSum f_m_newFrom f_m_newTo f_m_newCode f_m_newArg f_m_stack zworth_20 zisRefused_21 f_m_least f_m_packPounds f_m_packOwner f_m_room f_m_givenTo f_m_canBe f_m_setPounds f_m_plainTime f_m_muleTime f_m_planTo f_m_march ztired_22 zranMinutes_23 ztiredAhead_24 f_m_isReached f_m_toEnd f_m_upTo f_m_upNext f_m_byChanges f_m_bandPaces H.size (by omega) (by omega)) (gi_V lwd_1020 lwd_1021 lwd_1022 lwd_5 lwd_1023) ⟨rfl, hd_X10_gone⟩ ⟨Nat.le_of_ble_eq_true rfl, Nat.le_of_ble_eq_true rfl⟩ rfl (Nat.le_of_ble_eq_true rfl) dX10_check_85) (fun r_43 u_42 H locs hw hP hD hS => ?_)
                try dsimp only at hw hP hD
                have p_44 := hw
                clear hw
                have k_45 : (0 : Int32).toInt = 0 := by decide
                exact hrt r_43 0 zatW_9 zatL_10 zatT_11 zatH_12 zatM_13 zatI_14 zatQ_15 zgoPace_16 zgoMinutes_17 zspentAt_18 zranChanges_19 zworth_20 zisRefused_21 ztired_22 zranMinutes_23 ztiredAhead_24 ⟨(by omega), (by omega), (by omega), (by omega), p_28, p_29, p_30⟩ hP hD hS rfl dX10_check_88
              · have gc_41 : n1.toInt = r_39.toInt := i_eq (rfl : n1.toInt = n1.toInt) (rfl : r_39.toInt = r_39.toInt) c_41
                refine lv_iconst (v := (-1)) hx hb dX10_check_80 (by decide) ?_
                refine lv_goto (tgt := 88) hx hb dX10_check_81 (by decide) ?_
                have k_46 : (0 : Int32).toInt = 0 := by decide
                have k_47 : ((-1) : Int32).toInt = (-1) := by decide
                exact hrt (-1) 0 zatW_9 zatL_10 zatT_11 zatH_12 zatM_13 zatI_14 zatQ_15 zgoPace_16 zgoMinutes_17 zspentAt_18 zranChanges_19 zworth_20 zisRefused_21 ztired_22 zranMinutes_23 ztiredAhead_24 ⟨(by omega), (by omega), (by omega), (by omega), p_28, p_29, p_30⟩ hP hD hS rfl dX10_check_88
            · have gc_37 : l_32.toInt < r_35.toInt := i_nle (rfl : r_35.toInt = r_35.toInt) (rfl : l_32.toInt = l_32.toInt) c_37
              refine lv_iload_n hx hb dX10_check_43 rfl (lv_at hl 0 rfl) ?_
              refine lv_iload_n hx hb dX10_check_44 rfl (lv_at hl 2 rfl) ?_
              refine lv_icmp_ne (tgt := 50) hx hb dX10_check_45 (by decide) (fun c_48 => ?_) (fun c_48 => ?_)
              · have gc_48 : l_32.toInt ≠ n1.toInt := i_ne (rfl : l_32.toInt = l_32.toInt) (rfl : n1.toInt = n1.toInt) c_48
                refine lv_aload_n hx hb dX10_check_50 rfl (lv_at hl 1 rfl) ?_
                refine lv_iload_n hx hb dX10_check_51 rfl (lv_at hl 0 rfl) ?_
                refine xi hD hS hA (xV (As := [.int l_32]) (rest := []) hx hb hml hown hts hK hP hD hS hA NT_ok hN hAe hl.1 ⟨Nat.le_refl _, Nat.le_refl _⟩ 0 rfl rfl rfl (c_X10_numberAt l D cy hm 0 v_walkers v_loads v_pieces v_changeCosts v_planned v_isMarch v_clauseMany v_place v_end v_bad v_clauses v_codes v_open v_stacked v_isOver v_isBehind zatW_9 zatL_10 zatT_11 zatH_12 zatM_13 zatI_14 zatQ_15 v_packing v_packed zgoPace_16 zgoMinutes_17 zspentAt_18 zranChanges_19 f_m_tape f_m_knee f_m_weight f_m_isLame f_m_loadWeight f_m_owner f_m_food f_m_miles f_m_slope f_m_clauseLetter f_m_sumFrom f_m_codeFrom f_m_codeTo f_m_code f_m_codeArg f_m_newLetter f_m_newSum f_m_newFrom f_m_newTo f_m_newCode f_m_newArg f_m_stack zworth_20 zisRefused_21 f_m_least f_m_packPounds f_m_packOwner f_m_room f_m_givenTo f_m_canBe f_m_setPounds f_m_plainTime f_m_muleTime f_m_planTo f_m_march ztired_22 zranMinutes_23 ztiredAhead_24 f_m_isReached f_m_toEnd f_m_upTo f_m_upNext f_m_byChanges f_m_bandPaces H.size l_32 hr_m_tape (by omega)) (gi_V lwd_1236 lwd_1237 lwd_1238 lwd_5 lwd_1239) ⟨rfl, hd_X10_numberAt⟩ ⟨Nat.le_of_ble_eq_true rfl, Nat.le_of_ble_eq_true rfl⟩ rfl (Nat.le_of_ble_eq_true rfl) dX10_check_52) (fun r_50 u_49 H locs hw hP hD hS => ?_)
                try dsimp only at hw hP hD
                clear hw
                refine lv_aload_n hx hb dX10_check_55 rfl (lv_at hl 1 rfl) ?_
                refine gt_MD_MD_ranMinutes hx hb hts hown hK hP lwd_192 dX10_check_56 ?_
                refine lv_iload_n hx hb dX10_check_59 rfl (lv_at hl 0 rfl) ?_
                refine al_m_ranMinutes hx hb hK hP (i_in (rfl : l_32.toInt = l_32.toInt) (by omega) (by omega)) dX10_check_60 (fun n_51 en_51 => ?_)
                refine lv_icmp_eq (tgt := 66) hx hb dX10_check_61 (by decide) (fun c_52 => ?_) (fun c_52 => ?_)
                · have gc_52 : r_50.toInt = n_51.toInt := i_eq (rfl : r_50.toInt = r_50.toInt) (rfl : n_51.toInt = n_51.toInt) c_52
                  obtain ⟨n_53, en_53⟩ : ∃ y : Int32, y = l_32 + 1 := ⟨_, rfl⟩
                  have tn_53 : n_53.toInt = l_32.toInt + 1 := i_add en_53 (rfl : l_32.toInt = l_32.toInt) (by decide : (1 : Int32).toInt = 1) (by omega) (by omega)
                  refine lv_iinc (v := n_53) (lv' := [(2, .int n_53), (0, .ref (hm 0)), (1, .int n1)]) hx hb dX10_check_66 hl (k := 0) rfl (by rw [en_53]; rfl) (by decide) rfl (fun ls hl => ?_)
                  refine lv_goto (tgt := 35) hx hb dX10_check_69 (by decide) ?_
                  exact ih35_33 n_53 (by omega) (by omega) _ _ _ hP hD hS (lv_sub hl [0, 1, 2] rfl)
                · have gc_52 : r_50.toInt ≠ n_51.toInt := i_ne (rfl : r_50.toInt = r_50.toInt) (rfl : n_51.toInt = n_51.toInt) c_52
                  refine lv_iload_n hx hb dX10_check_64 rfl (lv_at hl 0 rfl) ?_
                  have k_54 : (0 : Int32).toInt = 0 := by decide
                  exact hrt l_32 0 zatW_9 zatL_10 zatT_11 zatH_12 zatM_13 zatI_14 zatQ_15 zgoPace_16 zgoMinutes_17 zspentAt_18 zranChanges_19 zworth_20 zisRefused_21 ztired_22 zranMinutes_23 ztiredAhead_24 ⟨(by omega), (by omega), (by omega), (by omega), p_28, p_29, p_30⟩ hP hD hS rfl dX10_check_65
              · have gc_48 : l_32.toInt = n1.toInt := i_eq (rfl : l_32.toInt = l_32.toInt) (rfl : n1.toInt = n1.toInt) c_48
                refine lv_iload_n hx hb dX10_check_48 rfl (lv_at hl 2 rfl) ?_
                have k_55 : (0 : Int32).toInt = 0 := by decide
                exact hrt n1 0 zatW_9 zatL_10 zatT_11 zatH_12 zatM_13 zatI_14 zatQ_15 zgoPace_16 zgoMinutes_17 zspentAt_18 zranChanges_19 zworth_20 zisRefused_21 ztired_22 zranMinutes_23 ztiredAhead_24 ⟨(by omega), (by omega), (by omega), (by omega), p_28, p_29, p_30⟩ hP hD hS rfl dX10_check_49
        have k_56 : (0 : Int32).toInt = 0 := by decide
        exact L35_33 8589934592 0 (by omega) (by omega) _ _ _ hP hD hS (lv_sub hl [0, 1, 2] rfl)
      · have gc_6 : v_taped.toInt / 4 < n1.toInt := i_nle (rfl : n1.toInt = n1.toInt) tn_5 c_6
        refine lv_bipush (v := (-2)) hx hb dX10_check_21 (by decide) ?_
        have k_57 : ((-2) : Int32).toInt = (-2) := by decide
        exact hrt (-2) v_taped v_atW v_atL v_atT v_atH v_atM v_atI v_atQ v_goPace v_goMinutes v_spentAt v_ranChanges f_m_worth f_m_isRefused f_m_tired f_m_ranMinutes f_m_tiredAhead ⟨(by omega), (by omega), (by omega), (by omega), hr_m_isRefused, hr_m_tired, hr_m_tiredAhead⟩ hP hD hS rfl dX10_check_23
set_option maxHeartbeats 16000000 in
set_option maxRecDepth 100000 in
theorem c_X10_count (l : Launch) (D : va_G) (cy : Nat → ClassId) (hm : Nat → Nat) (v_taped v_walkers v_loads v_pieces v_changeCosts v_planned v_isMarch v_clauseMany v_place v_end v_bad v_clauses v_codes v_open v_stacked v_isOver v_isBehind v_atW v_atL v_atT v_atH v_atM v_atI v_atQ v_packing v_packed v_goPace v_goMinutes v_spentAt v_ranChanges : Int32) (f_m_tape f_m_knee f_m_weight f_m_isLame f_m_loadWeight f_m_owner f_m_food f_m_miles f_m_slope f_m_clauseLetter f_m_sumFrom f_m_codeFrom f_m_codeTo f_m_code f_m_codeArg f_m_newLetter f_m_newSum f_m_newFrom f_m_newTo f_m_newCode f_m_newArg f_m_stack f_m_worth f_m_isRefused f_m_least f_m_packPounds f_m_packOwner f_m_room f_m_givenTo f_m_canBe f_m_setPounds f_m_plainTime f_m_muleTime f_m_planTo f_m_march f_m_tired f_m_ranMinutes f_m_tiredAhead f_m_isReached f_m_toEnd f_m_upTo f_m_upNext f_m_byChanges f_m_bandPaces : Nat → Int32) (sz : Nat) (what : Int32) (hb_v_taped : 0 ≤ v_taped.toInt ∧ v_taped.toInt ≤ 220) (hb_v_walkers : 0 ≤ v_walkers.toInt ∧ v_walkers.toInt ≤ 6) (hb_v_loads : 0 ≤ v_loads.toInt ∧ v_loads.toInt ≤ 9) (hb_v_pieces : 0 ≤ v_pieces.toInt ∧ v_pieces.toInt ≤ 10) (hb_v_isMarch : 0 ≤ v_isMarch.toInt ∧ v_isMarch.toInt ≤ 1) (hb_v_clauseMany : 0 ≤ v_clauseMany.toInt ∧ v_clauseMany.toInt ≤ 14) (hr_m_loadWeight : rg (0) 120 f_m_loadWeight) (hr_m_food : rg (0) 20 f_m_food) : gMi l yX10_count cX10_count 2 .int 3 [.ref (hm 0), .int what] D cy (wMD cy hm v_taped v_walkers v_loads v_pieces v_changeCosts v_planned v_isMarch v_clauseMany v_place v_end v_bad v_clauses v_codes v_open v_stacked v_isOver v_isBehind v_atW v_atL v_atT v_atH v_atM v_atI v_atQ v_packing v_packed v_goPace v_goMinutes v_spentAt v_ranChanges f_m_tape f_m_knee f_m_weight f_m_isLame f_m_loadWeight f_m_owner f_m_food f_m_miles f_m_slope f_m_clauseLetter f_m_sumFrom f_m_codeFrom f_m_codeTo f_m_code f_m_codeArg f_m_newLetter f_m_newSum f_m_newFrom f_m_newTo f_m_newCode f_m_newArg f_m_stack f_m_worth f_m_isRefused f_m_least f_m_packPounds f_m_packOwner f_m_room f_m_givenTo f_m_canBe f_m_setPounds f_m_plainTime f_m_muleTime f_m_planTo f_m_march f_m_tired f_m_ranMinutes f_m_tiredAhead f_m_isReached f_m_toEnd f_m_upTo f_m_upNext f_m_byChanges f_m_bandPaces) NT sz (fun (r : Int32) (u : Unit) => True) (fun u => wMD cy hm v_taped v_walkers v_loads v_pieces v_changeCosts v_planned v_isMarch v_clauseMany v_place v_end v_bad v_clauses v_codes v_open v_stacked v_isOver v_isBehind v_atW v_atL v_atT v_atH v_atM v_atI v_atQ v_packing v_packed v_goPace v_goMinutes v_spentAt v_ranChanges f_m_tape f_m_knee f_m_weight f_m_isLame f_m_loadWeight f_m_owner f_m_food f_m_miles f_m_slope f_m_clauseLetter f_m_sumFrom f_m_codeFrom f_m_codeTo f_m_code f_m_codeArg f_m_newLetter f_m_newSum f_m_newFrom f_m_newTo f_m_newCode f_m_newArg f_m_stack f_m_worth f_m_isRefused f_m_least f_m_packPounds f_m_packOwner f_m_room f_m_givenTo f_m_canBe f_m_setPounds f_m_plainTime f_m_muleTime f_m_planTo f_m_march f_m_tired f_m_ranMinutes f_m_tiredAhead f_m_isReached f_m_toEnd f_m_upTo f_m_upNext f_m_byChanges f_m_bandPaces) := by
  refine gMi_in (by decide) (Nat.le_of_ble_eq_true rfl) ?_
  intro p e s m args below meth c A ls Q hx hb hml hts hown hsz hP hK hD hN hAe hA hS hl hret
  subst hsz
  have hl : lv_has ls 2 [(0, .ref (hm 0)), (1, .int what)] := hl
  have hrt := fun (r : Int32)   {H : Heap} {locs : List Loc} {pc : Nat} {ls : Array Slot} => hret r () (H := H) (locs := locs) (pc := pc) (ls := ls) trivial
  clear hret
  refine lv_aload_n hx hb dX10_count_0 rfl (lv_at hl 0 rfl) ?_
  refine lv_iload_n hx hb dX10_count_1 rfl (lv_at hl 1 rfl) ?_
  refine lv_bipush (v := 10) hx hb dX10_count_2 (by decide) ?_
  refine lv_isub hx hb dX10_count_4 ?_
  refine lv_topi (fun n_1 en_1 => ?_)
  refine xi hD hS hA (xV (As := [.int n_1]) (rest := []) hx hb hml hown hts hK hP hD hS hA NT_ok hN hAe hl.1 ⟨Nat.le_refl _, Nat.le_refl _⟩ 0 rfl rfl rfl (c_X10_isPiece l D cy hm v_taped v_walkers v_loads v_pieces v_changeCosts v_planned v_isMarch v_clauseMany v_place v_end v_bad v_clauses v_codes v_open v_stacked v_isOver v_isBehind v_atW v_atL v_atT v_atH v_atM v_atI v_atQ v_packing v_packed v_goPace v_goMinutes v_spentAt v_ranChanges f_m_tape f_m_knee f_m_weight f_m_isLame f_m_loadWeight f_m_owner f_m_food f_m_miles f_m_slope f_m_clauseLetter f_m_sumFrom f_m_codeFrom f_m_codeTo f_m_code f_m_codeArg f_m_newLetter f_m_newSum f_m_newFrom f_m_newTo f_m_newCode f_m_newArg f_m_stack f_m_worth f_m_isRefused f_m_least f_m_packPounds f_m_packOwner f_m_room f_m_givenTo f_m_canBe f_m_setPounds f_m_plainTime f_m_muleTime f_m_planTo f_m_march f_m_tired f_m_ranMinutes f_m_tiredAhead f_m_isReached f_m_toEnd f_m_upTo f_m_upNext f_m_byChanges f_m_bandPaces s.heap.size n_1 (by omega)) (gi_V lwd_549 lwd_550 lwd_551 lwd_5 lwd_552) ⟨rfl, hd_X10_isPiece⟩ ⟨Nat.le_of_ble_eq_true rfl, Nat.le_of_ble_eq_true rfl⟩ rfl (Nat.le_of_ble_eq_true rfl) dX10_count_5) (fun r_3 u_2 H locs hw hP hD hS => ?_)
  try dsimp only at hw hP hD
  obtain ⟨p_4, p_5⟩ := hw
  refine lv_if_eq (tgt := 20) hx hb dX10_count_8 (by decide) (fun c_6 => ?_) (fun c_6 => ?_)
  · have gc_6 : r_3.toInt = 0 := i_eq (rfl : r_3.toInt = r_3.toInt) (by decide : (0 : Int32).toInt = 0) c_6
    refine lv_iload_n hx hb dX10_count_20 rfl (lv_at hl 1 rfl) ?_
    rcases (show what.toInt < 0 ∨ 7 < what.toInt ∨ what.toInt = 0 ∨ what.toInt = 1 ∨ what.toInt = 2 ∨ what.toInt = 3 ∨ what.toInt = 4 ∨ what.toInt = 5 ∨ what.toInt = 6 ∨ what.toInt = 7 by omega) with c_7 | c_7 | c_7 | c_7 | c_7 | c_7 | c_7 | c_7 | c_7 | c_7
    · refine lv_tableOut (tgt := 116) hx hb dX10_count_21 (Or.inl c_7) (by decide) ?_
      refine lv_iconst (v := (-1)) hx hb dX10_count_116 (by decide) ?_
      have k_8 : ((-1) : Int32).toInt = (-1) := by decide
      exact hrt (-1)   hP hD hS rfl dX10_count_117
    · refine lv_tableOut (tgt := 116) hx hb dX10_count_21 (Or.inr c_7) (by decide) ?_
      refine lv_iconst (v := (-1)) hx hb dX10_count_116 (by decide) ?_
      have k_9 : ((-1) : Int32).toInt = (-1) := by decide
      exact hrt (-1)   hP hD hS rfl dX10_count_117
    · refine lv_tableIn (tgt := 68) (off := 47) hx hb dX10_count_21 (by omega) (by omega) (by rw [c_7]; rfl) (by decide) ?_
      refine lv_aload_n hx hb dX10_count_68 rfl (lv_at hl 0 rfl) ?_
      refine gt_MD_MD_walkers hx hb hts hown hK hP lwd_221 dX10_count_69 ?_
      exact hrt v_walkers   hP hD hS rfl dX10_count_72
    · refine lv_tableIn (tgt := 73) (off := 52) hx hb dX10_count_21 (by omega) (by omega) (by rw [c_7]; rfl) (by decide) ?_
      refine lv_aload_n hx hb dX10_count_73 rfl (lv_at hl 0 rfl) ?_
      refine gt_MD_MD_loads hx hb hts hown hK hP lwd_247 dX10_count_74 ?_
      exact hrt v_loads   hP hD hS rfl dX10_count_77
    · refine lv_tableIn (tgt := 78) (off := 57) hx hb dX10_count_21 (by omega) (by omega) (by rw [c_7]; rfl) (by decide) ?_
      refine lv_aload_n hx hb dX10_count_78 rfl (lv_at hl 0 rfl) ?_
      refine gt_MD_MD_pieces hx hb hts hown hK hP lwd_265 dX10_count_79 ?_
      exact hrt v_pieces   hP hD hS rfl dX10_count_82
    · refine lv_tableIn (tgt := 83) (off := 62) hx hb dX10_count_21 (by omega) (by omega) (by rw [c_7]; rfl) (by decide) ?_
      refine lv_aload_n hx hb dX10_count_83 rfl (lv_at hl 0 rfl) ?_
      refine gt_MD_MD_clauseMany hx hb hts hown hK hP lwd_405 dX10_count_84 ?_
      exact hrt v_clauseMany   hP hD hS rfl dX10_count_87
    · refine lv_tableIn (tgt := 88) (off := 67) hx hb dX10_count_21 (by omega) (by omega) (by rw [c_7]; rfl) (by decide) ?_
      refine lv_aload_n hx hb dX10_count_88 rfl (lv_at hl 0 rfl) ?_
      refine gt_MD_MD_taped hx hb hts hown hK hP lwd_298 dX10_count_89 ?_
      exact hrt v_taped   hP hD hS rfl dX10_count_92
    · refine lv_tableIn (tgt := 93) (off := 72) hx hb dX10_count_21 (by omega) (by omega) (by rw [c_7]; rfl) (by decide) ?_
      refine lv_aload_n hx hb dX10_count_93 rfl (lv_at hl 0 rfl) ?_
      refine gt_MD_MD_changeCosts hx hb hts hown hK hP lwd_156 dX10_count_94 ?_
      exact hrt v_changeCosts   hP hD hS rfl dX10_count_97
    · refine lv_tableIn (tgt := 98) (off := 77) hx hb dX10_count_21 (by omega) (by omega) (by rw [c_7]; rfl) (by decide) ?_
      refine lv_aload_n hx hb dX10_count_98 rfl (lv_at hl 0 rfl) ?_
      refine gt_MD_MD_planned hx hb hts hown hK hP lwd_249 dX10_count_99 ?_
      exact hrt v_planned   hP hD hS rfl dX10_count_102
    · refine lv_tableIn (tgt := 103) (off := 82) hx hb dX10_count_21 (by omega) (by omega) (by rw [c_7]; rfl) (by decide) ?_
      refine lv_aload_n hx hb dX10_count_103 rfl (lv_at hl 0 rfl) ?_
      refine gt_MD_MD_isMarch hx hb hts hown hK hP lwd_225 dX10_count_104 ?_
      refine lv_if_eq (tgt := 114) hx hb dX10_count_107 (by decide) (fun c_10 => ?_) (fun c_10 => ?_)
      · have gc_10 : v_isMarch.toInt = 0 := i_eq (rfl : v_isMarch.toInt = v_isMarch.toInt) (by decide : (0 : Int32).toInt = 0) c_10
        refine lv_iconst (v := 0) hx hb dX10_count_114 (by decide) ?_
        have k_11 : (0 : Int32).toInt = 0 := by decide
        exact hrt 0   hP hD hS rfl dX10_count_115
      · have gc_10 : v_isMarch.toInt ≠ 0 := i_ne (rfl : v_isMarch.toInt = v_isMarch.toInt) (by decide : (0 : Int32).toInt = 0) c_10
        refine lv_iconst (v := 1) hx hb dX10_count_110 (by decide) ?_
        refine lv_goto (tgt := 115) hx hb dX10_count_111 (by decide) ?_
        have k_12 : (1 : Int32).toInt = 1 := by decide
        exact hrt 1   hP hD hS rfl dX10_count_115
  · have gc_6 : r_3.toInt ≠ 0 := i_ne (rfl : r_3.toInt = r_3.toInt) (by decide : (0 : Int32).toInt = 0) c_6
    refine lv_aload_n hx hb dX10_count_11 rfl (lv_at hl 0 rfl) ?_
    refine lv_iload_n hx hb dX10_count_12 rfl (lv_at hl 1 rfl) ?_
    refine lv_bipush (v := 10) hx hb dX10_count_13 (by decide) ?_
    refine lv_isub hx hb dX10_count_15 ?_
    refine lv_topi (fun n_13 en_13 => ?_)
    obtain rfl : n_1 = n_13 := en_1.trans en_13.symm
    refine xi hD hS hA (xV (As := [.int n_1]) (rest := []) hx hb hml hown hts hK hP hD hS hA NT_ok hN hAe hl.1 ⟨Nat.le_refl _, Nat.le_refl _⟩ 0 rfl rfl rfl (c_X10_allPounds l D cy hm v_taped v_walkers v_loads v_pieces v_changeCosts v_planned v_isMarch v_clauseMany v_place v_end v_bad v_clauses v_codes v_open v_stacked v_isOver v_isBehind v_atW v_atL v_atT v_atH v_atM v_atI v_atQ v_packing v_packed v_goPace v_goMinutes v_spentAt v_ranChanges f_m_tape f_m_knee f_m_weight f_m_isLame f_m_loadWeight f_m_owner f_m_food f_m_miles f_m_slope f_m_clauseLetter f_m_sumFrom f_m_codeFrom f_m_codeTo f_m_code f_m_codeArg f_m_newLetter f_m_newSum f_m_newFrom f_m_newTo f_m_newCode f_m_newArg f_m_stack f_m_worth f_m_isRefused f_m_least f_m_packPounds f_m_packOwner f_m_room f_m_givenTo f_m_canBe f_m_setPounds f_m_plainTime f_m_muleTime f_m_planTo f_m_march f_m_tired f_m_ranMinutes f_m_tiredAhead f_m_isReached f_m_toEnd f_m_upTo f_m_upNext f_m_byChanges f_m_bandPaces H.size n_1 (by omega) hr_m_loadWeight hr_m_food (by omega)) (gi_V lwd_853 lwd_854 lwd_855 lwd_5 lwd_856) ⟨rfl, hd_X10_allPounds⟩ ⟨Nat.le_of_ble_eq_true rfl, Nat.le_of_ble_eq_true rfl⟩ rfl (Nat.le_of_ble_eq_true rfl) dX10_count_16) (fun r_15 u_14 H locs hw hP hD hS => ?_)
    try dsimp only at hw hP hD
    clear hw
    exact hrt r_15   hP hD hS rfl dX10_count_19
