set_option maxHeartbeats 16000000 in
set_option maxRecDepth 100000 in
theorem c_X10_text (l : Launch) (D : va_G) (cy : Nat → ClassId) (hm : Nat → Nat) (v_taped v_walkers v_loads v_pieces v_changeCosts v_planned v_isMarch v_clauseMany v_place v_end v_bad v_clauses v_codes v_open v_stacked v_isOver v_isBehind v_atW v_atL v_atT v_atH v_atM v_atI v_atQ v_packing v_packed v_goPace v_goMinutes v_spentAt v_ranChanges : Int32) (f_m_tape f_m_knee f_m_weight f_m_isLame f_m_loadWeight f_m_owner f_m_food f_m_miles f_m_slope f_m_clauseLetter f_m_sumFrom f_m_codeFrom f_m_codeTo f_m_code f_m_codeArg f_m_newLetter f_m_newSum f_m_newFrom f_m_newTo f_m_newCode f_m_newArg f_m_stack f_m_worth f_m_isRefused f_m_least f_m_packPounds f_m_packOwner f_m_room f_m_givenTo f_m_canBe f_m_setPounds f_m_plainTime f_m_muleTime f_m_planTo f_m_march f_m_tired f_m_ranMinutes f_m_tiredAhead f_m_isReached f_m_toEnd f_m_upTo f_m_upNext f_m_byChanges f_m_bandPaces : Nat → Int32) (sz : Nat) (n1 : Int32) (hb_v_taped : 0 ≤ v_taped.toInt ∧ v_taped.toInt ≤ 220) (hb_v_clauseMany : 0 ≤ v_clauseMany.toInt ∧ v_clauseMany.toInt ≤ 14) (hb_v_place : 0 ≤ v_place.toInt ∧ v_place.toInt ≤ 200) (hb_v_end : 0 ≤ v_end.toInt ∧ v_end.toInt ≤ 200) (hb_v_bad : -6000 ≤ v_bad.toInt ∧ v_bad.toInt ≤ 0) (hb_v_clauses : 0 ≤ v_clauses.toInt ∧ v_clauses.toInt ≤ 14) (hb_v_codes : 0 ≤ v_codes.toInt ∧ v_codes.toInt ≤ 200) (hb_v_stacked : 0 ≤ v_stacked.toInt ∧ v_stacked.toInt ≤ 200) (hb_v_isOver : 0 ≤ v_isOver.toInt ∧ v_isOver.toInt ≤ 1) (hb_v_isBehind : 0 ≤ v_isBehind.toInt ∧ v_isBehind.toInt ≤ 1) (hr_m_tape : rg (-128) 127 f_m_tape) (hwf : wfC v_clauseMany f_m_sumFrom f_m_codeFrom f_m_codeTo f_m_code) : gMi l yX10_text cX10_text 4 .int 9 [.ref (hm 0), .int n1] D cy (wMD cy hm v_taped v_walkers v_loads v_pieces v_changeCosts v_planned v_isMarch v_clauseMany v_place v_end v_bad v_clauses v_codes v_open v_stacked v_isOver v_isBehind v_atW v_atL v_atT v_atH v_atM v_atI v_atQ v_packing v_packed v_goPace v_goMinutes v_spentAt v_ranChanges f_m_tape f_m_knee f_m_weight f_m_isLame f_m_loadWeight f_m_owner f_m_food f_m_miles f_m_slope f_m_clauseLetter f_m_sumFrom f_m_codeFrom f_m_codeTo f_m_code f_m_codeArg f_m_newLetter f_m_newSum f_m_newFrom f_m_newTo f_m_newCode f_m_newArg f_m_stack f_m_worth f_m_isRefused f_m_least f_m_packPounds f_m_packOwner f_m_room f_m_givenTo f_m_canBe f_m_setPounds f_m_plainTime f_m_muleTime f_m_planTo f_m_march f_m_tired f_m_ranMinutes f_m_tiredAhead f_m_isReached f_m_toEnd f_m_upTo f_m_upNext f_m_byChanges f_m_bandPaces) NT sz (fun (r : Int32) (u : Int32 × Int32 × Int32 × Int32 × Int32 × Int32 × Int32 × Int32 × Int32 × Int32 × Int32 × (Nat → Int32) × (Nat → Int32) × (Nat → Int32) × (Nat → Int32) × (Nat → Int32) × (Nat → Int32) × (Nat → Int32) × (Nat → Int32) × (Nat → Int32) × (Nat → Int32) × (Nat → Int32) × (Nat → Int32) × (Nat → Int32)) => (wfC (u.2.1) (u.2.2.2.2.2.2.2.2.2.2.2.2.1) (u.2.2.2.2.2.2.2.2.2.2.2.2.2.1) (u.2.2.2.2.2.2.2.2.2.2.2.2.2.2.1) (u.2.2.2.2.2.2.2.2.2.2.2.2.2.2.2.1)) ∧ (((1 ≤ n1.toInt ∧ n1.toInt ≤ 200 ∧ n1.toInt ≤ v_taped.toInt) ∧ (u.1).toInt = 0) ∨ (¬ (1 ≤ n1.toInt ∧ n1.toInt ≤ 200 ∧ n1.toInt ≤ v_taped.toInt) ∧ (u.1).toInt = v_taped.toInt)) ∧ (0 ≤ (u.1).toInt ∧ (u.1).toInt ≤ 220) ∧ (0 ≤ (u.2.1).toInt ∧ (u.2.1).toInt ≤ 14) ∧ (0 ≤ (u.2.2.1).toInt ∧ (u.2.2.1).toInt ≤ 200) ∧ (0 ≤ (u.2.2.2.1).toInt ∧ (u.2.2.2.1).toInt ≤ 200) ∧ (-6000 ≤ (u.2.2.2.2.1).toInt ∧ (u.2.2.2.2.1).toInt ≤ 0) ∧ (0 ≤ (u.2.2.2.2.2.1).toInt ∧ (u.2.2.2.2.2.1).toInt ≤ 14) ∧ (0 ≤ (u.2.2.2.2.2.2.1).toInt ∧ (u.2.2.2.2.2.2.1).toInt ≤ 200) ∧ (0 ≤ (u.2.2.2.2.2.2.2.2.1).toInt ∧ (u.2.2.2.2.2.2.2.2.1).toInt ≤ 200) ∧ (0 ≤ (u.2.2.2.2.2.2.2.2.2.1).toInt ∧ (u.2.2.2.2.2.2.2.2.2.1).toInt ≤ 1) ∧ (0 ≤ (u.2.2.2.2.2.2.2.2.2.2.1).toInt ∧ (u.2.2.2.2.2.2.2.2.2.2.1).toInt ≤ 1)) (fun u => wMD cy hm (u.1) v_walkers v_loads v_pieces v_changeCosts v_planned v_isMarch (u.2.1) (u.2.2.1) (u.2.2.2.1) (u.2.2.2.2.1) (u.2.2.2.2.2.1) (u.2.2.2.2.2.2.1) (u.2.2.2.2.2.2.2.1) (u.2.2.2.2.2.2.2.2.1) (u.2.2.2.2.2.2.2.2.2.1) (u.2.2.2.2.2.2.2.2.2.2.1) v_atW v_atL v_atT v_atH v_atM v_atI v_atQ v_packing v_packed v_goPace v_goMinutes v_spentAt v_ranChanges f_m_tape f_m_knee f_m_weight f_m_isLame f_m_loadWeight f_m_owner f_m_food f_m_miles f_m_slope (u.2.2.2.2.2.2.2.2.2.2.2.1) (u.2.2.2.2.2.2.2.2.2.2.2.2.1) (u.2.2.2.2.2.2.2.2.2.2.2.2.2.1) (u.2.2.2.2.2.2.2.2.2.2.2.2.2.2.1) (u.2.2.2.2.2.2.2.2.2.2.2.2.2.2.2.1) (u.2.2.2.2.2.2.2.2.2.2.2.2.2.2.2.2.1) (u.2.2.2.2.2.2.2.2.2.2.2.2.2.2.2.2.2.1) (u.2.2.2.2.2.2.2.2.2.2.2.2.2.2.2.2.2.2.1) (u.2.2.2.2.2.2.2.2.2.2.2.2.2.2.2.2.2.2.2.1) (u.2.2.2.2.2.2.2.2.2.2.2.2.2.2.2.2.2.2.2.2.1) (u.2.2.2.2.2.2.2.2.2.2.2.2.2.2.2.2.2.2.2.2.2.1) (u.2.2.2.2.2.2.2.2.2.2.2.2.2.2.2.2.2.2.2.2.2.2.1) (u.2.2.2.2.2.2.2.2.2.2.2.2.2.2.2.2.2.2.2.2.2.2.2) f_m_worth f_m_isRefused f_m_least f_m_packPounds f_m_packOwner f_m_room f_m_givenTo f_m_canBe f_m_setPounds f_m_plainTime f_m_muleTime f_m_planTo f_m_march f_m_tired f_m_ranMinutes f_m_tiredAhead f_m_isReached f_m_toEnd f_m_upTo f_m_upNext f_m_byChanges f_m_bandPaces) := by
  refine gMi_in (by decide) (Nat.le_of_ble_eq_true rfl) ?_
  intro p e s m args below meth c A ls Q hx hb hml hts hown hsz hP hK hD hN hAe hA hS hl hret
  subst hsz
  have hl : lv_has ls 4 [(0, .ref (hm 0)), (1, .int n1)] := hl
  have hrt := fun (r : Int32) (v_taped' : Int32) (v_clauseMany' : Int32) (v_place' : Int32) (v_end' : Int32) (v_bad' : Int32) (v_clauses' : Int32) (v_codes' : Int32) (v_open' : Int32) (v_stacked' : Int32) (v_isOver' : Int32) (v_isBehind' : Int32) (f_m_clauseLetter' : Nat → Int32) (f_m_sumFrom' : Nat → Int32) (f_m_codeFrom' : Nat → Int32) (f_m_codeTo' : Nat → Int32) (f_m_code' : Nat → Int32) (f_m_codeArg' : Nat → Int32) (f_m_newLetter' : Nat → Int32) (f_m_newSum' : Nat → Int32) (f_m_newFrom' : Nat → Int32) (f_m_newTo' : Nat → Int32) (f_m_newCode' : Nat → Int32) (f_m_newArg' : Nat → Int32) (f_m_stack' : Nat → Int32) (hp : (wfC v_clauseMany' f_m_sumFrom' f_m_codeFrom' f_m_codeTo' f_m_code') ∧ (((1 ≤ n1.toInt ∧ n1.toInt ≤ 200 ∧ n1.toInt ≤ v_taped.toInt) ∧ v_taped'.toInt = 0) ∨ (¬ (1 ≤ n1.toInt ∧ n1.toInt ≤ 200 ∧ n1.toInt ≤ v_taped.toInt) ∧ v_taped'.toInt = v_taped.toInt)) ∧ (0 ≤ v_taped'.toInt ∧ v_taped'.toInt ≤ 220) ∧ (0 ≤ v_clauseMany'.toInt ∧ v_clauseMany'.toInt ≤ 14) ∧ (0 ≤ v_place'.toInt ∧ v_place'.toInt ≤ 200) ∧ (0 ≤ v_end'.toInt ∧ v_end'.toInt ≤ 200) ∧ (-6000 ≤ v_bad'.toInt ∧ v_bad'.toInt ≤ 0) ∧ (0 ≤ v_clauses'.toInt ∧ v_clauses'.toInt ≤ 14) ∧ (0 ≤ v_codes'.toInt ∧ v_codes'.toInt ≤ 200) ∧ (0 ≤ v_stacked'.toInt ∧ v_stacked'.toInt ≤ 200) ∧ (0 ≤ v_isOver'.toInt ∧ v_isOver'.toInt ≤ 1) ∧ (0 ≤ v_isBehind'.toInt ∧ v_isBehind'.toInt ≤ 1)) {H : Heap} {locs : List Loc} {pc : Nat} {ls : Array Slot} => hret r (v_taped', v_clauseMany', v_place', v_end', v_bad', v_clauses', v_codes', v_open', v_stacked', v_isOver', v_isBehind', f_m_clauseLetter', f_m_sumFrom', f_m_codeFrom', f_m_codeTo', f_m_code', f_m_codeArg', f_m_newLetter', f_m_newSum', f_m_newFrom', f_m_newTo', f_m_newCode', f_m_newArg', f_m_stack') (H := H) (locs := locs) (pc := pc) (ls := ls) hp
  clear hret
  refine lv_iload_n hx hb dX10_text_0 rfl (lv_at hl 1 rfl) ?_
  refine lv_i2l (v := n1.toInt64) hx hb dX10_text_1 rfl ?_
  have hl_1 : n1.toInt64.toInt = n1.toInt := i_l (rfl : n1.toInt = n1.toInt)
  refine lv_lconst (v := 1) hx hb dX10_text_2 (by decide) ?_
  refine lv_ldc2 hx hb hown (hts _ lwd_399) dX10_text_3 ?_
  have k_2 : (1 : Int64).toInt = 1 := by decide
  have k_3 : (200 : Int64).toInt = 200 := by decide
  refine xi hD hS hA (xS (As := [.long n1.toInt64, .long 1, .long 200]) (rest := []) hx hb hml hown hts hK hP hD hS hA NT_ok hN hAe hl.1 ⟨Nat.le_refl _, Nat.le_refl _⟩ (c_X10_lies l D cy hm v_taped v_walkers v_loads v_pieces v_changeCosts v_planned v_isMarch v_clauseMany v_place v_end v_bad v_clauses v_codes v_open v_stacked v_isOver v_isBehind v_atW v_atL v_atT v_atH v_atM v_atI v_atQ v_packing v_packed v_goPace v_goMinutes v_spentAt v_ranChanges f_m_tape f_m_knee f_m_weight f_m_isLame f_m_loadWeight f_m_owner f_m_food f_m_miles f_m_slope f_m_clauseLetter f_m_sumFrom f_m_codeFrom f_m_codeTo f_m_code f_m_codeArg f_m_newLetter f_m_newSum f_m_newFrom f_m_newTo f_m_newCode f_m_newArg f_m_stack f_m_worth f_m_isRefused f_m_least f_m_packPounds f_m_packOwner f_m_room f_m_givenTo f_m_canBe f_m_setPounds f_m_plainTime f_m_muleTime f_m_planTo f_m_march f_m_tired f_m_ranMinutes f_m_tiredAhead f_m_isReached f_m_toEnd f_m_upTo f_m_upNext f_m_byChanges f_m_bandPaces s.heap.size n1.toInt64 1 200) (gi_S lwd_226 lwd_227 lwd_5 lwd_228) hd_X10_lies ⟨Nat.le_of_ble_eq_true rfl, Nat.le_of_ble_eq_true rfl⟩ rfl (Nat.le_of_ble_eq_true rfl) dX10_text_6) (fun r_5 u_4 H locs hw hP hD hS => ?_)
  try dsimp only at hw hP hD
  obtain ⟨p_6, p_7⟩ := hw
  refine lv_if_eq (tgt := 20) hx hb dX10_text_9 (by decide) (fun c_8 => ?_) (fun c_8 => ?_)
  · have gc_8 : r_5.toInt = 0 := i_eq (rfl : r_5.toInt = r_5.toInt) (by decide : (0 : Int32).toInt = 0) c_8
    refine lv_iconst (v := (-1)) hx hb dX10_text_20 (by decide) ?_
    have k_9 : ((-1) : Int32).toInt = (-1) := by decide
    exact hrt (-1) v_taped v_clauseMany v_place v_end v_bad v_clauses v_codes v_open v_stacked v_isOver v_isBehind f_m_clauseLetter f_m_sumFrom f_m_codeFrom f_m_codeTo f_m_code f_m_codeArg f_m_newLetter f_m_newSum f_m_newFrom f_m_newTo f_m_newCode f_m_newArg f_m_stack ⟨hwf, (by omega), (by omega), (by omega), (by omega), (by omega), (by omega), (by omega), (by omega), (by omega), (by omega), (by omega)⟩ hP hD hS rfl dX10_text_21
  · have gc_8 : r_5.toInt ≠ 0 := i_ne (rfl : r_5.toInt = r_5.toInt) (by decide : (0 : Int32).toInt = 0) c_8
    refine lv_iload_n hx hb dX10_text_12 rfl (lv_at hl 1 rfl) ?_
    refine lv_aload_n hx hb dX10_text_13 rfl (lv_at hl 0 rfl) ?_
    refine gt_MD_MD_taped hx hb hts hown hK hP lwd_298 dX10_text_14 ?_
    refine lv_icmp_le (tgt := 22) hx hb dX10_text_17 (by decide) (fun c_10 => ?_) (fun c_10 => ?_)
    · have gc_10 : n1.toInt ≤ v_taped.toInt := i_le (rfl : n1.toInt = n1.toInt) (rfl : v_taped.toInt = v_taped.toInt) c_10
      refine lv_aload_n hx hb dX10_text_22 rfl (lv_at hl 0 rfl) ?_
      refine lv_iconst (v := 0) hx hb dX10_text_23 (by decide) ?_
      refine pt_MD_MD_taped (x := 0) hx hb hts hown hK hP hD hS lwd_298 dX10_text_24 (fun H locs hP hD hS => ?_)
      refine lv_aload_n hx hb dX10_text_27 rfl (lv_at hl 0 rfl) ?_
      refine lv_iconst (v := 0) hx hb dX10_text_28 (by decide) ?_
      refine pt_MD_MD_place (x := 0) hx hb hts hown hK hP hD hS lwd_400 dX10_text_29 (fun H locs hP hD hS => ?_)
      refine lv_aload_n hx hb dX10_text_32 rfl (lv_at hl 0 rfl) ?_
      refine lv_iload_n hx hb dX10_text_33 rfl (lv_at hl 1 rfl) ?_
      refine pt_MD_MD_end (x := n1) hx hb hts hown hK hP hD hS lwd_401 dX10_text_34 (fun H locs hP hD hS => ?_)
      refine lv_aload_n hx hb dX10_text_37 rfl (lv_at hl 0 rfl) ?_
      refine lv_iconst (v := 0) hx hb dX10_text_38 (by decide) ?_
      refine pt_MD_MD_bad (x := 0) hx hb hts hown hK hP hD hS lwd_402 dX10_text_39 (fun H locs hP hD hS => ?_)
      refine lv_aload_n hx hb dX10_text_42 rfl (lv_at hl 0 rfl) ?_
      refine lv_iconst (v := 0) hx hb dX10_text_43 (by decide) ?_
      refine pt_MD_MD_clauses (x := 0) hx hb hts hown hK hP hD hS lwd_403 dX10_text_44 (fun H locs hP hD hS => ?_)
      refine lv_aload_n hx hb dX10_text_47 rfl (lv_at hl 0 rfl) ?_
      refine lv_iconst (v := 0) hx hb dX10_text_48 (by decide) ?_
      refine pt_MD_MD_codes (x := 0) hx hb hts hown hK hP hD hS lwd_404 dX10_text_49 (fun H locs hP hD hS => ?_)
      refine lv_iconst (v := 1) hx hb dX10_text_52 (by decide) ?_
      refine lv_istore_n (lv' := [(2, .int 1), (0, .ref (hm 0)), (1, .int n1)]) hx hb dX10_text_53 rfl hl (by decide) rfl (fun ls hl => ?_)
      have L54_43 : ∀ (n : Nat) (f_27 : Nat → Int32) (f_28 : Nat → Int32) (f_29 : Nat → Int32) (f_30 : Nat → Int32) (f_31 : Nat → Int32) (f_32 : Nat → Int32) (f_33 : Nat → Int32) (l_34 : Int32) (w_35 : Int32) (w_36 : Int32) (w_37 : Int32) (w_38 : Int32) (w_39 : Int32) (w_40 : Int32) (w_41 : Int32) (w_42 : Int32), (0 ≤ l_34.toInt ∧ l_34.toInt ≤ 1) → (-6000 ≤ w_35.toInt ∧ w_35.toInt ≤ 0) → (0 ≤ w_36.toInt ∧ w_36.toInt ≤ 14) → (0 ≤ w_37.toInt ∧ w_37.toInt ≤ 200) → (0 ≤ w_38.toInt ∧ w_38.toInt ≤ 1) → (0 ≤ w_39.toInt ∧ w_39.toInt ≤ 1) → (0 ≤ w_41.toInt ∧ w_41.toInt ≤ 200) → (0 ≤ w_42.toInt ∧ w_42.toInt ≤ 200) → (w_41.toInt ≤ n1.toInt ∧ w_37.toInt ≤ w_41.toInt) → (w_35.toInt = 0 → wfN w_36 f_31 f_29 f_32 f_28 w_37) → 2 * (6201 + w_35.toInt - w_41.toInt) + l_34.toInt < n → ∀ (H : Heap) (locs : List Loc) (ls : Array Slot), va_P D vwCl (wMD cy hm 0 v_walkers v_loads v_pieces v_changeCosts v_planned v_isMarch v_clauseMany w_41 n1 w_35 w_36 w_37 w_40 w_42 w_39 w_38 v_atW v_atL v_atT v_atH v_atM v_atI v_atQ v_packing v_packed v_goPace v_goMinutes v_spentAt v_ranChanges f_m_tape f_m_knee f_m_weight f_m_isLame f_m_loadWeight f_m_owner f_m_food f_m_miles f_m_slope f_m_clauseLetter f_m_sumFrom f_m_codeFrom f_m_codeTo f_m_code f_m_codeArg f_30 f_31 f_29 f_32 f_28 f_27 f_33 f_m_worth f_m_isRefused f_m_least f_m_packPounds f_m_packOwner f_m_room f_m_givenTo f_m_canBe f_m_setPounds f_m_plainTime f_m_muleTime f_m_planTo f_m_march f_m_tired f_m_ranMinutes f_m_tiredAhead f_m_isReached f_m_toEnd f_m_upTo f_m_upNext f_m_byChanges f_m_bandPaces) H → va_D A (wMD cy hm 0 v_walkers v_loads v_pieces v_changeCosts v_planned v_isMarch v_clauseMany w_41 n1 w_35 w_36 w_37 w_40 w_42 w_39 w_38 v_atW v_atL v_atT v_atH v_atM v_atI v_atQ v_packing v_packed v_goPace v_goMinutes v_spentAt v_ranChanges f_m_tape f_m_knee f_m_weight f_m_isLame f_m_loadWeight f_m_owner f_m_food f_m_miles f_m_slope f_m_clauseLetter f_m_sumFrom f_m_codeFrom f_m_codeTo f_m_code f_m_codeArg f_30 f_31 f_29 f_32 f_28 f_27 f_33 f_m_worth f_m_isRefused f_m_least f_m_packPounds f_m_packOwner f_m_room f_m_givenTo f_m_canBe f_m_setPounds f_m_plainTime f_m_muleTime f_m_planTo f_m_march f_m_tired f_m_ranMinutes f_m_tiredAhead f_m_isReached f_m_toEnd f_m_upTo f_m_upNext f_m_byChanges f_m_bandPaces) → va_S A s.heap H locs → lv_has ls 4 [(2, .int l_34), (0, .ref (hm 0)), (1, .int n1)] → W p l e (gRm 9) s m args below meth c H locs 0 0 Q (F0 m 54 ls []) := by
        intro n
        induction n with
        | zero => intro f_27 f_28 f_29 f_30 f_31 f_32 f_33 l_34 w_35 w_36 w_37 w_38 w_39 w_40 w_41 w_42 hL54_43_0 hL54_43_1 hL54_43_2 hL54_43_3 hL54_43_4 hL54_43_5 hL54_43_6 hL54_43_7 hL54_43_8 hL54_43_9 hm; exact absurd hm (by omega)
        | succ n ih54_43 =>
          intro f_27 f_28 f_29 f_30 f_31 f_32 f_33 l_34 w_35 w_36 w_37 w_38 w_39 w_40 w_41 w_42 hL54_43_0 hL54_43_1 hL54_43_2 hL54_43_3 hL54_43_4 hL54_43_5 hL54_43_6 hL54_43_7 hL54_43_8 hL54_43_9 hmL54_43 H locs ls hP hD hS hl
          refine lv_iload_n hx hb dX10_text_54 rfl (lv_at hl 0 rfl) ?_
          refine lv_if_eq (tgt := 128) hx hb dX10_text_55 (by decide) (fun c_44 => ?_) (fun c_44 => ?_)
          · have gc_44 : l_34.toInt = 0 := i_eq (rfl : l_34.toInt = l_34.toInt) (by decide : (0 : Int32).toInt = 0) c_44
            refine lv_aload_n hx hb dX10_text_128 rfl (lv_at hl 1 rfl) ?_
            refine gt_MD_MD_bad hx hb hts hown hK hP lwd_402 dX10_text_129 ?_
            refine lv_if_ge (tgt := 140) hx hb dX10_text_132 (by decide) (fun c_45 => ?_) (fun c_45 => ?_)
            · have gc_45 : 0 ≤ w_35.toInt := i_le (by decide : (0 : Int32).toInt = 0) (rfl : w_35.toInt = w_35.toInt) c_45
              refine lv_iconst (v := 0) hx hb dX10_text_140 (by decide) ?_
              refine lv_istore_n (lv' := [(3, .int 0), (2, .int l_34), (0, .ref (hm 0)), (1, .int n1)]) hx hb dX10_text_141 rfl hl (by decide) rfl (fun ls hl => ?_)
              have L142_56 : ∀ (n : Nat) (f_51 : Nat → Int32) (f_52 : Nat → Int32) (f_53 : Nat → Int32) (f_54 : Nat → Int32) (l_55 : Int32), (0 ≤ l_55.toInt ∧ l_55.toInt ≤ 14) → (∀ j : Nat, (j : Int) < l_55.toInt → f_54 j = f_31 j) → (∀ j : Nat, (j : Int) < l_55.toInt → f_52 j = f_29 j) → (∀ j : Nat, (j : Int) < l_55.toInt → f_53 j = f_32 j) → 15 - l_55.toInt < n → ∀ (H : Heap) (locs : List Loc) (ls : Array Slot), va_P D vwCl (wMD cy hm 0 v_walkers v_loads v_pieces v_changeCosts v_planned v_isMarch v_clauseMany w_41 n1 w_35 w_36 w_37 w_40 w_42 w_39 w_38 v_atW v_atL v_atT v_atH v_atM v_atI v_atQ v_packing v_packed v_goPace v_goMinutes v_spentAt v_ranChanges f_m_tape f_m_knee f_m_weight f_m_isLame f_m_loadWeight f_m_owner f_m_food f_m_miles f_m_slope f_51 f_54 f_52 f_53 f_m_code f_m_codeArg f_30 f_31 f_29 f_32 f_28 f_27 f_33 f_m_worth f_m_isRefused f_m_least f_m_packPounds f_m_packOwner f_m_room f_m_givenTo f_m_canBe f_m_setPounds f_m_plainTime f_m_muleTime f_m_planTo f_m_march f_m_tired f_m_ranMinutes f_m_tiredAhead f_m_isReached f_m_toEnd f_m_upTo f_m_upNext f_m_byChanges f_m_bandPaces) H → va_D A (wMD cy hm 0 v_walkers v_loads v_pieces v_changeCosts v_planned v_isMarch v_clauseMany w_41 n1 w_35 w_36 w_37 w_40 w_42 w_39 w_38 v_atW v_atL v_atT v_atH v_atM v_atI v_atQ v_packing v_packed v_goPace v_goMinutes v_spentAt v_ranChanges f_m_tape f_m_knee f_m_weight f_m_isLame f_m_loadWeight f_m_owner f_m_food f_m_miles f_m_slope f_51 f_54 f_52 f_53 f_m_code f_m_codeArg f_30 f_31 f_29 f_32 f_28 f_27 f_33 f_m_worth f_m_isRefused f_m_least f_m_packPounds f_m_packOwner f_m_room f_m_givenTo f_m_canBe f_m_setPounds f_m_plainTime f_m_muleTime f_m_planTo f_m_march f_m_tired f_m_ranMinutes f_m_tiredAhead f_m_isReached f_m_toEnd f_m_upTo f_m_upNext f_m_byChanges f_m_bandPaces) → va_S A s.heap H locs → lv_has ls 4 [(3, .int l_55), (2, .int l_34), (0, .ref (hm 0)), (1, .int n1)] → W p l e (gRm 9) s m args below meth c H locs 0 0 Q (F0 m 142 ls []) := by
                intro n
                induction n with
                | zero => intro f_51 f_52 f_53 f_54 l_55 hL142_56_0 hL142_56_1 hL142_56_2 hL142_56_3 hm; exact absurd hm (by omega)
                | succ n ih142_56 =>
                  intro f_51 f_52 f_53 f_54 l_55 hL142_56_0 hL142_56_1 hL142_56_2 hL142_56_3 hmL142_56 H locs ls hP hD hS hl
                  refine lv_iload_n hx hb dX10_text_142 rfl (lv_at hl 0 rfl) ?_
                  refine lv_aload_n hx hb dX10_text_143 rfl (lv_at hl 2 rfl) ?_
                  refine gt_MD_MD_clauses hx hb hts hown hK hP lwd_403 dX10_text_144 ?_
                  refine lv_icmp_ge (tgt := 204) hx hb dX10_text_147 (by decide) (fun c_57 => ?_) (fun c_57 => ?_)
                  · have gc_57 : w_36.toInt ≤ l_55.toInt := i_le (rfl : w_36.toInt = w_36.toInt) (rfl : l_55.toInt = l_55.toInt) c_57
                    refine lv_iconst (v := 0) hx hb dX10_text_204 (by decide) ?_
                    refine lv_istore_n (lv' := [(3, .int 0), (2, .int l_34), (0, .ref (hm 0)), (1, .int n1)]) hx hb dX10_text_205 rfl hl (by decide) rfl (fun ls hl => ?_)
                    have L206_64 : ∀ (n : Nat) (f_61 : Nat → Int32) (f_62 : Nat → Int32) (l_63 : Int32), (0 ≤ l_63.toInt ∧ l_63.toInt ≤ 200) → (∀ j : Nat, (j : Int) < l_63.toInt → f_61 j = f_28 j) → 201 - l_63.toInt < n → ∀ (H : Heap) (locs : List Loc) (ls : Array Slot), va_P D vwCl (wMD cy hm 0 v_walkers v_loads v_pieces v_changeCosts v_planned v_isMarch v_clauseMany w_41 n1 w_35 w_36 w_37 w_40 w_42 w_39 w_38 v_atW v_atL v_atT v_atH v_atM v_atI v_atQ v_packing v_packed v_goPace v_goMinutes v_spentAt v_ranChanges f_m_tape f_m_knee f_m_weight f_m_isLame f_m_loadWeight f_m_owner f_m_food f_m_miles f_m_slope f_51 f_54 f_52 f_53 f_61 f_62 f_30 f_31 f_29 f_32 f_28 f_27 f_33 f_m_worth f_m_isRefused f_m_least f_m_packPounds f_m_packOwner f_m_room f_m_givenTo f_m_canBe f_m_setPounds f_m_plainTime f_m_muleTime f_m_planTo f_m_march f_m_tired f_m_ranMinutes f_m_tiredAhead f_m_isReached f_m_toEnd f_m_upTo f_m_upNext f_m_byChanges f_m_bandPaces) H → va_D A (wMD cy hm 0 v_walkers v_loads v_pieces v_changeCosts v_planned v_isMarch v_clauseMany w_41 n1 w_35 w_36 w_37 w_40 w_42 w_39 w_38 v_atW v_atL v_atT v_atH v_atM v_atI v_atQ v_packing v_packed v_goPace v_goMinutes v_spentAt v_ranChanges f_m_tape f_m_knee f_m_weight f_m_isLame f_m_loadWeight f_m_owner f_m_food f_m_miles f_m_slope f_51 f_54 f_52 f_53 f_61 f_62 f_30 f_31 f_29 f_32 f_28 f_27 f_33 f_m_worth f_m_isRefused f_m_least f_m_packPounds f_m_packOwner f_m_room f_m_givenTo f_m_canBe f_m_setPounds f_m_plainTime f_m_muleTime f_m_planTo f_m_march f_m_tired f_m_ranMinutes f_m_tiredAhead f_m_isReached f_m_toEnd f_m_upTo f_m_upNext f_m_byChanges f_m_bandPaces) → va_S A s.heap H locs → lv_has ls 4 [(3, .int l_63), (2, .int l_34), (0, .ref (hm 0)), (1, .int n1)] → W p l e (gRm 9) s m args below meth c H locs 0 0 Q (F0 m 206 ls []) := by
                      intro n
                      induction n with
                      | zero => intro f_61 f_62 l_63 hL206_64_0 hL206_64_1 hm; exact absurd hm (by omega)
                      | succ n ih206_64 =>
                        intro f_61 f_62 l_63 hL206_64_0 hL206_64_1 hmL206_64 H locs ls hP hD hS hl
                        refine lv_iload_n hx hb dX10_text_206 rfl (lv_at hl 0 rfl) ?_
                        refine lv_aload_n hx hb dX10_text_207 rfl (lv_at hl 2 rfl) ?_
                        refine gt_MD_MD_codes hx hb hts hown hK hP lwd_404 dX10_text_208 ?_
                        refine lv_icmp_ge (tgt := 244) hx hb dX10_text_211 (by decide) (fun c_65 => ?_) (fun c_65 => ?_)
                        · have gc_65 : w_37.toInt ≤ l_63.toInt := i_le (rfl : w_37.toInt = w_37.toInt) (rfl : l_63.toInt = l_63.toInt) c_65
                          refine lv_aload_n hx hb dX10_text_244 rfl (lv_at hl 2 rfl) ?_
                          refine lv_aload_n hx hb dX10_text_245 rfl (lv_at hl 2 rfl) ?_
                          refine gt_MD_MD_clauses hx hb hts hown hK hP lwd_403 dX10_text_246 ?_
                          refine pt_MD_MD_clauseMany (x := w_36) hx hb hts hown hK hP hD hS lwd_405 dX10_text_249 (fun H locs hP hD hS => ?_)
                          refine lv_aload_n hx hb dX10_text_252 rfl (lv_at hl 2 rfl) ?_
                          refine gt_MD_MD_clauseMany hx hb hts hown hK hP lwd_405 dX10_text_253 ?_
                          have k_66 : (0 : Int32).toInt = 0 := by decide
                          exact hrt w_36 0 w_36 w_41 n1 w_35 w_36 w_37 w_40 w_42 w_39 w_38 f_51 f_54 f_52 f_53 f_61 f_62 f_30 f_31 f_29 f_32 f_28 f_27 f_33 ⟨(wfC_moved (hL54_43_9 (by omega)) (by omega) (fun k hk => hL142_56_1 k (by omega)) (fun k hk => hL142_56_2 k (by omega)) (fun k hk => hL142_56_3 k (by omega)) (fun j hj => hL206_64_1 j (by omega))), (by omega), (by omega), (by omega), (by omega), (by omega), (by omega), (by omega), (by omega), (by omega), (by omega), (by omega)⟩ hP hD hS rfl dX10_text_256
                        · have gc_65 : l_63.toInt < w_37.toInt := i_nle (rfl : w_37.toInt = w_37.toInt) (rfl : l_63.toInt = l_63.toInt) c_65
                          refine lv_aload_n hx hb dX10_text_214 rfl (lv_at hl 2 rfl) ?_
                          refine gt_MD_MD_code hx hb hts hown hK hP lwd_169 dX10_text_215 ?_
                          refine lv_iload_n hx hb dX10_text_218 rfl (lv_at hl 0 rfl) ?_
                          refine lv_aload_n hx hb dX10_text_219 rfl (lv_at hl 2 rfl) ?_
                          refine gt_MD_MD_newCode hx hb hts hown hK hP lwd_175 dX10_text_220 ?_
                          refine lv_iload_n hx hb dX10_text_223 rfl (lv_at hl 0 rfl) ?_
                          refine al_m_newCode hx hb hK hP (i_in (rfl : l_63.toInt = l_63.toInt) (by omega) (by omega)) dX10_text_224 (fun n_67 en_67 => ?_)
                          refine as_m_code (x := n_67) hx hb hK hP hD hS (i_in (rfl : l_63.toInt = l_63.toInt) (by omega) (by omega)) dX10_text_225 (fun f_68 ef_68 H locs hP hD hS => ?_)
                          refine lv_aload_n hx hb dX10_text_226 rfl (lv_at hl 2 rfl) ?_
                          refine gt_MD_MD_codeArg hx hb hts hown hK hP lwd_170 dX10_text_227 ?_
                          refine lv_iload_n hx hb dX10_text_230 rfl (lv_at hl 0 rfl) ?_
                          refine lv_aload_n hx hb dX10_text_231 rfl (lv_at hl 2 rfl) ?_
                          refine gt_MD_MD_newArg hx hb hts hown hK hP lwd_176 dX10_text_232 ?_
                          refine lv_iload_n hx hb dX10_text_235 rfl (lv_at hl 0 rfl) ?_
                          refine al_m_newArg hx hb hK hP (i_in (rfl : l_63.toInt = l_63.toInt) (by omega) (by omega)) dX10_text_236 (fun n_69 en_69 => ?_)
                          refine as_m_codeArg (x := n_69) hx hb hK hP hD hS (i_in (rfl : l_63.toInt = l_63.toInt) (by omega) (by omega)) dX10_text_237 (fun f_70 ef_70 H locs hP hD hS => ?_)
                          obtain ⟨n_71, en_71⟩ : ∃ y : Int32, y = l_63 + 1 := ⟨_, rfl⟩
                          have tn_71 : n_71.toInt = l_63.toInt + 1 := i_add en_71 (rfl : l_63.toInt = l_63.toInt) (by decide : (1 : Int32).toInt = 1) (by omega) (by omega)
                          refine lv_iinc (v := n_71) (lv' := [(3, .int n_71), (2, .int l_34), (0, .ref (hm 0)), (1, .int n1)]) hx hb dX10_text_238 hl (k := 0) rfl (by rw [en_71]; rfl) (by decide) rfl (fun ls hl => ?_)
                          refine lv_goto (tgt := 206) hx hb dX10_text_241 (by decide) ?_
                          exact ih206_64 f_68 f_70 n_71 (by omega) (fun j hj => by
                            rw [ef_68]
                            have e9 := i_ix (rfl : l_63.toInt = l_63.toInt)
                            by_cases q : j = l_63.toNatClampNeg
                            · rw [q, upd_at]; exact en_67
                            · rw [upd_off _ _ q]; exact hL206_64_1 j (by omega)) (by omega) _ _ _ hP hD hS (lv_sub hl [0, 1, 2, 3] rfl)
                    have k_72 : (0 : Int32).toInt = 0 := by decide
                    exact L206_64 8589934592 f_m_code f_m_codeArg 0 (by omega) (fun j hj => absurd hj (by omega)) (by omega) _ _ _ hP hD hS (lv_sub hl [0, 1, 2, 3] rfl)
                  · have gc_57 : l_55.toInt < w_36.toInt := i_nle (rfl : w_36.toInt = w_36.toInt) (rfl : l_55.toInt = l_55.toInt) c_57
                    refine lv_aload_n hx hb dX10_text_150 rfl (lv_at hl 2 rfl) ?_
                    refine gt_MD_MD_clauseLetter hx hb hts hown hK hP lwd_165 dX10_text_151 ?_
                    refine lv_iload_n hx hb dX10_text_154 rfl (lv_at hl 0 rfl) ?_
                    refine lv_aload_n hx hb dX10_text_155 rfl (lv_at hl 2 rfl) ?_
                    refine gt_MD_MD_newLetter hx hb hts hown hK hP lwd_171 dX10_text_156 ?_
                    refine lv_iload_n hx hb dX10_text_159 rfl (lv_at hl 0 rfl) ?_
                    refine al_m_newLetter hx hb hK hP (i_in (rfl : l_55.toInt = l_55.toInt) (by omega) (by omega)) dX10_text_160 (fun n_73 en_73 => ?_)
                    refine as_m_clauseLetter (x := n_73) hx hb hK hP hD hS (i_in (rfl : l_55.toInt = l_55.toInt) (by omega) (by omega)) dX10_text_161 (fun f_74 ef_74 H locs hP hD hS => ?_)
                    refine lv_aload_n hx hb dX10_text_162 rfl (lv_at hl 2 rfl) ?_
                    refine gt_MD_MD_sumFrom hx hb hts hown hK hP lwd_166 dX10_text_163 ?_
                    refine lv_iload_n hx hb dX10_text_166 rfl (lv_at hl 0 rfl) ?_
                    refine lv_aload_n hx hb dX10_text_167 rfl (lv_at hl 2 rfl) ?_
                    refine gt_MD_MD_newSum hx hb hts hown hK hP lwd_172 dX10_text_168 ?_
                    refine lv_iload_n hx hb dX10_text_171 rfl (lv_at hl 0 rfl) ?_
                    refine al_m_newSum hx hb hK hP (i_in (rfl : l_55.toInt = l_55.toInt) (by omega) (by omega)) dX10_text_172 (fun n_75 en_75 => ?_)
                    refine as_m_sumFrom (x := n_75) hx hb hK hP hD hS (i_in (rfl : l_55.toInt = l_55.toInt) (by omega) (by omega)) dX10_text_173 (fun f_76 ef_76 H locs hP hD hS => ?_)
                    refine lv_aload_n hx hb dX10_text_174 rfl (lv_at hl 2 rfl) ?_
                    refine gt_MD_MD_codeFrom hx hb hts hown hK hP lwd_167 dX10_text_175 ?_
                    refine lv_iload_n hx hb dX10_text_178 rfl (lv_at hl 0 rfl) ?_
                    refine lv_aload_n hx hb dX10_text_179 rfl (lv_at hl 2 rfl) ?_
                    refine gt_MD_MD_newFrom hx hb hts hown hK hP lwd_173 dX10_text_180 ?_
                    refine lv_iload_n hx hb dX10_text_183 rfl (lv_at hl 0 rfl) ?_
                    refine al_m_newFrom hx hb hK hP (i_in (rfl : l_55.toInt = l_55.toInt) (by omega) (by omega)) dX10_text_184 (fun n_77 en_77 => ?_)
                    refine as_m_codeFrom (x := n_77) hx hb hK hP hD hS (i_in (rfl : l_55.toInt = l_55.toInt) (by omega) (by omega)) dX10_text_185 (fun f_78 ef_78 H locs hP hD hS => ?_)
                    refine lv_aload_n hx hb dX10_text_186 rfl (lv_at hl 2 rfl) ?_
                    refine gt_MD_MD_codeTo hx hb hts hown hK hP lwd_168 dX10_text_187 ?_
                    refine lv_iload_n hx hb dX10_text_190 rfl (lv_at hl 0 rfl) ?_
                    refine lv_aload_n hx hb dX10_text_191 rfl (lv_at hl 2 rfl) ?_
                    refine gt_MD_MD_newTo hx hb hts hown hK hP lwd_174 dX10_text_192 ?_
                    refine lv_iload_n hx hb dX10_text_195 rfl (lv_at hl 0 rfl) ?_
                    refine al_m_newTo hx hb hK hP (i_in (rfl : l_55.toInt = l_55.toInt) (by omega) (by omega)) dX10_text_196 (fun n_79 en_79 => ?_)
                    refine as_m_codeTo (x := n_79) hx hb hK hP hD hS (i_in (rfl : l_55.toInt = l_55.toInt) (by omega) (by omega)) dX10_text_197 (fun f_80 ef_80 H locs hP hD hS => ?_)
                    obtain ⟨n_81, en_81⟩ : ∃ y : Int32, y = l_55 + 1 := ⟨_, rfl⟩
                    have tn_81 : n_81.toInt = l_55.toInt + 1 := i_add en_81 (rfl : l_55.toInt = l_55.toInt) (by decide : (1 : Int32).toInt = 1) (by omega) (by omega)
                    refine lv_iinc (v := n_81) (lv' := [(3, .int n_81), (2, .int l_34), (0, .ref (hm 0)), (1, .int n1)]) hx hb dX10_text_198 hl (k := 0) rfl (by rw [en_81]; rfl) (by decide) rfl (fun ls hl => ?_)
                    refine lv_goto (tgt := 142) hx hb dX10_text_201 (by decide) ?_
                    exact ih142_56 f_74 f_78 f_80 f_76 n_81 (by omega) (fun j hj => by
                      rw [ef_76]
                      have e9 := i_ix (rfl : l_55.toInt = l_55.toInt)
                      by_cases q : j = l_55.toNatClampNeg
                      · rw [q, upd_at]; exact en_75
                      · rw [upd_off _ _ q]; exact hL142_56_1 j (by omega)) (fun j hj => by
                      rw [ef_78]
                      have e9 := i_ix (rfl : l_55.toInt = l_55.toInt)
                      by_cases q : j = l_55.toNatClampNeg
                      · rw [q, upd_at]; exact en_77
                      · rw [upd_off _ _ q]; exact hL142_56_2 j (by omega)) (fun j hj => by
                      rw [ef_80]
                      have e9 := i_ix (rfl : l_55.toInt = l_55.toInt)
                      by_cases q : j = l_55.toNatClampNeg
                      · rw [q, upd_at]; exact en_79
                      · rw [upd_off _ _ q]; exact hL142_56_3 j (by omega)) (by omega) _ _ _ hP hD hS (lv_sub hl [0, 1, 2, 3] rfl)
              have k_82 : (0 : Int32).toInt = 0 := by decide
              exact L142_56 8589934592 f_m_clauseLetter f_m_codeFrom f_m_codeTo f_m_sumFrom 0 (by omega) (fun j hj => absurd hj (by omega)) (fun j hj => absurd hj (by omega)) (fun j hj => absurd hj (by omega)) (by omega) _ _ _ hP hD hS (lv_sub hl [0, 1, 2, 3] rfl)
            · have gc_45 : w_35.toInt < 0 := i_nle (by decide : (0 : Int32).toInt = 0) (rfl : w_35.toInt = w_35.toInt) c_45
              refine lv_aload_n hx hb dX10_text_135 rfl (lv_at hl 1 rfl) ?_
              refine gt_MD_MD_bad hx hb hts hown hK hP lwd_402 dX10_text_136 ?_
              have k_83 : (0 : Int32).toInt = 0 := by decide
              exact hrt w_35 0 v_clauseMany w_41 n1 w_35 w_36 w_37 w_40 w_42 w_39 w_38 f_m_clauseLetter f_m_sumFrom f_m_codeFrom f_m_codeTo f_m_code f_m_codeArg f_30 f_31 f_29 f_32 f_28 f_27 f_33 ⟨hwf, (by omega), (by omega), (by omega), (by omega), (by omega), (by omega), (by omega), (by omega), (by omega), (by omega), (by omega)⟩ hP hD hS rfl dX10_text_139
          · have gc_44 : l_34.toInt ≠ 0 := i_ne (rfl : l_34.toInt = l_34.toInt) (by decide : (0 : Int32).toInt = 0) c_44
            refine lv_aload_n hx hb dX10_text_58 rfl (lv_at hl 1 rfl) ?_
            refine xi hD hS hA (xV (As := []) (rest := []) hx hb hml hown hts hK hP hD hS hA NT_ok hN hAe hl.1 ⟨Nat.le_refl _, Nat.le_refl _⟩ 0 rfl rfl rfl (c_X10_isGood l D cy hm 0 v_walkers v_loads v_pieces v_changeCosts v_planned v_isMarch v_clauseMany w_41 n1 w_35 w_36 w_37 w_40 w_42 w_39 w_38 v_atW v_atL v_atT v_atH v_atM v_atI v_atQ v_packing v_packed v_goPace v_goMinutes v_spentAt v_ranChanges f_m_tape f_m_knee f_m_weight f_m_isLame f_m_loadWeight f_m_owner f_m_food f_m_miles f_m_slope f_m_clauseLetter f_m_sumFrom f_m_codeFrom f_m_codeTo f_m_code f_m_codeArg f_30 f_31 f_29 f_32 f_28 f_27 f_33 f_m_worth f_m_isRefused f_m_least f_m_packPounds f_m_packOwner f_m_room f_m_givenTo f_m_canBe f_m_setPounds f_m_plainTime f_m_muleTime f_m_planTo f_m_march f_m_tired f_m_ranMinutes f_m_tiredAhead f_m_isReached f_m_toEnd f_m_upTo f_m_upNext f_m_byChanges f_m_bandPaces H.size (by omega)) (gi_V lwd_406 lwd_407 lwd_408 lwd_5 lwd_409) ⟨rfl, hd_X10_isGood⟩ ⟨Nat.le_of_ble_eq_true rfl, Nat.le_of_ble_eq_true rfl⟩ rfl (Nat.le_of_ble_eq_true rfl) dX10_text_59) (fun r_85 u_84 H locs hw hP hD hS => ?_)
            try dsimp only at hw hP hD
            obtain ⟨p_86, p_87⟩ := hw
            refine lv_if_eq (tgt := 128) hx hb dX10_text_62 (by decide) (fun c_88 => ?_) (fun c_88 => ?_)
            · have gc_88 : r_85.toInt = 0 := i_eq (rfl : r_85.toInt = r_85.toInt) (by decide : (0 : Int32).toInt = 0) c_88
              refine lv_aload_n hx hb dX10_text_128 rfl (lv_at hl 1 rfl) ?_
              refine gt_MD_MD_bad hx hb hts hown hK hP lwd_402 dX10_text_129 ?_
              refine lv_if_ge (tgt := 140) hx hb dX10_text_132 (by decide) (fun c_89 => ?_) (fun c_89 => ?_)
              · have gc_89 : 0 ≤ w_35.toInt := i_le (by decide : (0 : Int32).toInt = 0) (rfl : w_35.toInt = w_35.toInt) c_89
                refine lv_iconst (v := 0) hx hb dX10_text_140 (by decide) ?_
                refine lv_istore_n (lv' := [(3, .int 0), (2, .int l_34), (0, .ref (hm 0)), (1, .int n1)]) hx hb dX10_text_141 rfl hl (by decide) rfl (fun ls hl => ?_)
                have L142_100 : ∀ (n : Nat) (f_95 : Nat → Int32) (f_96 : Nat → Int32) (f_97 : Nat → Int32) (f_98 : Nat → Int32) (l_99 : Int32), (0 ≤ l_99.toInt ∧ l_99.toInt ≤ 14) → (∀ j : Nat, (j : Int) < l_99.toInt → f_98 j = f_31 j) → (∀ j : Nat, (j : Int) < l_99.toInt → f_96 j = f_29 j) → (∀ j : Nat, (j : Int) < l_99.toInt → f_97 j = f_32 j) → 15 - l_99.toInt < n → ∀ (H : Heap) (locs : List Loc) (ls : Array Slot), va_P D vwCl (wMD cy hm 0 v_walkers v_loads v_pieces v_changeCosts v_planned v_isMarch v_clauseMany w_41 n1 w_35 w_36 w_37 w_40 w_42 w_39 w_38 v_atW v_atL v_atT v_atH v_atM v_atI v_atQ v_packing v_packed v_goPace v_goMinutes v_spentAt v_ranChanges f_m_tape f_m_knee f_m_weight f_m_isLame f_m_loadWeight f_m_owner f_m_food f_m_miles f_m_slope f_95 f_98 f_96 f_97 f_m_code f_m_codeArg f_30 f_31 f_29 f_32 f_28 f_27 f_33 f_m_worth f_m_isRefused f_m_least f_m_packPounds f_m_packOwner f_m_room f_m_givenTo f_m_canBe f_m_setPounds f_m_plainTime f_m_muleTime f_m_planTo f_m_march f_m_tired f_m_ranMinutes f_m_tiredAhead f_m_isReached f_m_toEnd f_m_upTo f_m_upNext f_m_byChanges f_m_bandPaces) H → va_D A (wMD cy hm 0 v_walkers v_loads v_pieces v_changeCosts v_planned v_isMarch v_clauseMany w_41 n1 w_35 w_36 w_37 w_40 w_42 w_39 w_38 v_atW v_atL v_atT v_atH v_atM v_atI v_atQ v_packing v_packed v_goPace v_goMinutes v_spentAt v_ranChanges f_m_tape f_m_knee f_m_weight f_m_isLame f_m_loadWeight f_m_owner f_m_food f_m_miles f_m_slope f_95 f_98 f_96 f_97 f_m_code f_m_codeArg f_30 f_31 f_29 f_32 f_28 f_27 f_33 f_m_worth f_m_isRefused f_m_least f_m_packPounds f_m_packOwner f_m_room f_m_givenTo f_m_canBe f_m_setPounds f_m_plainTime f_m_muleTime f_m_planTo f_m_march f_m_tired f_m_ranMinutes f_m_tiredAhead f_m_isReached f_m_toEnd f_m_upTo f_m_upNext f_m_byChanges f_m_bandPaces) → va_S A s.heap H locs → lv_has ls 4 [(3, .int l_99), (2, .int l_34), (0, .ref (hm 0)), (1, .int n1)] → W p l e (gRm 9) s m args below meth c H locs 0 0 Q (F0 m 142 ls []) := by
                  intro n
                  induction n with
                  | zero => intro f_95 f_96 f_97 f_98 l_99 hL142_100_0 hL142_100_1 hL142_100_2 hL142_100_3 hm; exact absurd hm (by omega)
                  | succ n ih142_100 =>
                    intro f_95 f_96 f_97 f_98 l_99 hL142_100_0 hL142_100_1 hL142_100_2 hL142_100_3 hmL142_100 H locs ls hP hD hS hl
                    refine lv_iload_n hx hb dX10_text_142 rfl (lv_at hl 0 rfl) ?_
                    refine lv_aload_n hx hb dX10_text_143 rfl (lv_at hl 2 rfl) ?_
                    refine gt_MD_MD_clauses hx hb hts hown hK hP lwd_403 dX10_text_144 ?_
                    refine lv_icmp_ge (tgt := 204) hx hb dX10_text_147 (by decide) (fun c_101 => ?_) (fun c_101 => ?_)
                    · have gc_101 : w_36.toInt ≤ l_99.toInt := i_le (rfl : w_36.toInt = w_36.toInt) (rfl : l_99.toInt = l_99.toInt) c_101
                      refine lv_iconst (v := 0) hx hb dX10_text_204 (by decide) ?_
                      refine lv_istore_n (lv' := [(3, .int 0), (2, .int l_34), (0, .ref (hm 0)), (1, .int n1)]) hx hb dX10_text_205 rfl hl (by decide) rfl (fun ls hl => ?_)
                      have L206_108 : ∀ (n : Nat) (f_105 : Nat → Int32) (f_106 : Nat → Int32) (l_107 : Int32), (0 ≤ l_107.toInt ∧ l_107.toInt ≤ 200) → (∀ j : Nat, (j : Int) < l_107.toInt → f_105 j = f_28 j) → 201 - l_107.toInt < n → ∀ (H : Heap) (locs : List Loc) (ls : Array Slot), va_P D vwCl (wMD cy hm 0 v_walkers v_loads v_pieces v_changeCosts v_planned v_isMarch v_clauseMany w_41 n1 w_35 w_36 w_37 w_40 w_42 w_39 w_38 v_atW v_atL v_atT v_atH v_atM v_atI v_atQ v_packing v_packed v_goPace v_goMinutes v_spentAt v_ranChanges f_m_tape f_m_knee f_m_weight f_m_isLame f_m_loadWeight f_m_owner f_m_food f_m_miles f_m_slope f_95 f_98 f_96 f_97 f_105 f_106 f_30 f_31 f_29 f_32 f_28 f_27 f_33 f_m_worth f_m_isRefused f_m_least f_m_packPounds f_m_packOwner f_m_room f_m_givenTo f_m_canBe f_m_setPounds f_m_plainTime f_m_muleTime f_m_planTo f_m_march f_m_tired f_m_ranMinutes f_m_tiredAhead f_m_isReached f_m_toEnd f_m_upTo f_m_upNext f_m_byChanges f_m_bandPaces) H → va_D A (wMD cy hm 0 v_walkers v_loads v_pieces v_changeCosts v_planned v_isMarch v_clauseMany w_41 n1 w_35 w_36 w_37 w_40 w_42 w_39 w_38 v_atW v_atL v_atT v_atH v_atM v_atI v_atQ v_packing v_packed v_goPace v_goMinutes v_spentAt v_ranChanges f_m_tape f_m_knee f_m_weight f_m_isLame f_m_loadWeight f_m_owner f_m_food f_m_miles f_m_slope f_95 f_98 f_96 f_97 f_105 f_106 f_30 f_31 f_29 f_32 f_28 f_27 f_33 f_m_worth f_m_isRefused f_m_least f_m_packPounds f_m_packOwner f_m_room f_m_givenTo f_m_canBe f_m_setPounds f_m_plainTime f_m_muleTime f_m_planTo f_m_march f_m_tired f_m_ranMinutes f_m_tiredAhead f_m_isReached f_m_toEnd f_m_upTo f_m_upNext f_m_byChanges f_m_bandPaces) → va_S A s.heap H locs → lv_has ls 4 [(3, .int l_107), (2, .int l_34), (0, .ref (hm 0)), (1, .int n1)] → W p l e (gRm 9) s m args below meth c H locs 0 0 Q (F0 m 206 ls []) := by
                        intro n
                        induction n with
                        | zero => intro f_105 f_106 l_107 hL206_108_0 hL206_108_1 hm; exact absurd hm (by omega)
                        | succ n ih206_108 =>
                          intro f_105 f_106 l_107 hL206_108_0 hL206_108_1 hmL206_108 H locs ls hP hD hS hl
                          refine lv_iload_n hx hb dX10_text_206 rfl (lv_at hl 0 rfl) ?_
                          refine lv_aload_n hx hb dX10_text_207 rfl (lv_at hl 2 rfl) ?_
                          refine gt_MD_MD_codes hx hb hts hown hK hP lwd_404 dX10_text_208 ?_
                          refine lv_icmp_ge (tgt := 244) hx hb dX10_text_211 (by decide) (fun c_109 => ?_) (fun c_109 => ?_)
                          · have gc_109 : w_37.toInt ≤ l_107.toInt := i_le (rfl : w_37.toInt = w_37.toInt) (rfl : l_107.toInt = l_107.toInt) c_109
                            refine lv_aload_n hx hb dX10_text_244 rfl (lv_at hl 2 rfl) ?_
                            refine lv_aload_n hx hb dX10_text_245 rfl (lv_at hl 2 rfl) ?_
                            refine gt_MD_MD_clauses hx hb hts hown hK hP lwd_403 dX10_text_246 ?_
                            refine pt_MD_MD_clauseMany (x := w_36) hx hb hts hown hK hP hD hS lwd_405 dX10_text_249 (fun H locs hP hD hS => ?_)
                            refine lv_aload_n hx hb dX10_text_252 rfl (lv_at hl 2 rfl) ?_
                            refine gt_MD_MD_clauseMany hx hb hts hown hK hP lwd_405 dX10_text_253 ?_
                            have k_110 : (0 : Int32).toInt = 0 := by decide
                            exact hrt w_36 0 w_36 w_41 n1 w_35 w_36 w_37 w_40 w_42 w_39 w_38 f_95 f_98 f_96 f_97 f_105 f_106 f_30 f_31 f_29 f_32 f_28 f_27 f_33 ⟨(wfC_moved (hL54_43_9 (by omega)) (by omega) (fun k hk => hL142_100_1 k (by omega)) (fun k hk => hL142_100_2 k (by omega)) (fun k hk => hL142_100_3 k (by omega)) (fun j hj => hL206_108_1 j (by omega))), (by omega), (by omega), (by omega), (by omega), (by omega), (by omega), (by omega), (by omega), (by omega), (by omega), (by omega)⟩ hP hD hS rfl dX10_text_256
                          · have gc_109 : l_107.toInt < w_37.toInt := i_nle (rfl : w_37.toInt = w_37.toInt) (rfl : l_107.toInt = l_107.toInt) c_109
                            refine lv_aload_n hx hb dX10_text_214 rfl (lv_at hl 2 rfl) ?_
                            refine gt_MD_MD_code hx hb hts hown hK hP lwd_169 dX10_text_215 ?_
                            refine lv_iload_n hx hb dX10_text_218 rfl (lv_at hl 0 rfl) ?_
                            refine lv_aload_n hx hb dX10_text_219 rfl (lv_at hl 2 rfl) ?_
                            refine gt_MD_MD_newCode hx hb hts hown hK hP lwd_175 dX10_text_220 ?_
                            refine lv_iload_n hx hb dX10_text_223 rfl (lv_at hl 0 rfl) ?_
                            refine al_m_newCode hx hb hK hP (i_in (rfl : l_107.toInt = l_107.toInt) (by omega) (by omega)) dX10_text_224 (fun n_111 en_111 => ?_)
                            refine as_m_code (x := n_111) hx hb hK hP hD hS (i_in (rfl : l_107.toInt = l_107.toInt) (by omega) (by omega)) dX10_text_225 (fun f_112 ef_112 H locs hP hD hS => ?_)
                            refine lv_aload_n hx hb dX10_text_226 rfl (lv_at hl 2 rfl) ?_
                            refine gt_MD_MD_codeArg hx hb hts hown hK hP lwd_170 dX10_text_227 ?_
                            refine lv_iload_n hx hb dX10_text_230 rfl (lv_at hl 0 rfl) ?_
                            refine lv_aload_n hx hb dX10_text_231 rfl (lv_at hl 2 rfl) ?_
                            refine gt_MD_MD_newArg hx hb hts hown hK hP lwd_176 dX10_text_232 ?_
                            refine lv_iload_n hx hb dX10_text_235 rfl (lv_at hl 0 rfl) ?_
                            refine al_m_newArg hx hb hK hP (i_in (rfl : l_107.toInt = l_107.toInt) (by omega) (by omega)) dX10_text_236 (fun n_113 en_113 => ?_)
                            refine as_m_codeArg (x := n_113) hx hb hK hP hD hS (i_in (rfl : l_107.toInt = l_107.toInt) (by omega) (by omega)) dX10_text_237 (fun f_114 ef_114 H locs hP hD hS => ?_)
                            obtain ⟨n_115, en_115⟩ : ∃ y : Int32, y = l_107 + 1 := ⟨_, rfl⟩
                            have tn_115 : n_115.toInt = l_107.toInt + 1 := i_add en_115 (rfl : l_107.toInt = l_107.toInt) (by decide : (1 : Int32).toInt = 1) (by omega) (by omega)
                            refine lv_iinc (v := n_115) (lv' := [(3, .int n_115), (2, .int l_34), (0, .ref (hm 0)), (1, .int n1)]) hx hb dX10_text_238 hl (k := 0) rfl (by rw [en_115]; rfl) (by decide) rfl (fun ls hl => ?_)
                            refine lv_goto (tgt := 206) hx hb dX10_text_241 (by decide) ?_
                            exact ih206_108 f_112 f_114 n_115 (by omega) (fun j hj => by
                              rw [ef_112]
                              have e9 := i_ix (rfl : l_107.toInt = l_107.toInt)
                              by_cases q : j = l_107.toNatClampNeg
                              · rw [q, upd_at]; exact en_111
                              · rw [upd_off _ _ q]; exact hL206_108_1 j (by omega)) (by omega) _ _ _ hP hD hS (lv_sub hl [0, 1, 2, 3] rfl)
                      have k_116 : (0 : Int32).toInt = 0 := by decide
                      exact L206_108 8589934592 f_m_code f_m_codeArg 0 (by omega) (fun j hj => absurd hj (by omega)) (by omega) _ _ _ hP hD hS (lv_sub hl [0, 1, 2, 3] rfl)
                    · have gc_101 : l_99.toInt < w_36.toInt := i_nle (rfl : w_36.toInt = w_36.toInt) (rfl : l_99.toInt = l_99.toInt) c_101
                      refine lv_aload_n hx hb dX10_text_150 rfl (lv_at hl 2 rfl) ?_
                      refine gt_MD_MD_clauseLetter hx hb hts hown hK hP lwd_165 dX10_text_151 ?_
                      refine lv_iload_n hx hb dX10_text_154 rfl (lv_at hl 0 rfl) ?_
                      refine lv_aload_n hx hb dX10_text_155 rfl (lv_at hl 2 rfl) ?_
                      refine gt_MD_MD_newLetter hx hb hts hown hK hP lwd_171 dX10_text_156 ?_
                      refine lv_iload_n hx hb dX10_text_159 rfl (lv_at hl 0 rfl) ?_
                      refine al_m_newLetter hx hb hK hP (i_in (rfl : l_99.toInt = l_99.toInt) (by omega) (by omega)) dX10_text_160 (fun n_117 en_117 => ?_)
                      refine as_m_clauseLetter (x := n_117) hx hb hK hP hD hS (i_in (rfl : l_99.toInt = l_99.toInt) (by omega) (by omega)) dX10_text_161 (fun f_118 ef_118 H locs hP hD hS => ?_)
                      refine lv_aload_n hx hb dX10_text_162 rfl (lv_at hl 2 rfl) ?_
                      refine gt_MD_MD_sumFrom hx hb hts hown hK hP lwd_166 dX10_text_163 ?_
                      refine lv_iload_n hx hb dX10_text_166 rfl (lv_at hl 0 rfl) ?_
                      refine lv_aload_n hx hb dX10_text_167 rfl (lv_at hl 2 rfl) ?_
                      refine gt_MD_MD_newSum hx hb hts hown hK hP lwd_172 dX10_text_168 ?_
                      refine lv_iload_n hx hb dX10_text_171 rfl (lv_at hl 0 rfl) ?_
                      refine al_m_newSum hx hb hK hP (i_in (rfl : l_99.toInt = l_99.toInt) (by omega) (by omega)) dX10_text_172 (fun n_119 en_119 => ?_)
                      refine as_m_sumFrom (x := n_119) hx hb hK hP hD hS (i_in (rfl : l_99.toInt = l_99.toInt) (by omega) (by omega)) dX10_text_173 (fun f_120 ef_120 H locs hP hD hS => ?_)
                      refine lv_aload_n hx hb dX10_text_174 rfl (lv_at hl 2 rfl) ?_
                      refine gt_MD_MD_codeFrom hx hb hts hown hK hP lwd_167 dX10_text_175 ?_
                      refine lv_iload_n hx hb dX10_text_178 rfl (lv_at hl 0 rfl) ?_
                      refine lv_aload_n hx hb dX10_text_179 rfl (lv_at hl 2 rfl) ?_
                      refine gt_MD_MD_newFrom hx hb hts hown hK hP lwd_173 dX10_text_180 ?_
                      refine lv_iload_n hx hb dX10_text_183 rfl (lv_at hl 0 rfl) ?_
                      refine al_m_newFrom hx hb hK hP (i_in (rfl : l_99.toInt = l_99.toInt) (by omega) (by omega)) dX10_text_184 (fun n_121 en_121 => ?_)
                      refine as_m_codeFrom (x := n_121) hx hb hK hP hD hS (i_in (rfl : l_99.toInt = l_99.toInt) (by omega) (by omega)) dX10_text_185 (fun f_122 ef_122 H locs hP hD hS => ?_)
                      refine lv_aload_n hx hb dX10_text_186 rfl (lv_at hl 2 rfl) ?_
                      refine gt_MD_MD_codeTo hx hb hts hown hK hP lwd_168 dX10_text_187 ?_
                      refine lv_iload_n hx hb dX10_text_190 rfl (lv_at hl 0 rfl) ?_
                      refine lv_aload_n hx hb dX10_text_191 rfl (lv_at hl 2 rfl) ?_
                      refine gt_MD_MD_newTo hx hb hts hown hK hP lwd_174 dX10_text_192 ?_
                      refine lv_iload_n hx hb dX10_text_195 rfl (lv_at hl 0 rfl) ?_
                      refine al_m_newTo hx hb hK hP (i_in (rfl : l_99.toInt = l_99.toInt) (by omega) (by omega)) dX10_text_196 (fun n_123 en_123 => ?_)
                      refine as_m_codeTo (x := n_123) hx hb hK hP hD hS (i_in (rfl : l_99.toInt = l_99.toInt) (by omega) (by omega)) dX10_text_197 (fun f_124 ef_124 H locs hP hD hS => ?_)
                      obtain ⟨n_125, en_125⟩ : ∃ y : Int32, y = l_99 + 1 := ⟨_, rfl⟩
                      have tn_125 : n_125.toInt = l_99.toInt + 1 := i_add en_125 (rfl : l_99.toInt = l_99.toInt) (by decide : (1 : Int32).toInt = 1) (by omega) (by omega)
                      refine lv_iinc (v := n_125) (lv' := [(3, .int n_125), (2, .int l_34), (0, .ref (hm 0)), (1, .int n1)]) hx hb dX10_text_198 hl (k := 0) rfl (by rw [en_125]; rfl) (by decide) rfl (fun ls hl => ?_)
                      refine lv_goto (tgt := 142) hx hb dX10_text_201 (by decide) ?_
                      exact ih142_100 f_118 f_122 f_124 f_120 n_125 (by omega) (fun j hj => by
                        rw [ef_120]
                        have e9 := i_ix (rfl : l_99.toInt = l_99.toInt)
                        by_cases q : j = l_99.toNatClampNeg
                        · rw [q, upd_at]; exact en_119
                        · rw [upd_off _ _ q]; exact hL142_100_1 j (by omega)) (fun j hj => by
                        rw [ef_122]
                        have e9 := i_ix (rfl : l_99.toInt = l_99.toInt)
                        by_cases q : j = l_99.toNatClampNeg
                        · rw [q, upd_at]; exact en_121
                        · rw [upd_off _ _ q]; exact hL142_100_2 j (by omega)) (fun j hj => by
                        rw [ef_124]
                        have e9 := i_ix (rfl : l_99.toInt = l_99.toInt)
                        by_cases q : j = l_99.toNatClampNeg
                        · rw [q, upd_at]; exact en_123
                        · rw [upd_off _ _ q]; exact hL142_100_3 j (by omega)) (by omega) _ _ _ hP hD hS (lv_sub hl [0, 1, 2, 3] rfl)
                have k_126 : (0 : Int32).toInt = 0 := by decide
                exact L142_100 8589934592 f_m_clauseLetter f_m_codeFrom f_m_codeTo f_m_sumFrom 0 (by omega) (fun j hj => absurd hj (by omega)) (fun j hj => absurd hj (by omega)) (fun j hj => absurd hj (by omega)) (by omega) _ _ _ hP hD hS (lv_sub hl [0, 1, 2, 3] rfl)
              · have gc_89 : w_35.toInt < 0 := i_nle (by decide : (0 : Int32).toInt = 0) (rfl : w_35.toInt = w_35.toInt) c_89
                refine lv_aload_n hx hb dX10_text_135 rfl (lv_at hl 1 rfl) ?_
                refine gt_MD_MD_bad hx hb hts hown hK hP lwd_402 dX10_text_136 ?_
                have k_127 : (0 : Int32).toInt = 0 := by decide
                exact hrt w_35 0 v_clauseMany w_41 n1 w_35 w_36 w_37 w_40 w_42 w_39 w_38 f_m_clauseLetter f_m_sumFrom f_m_codeFrom f_m_codeTo f_m_code f_m_codeArg f_30 f_31 f_29 f_32 f_28 f_27 f_33 ⟨hwf, (by omega), (by omega), (by omega), (by omega), (by omega), (by omega), (by omega), (by omega), (by omega), (by omega), (by omega)⟩ hP hD hS rfl dX10_text_139
            · have gc_88 : r_85.toInt ≠ 0 := i_ne (rfl : r_85.toInt = r_85.toInt) (by decide : (0 : Int32).toInt = 0) c_88
              refine lv_aload_n hx hb dX10_text_65 rfl (lv_at hl 1 rfl) ?_
              refine xv hD hS hA (xV (As := []) (rest := []) hx hb hml hown hts hK hP hD hS hA NT_ok hN hAe hl.1 ⟨Nat.le_refl _, Nat.le_refl _⟩ 0 rfl rfl rfl (c_X10_clause l D cy hm 0 v_walkers v_loads v_pieces v_changeCosts v_planned v_isMarch v_clauseMany w_41 n1 w_35 w_36 w_37 w_40 w_42 w_39 w_38 v_atW v_atL v_atT v_atH v_atM v_atI v_atQ v_packing v_packed v_goPace v_goMinutes v_spentAt v_ranChanges f_m_tape f_m_knee f_m_weight f_m_isLame f_m_loadWeight f_m_owner f_m_food f_m_miles f_m_slope f_m_clauseLetter f_m_sumFrom f_m_codeFrom f_m_codeTo f_m_code f_m_codeArg f_30 f_31 f_29 f_32 f_28 f_27 f_33 f_m_worth f_m_isRefused f_m_least f_m_packPounds f_m_packOwner f_m_room f_m_givenTo f_m_canBe f_m_setPounds f_m_plainTime f_m_muleTime f_m_planTo f_m_march f_m_tired f_m_ranMinutes f_m_tiredAhead f_m_isReached f_m_toEnd f_m_upTo f_m_upNext f_m_byChanges f_m_bandPaces H.size (by omega) (by omega) (by omega) (by omega) (by omega) (by omega) (by omega) (by omega) hr_m_tape (by omega) (by omega) (hL54_43_9 (by omega))) (gi_V lwd_410 lwd_411 lwd_412 lwd_5 lwd_413) ⟨rfl, hd_X10_clause⟩ ⟨Nat.le_of_ble_eq_true rfl, Nat.le_of_ble_eq_true rfl⟩ rfl (Nat.le_of_ble_eq_true rfl) dX10_text_66) (fun u_128 H locs hw hP hD hS => ?_)
              obtain ⟨zplace_130, zbad_131, zclauses_132, zcodes_133, zopen_134, zstacked_135, zisOver_136, zisBehind_137, znewLetter_138, znewSum_139, znewFrom_140, znewTo_141, znewCode_142, znewArg_143, zstack_144⟩ := u_128
              try dsimp only at hw hP hD
              obtain ⟨p_145, p_146, p_147, p_148, p_149, p_150, p_151, p_152, p_153, p_154⟩ := hw
              refine lv_aload_n hx hb dX10_text_69 rfl (lv_at hl 1 rfl) ?_
              refine xi hD hS hA (xV (As := []) (rest := []) hx hb hml hown hts hK hP hD hS hA NT_ok hN hAe hl.1 ⟨Nat.le_refl _, Nat.le_refl _⟩ 0 rfl rfl rfl (c_X10_isGood l D cy hm 0 v_walkers v_loads v_pieces v_changeCosts v_planned v_isMarch v_clauseMany zplace_130 n1 zbad_131 zclauses_132 zcodes_133 zopen_134 zstacked_135 zisOver_136 zisBehind_137 v_atW v_atL v_atT v_atH v_atM v_atI v_atQ v_packing v_packed v_goPace v_goMinutes v_spentAt v_ranChanges f_m_tape f_m_knee f_m_weight f_m_isLame f_m_loadWeight f_m_owner f_m_food f_m_miles f_m_slope f_m_clauseLetter f_m_sumFrom f_m_codeFrom f_m_codeTo f_m_code f_m_codeArg znewLetter_138 znewSum_139 znewFrom_140 znewTo_141 znewCode_142 znewArg_143 zstack_144 f_m_worth f_m_isRefused f_m_least f_m_packPounds f_m_packOwner f_m_room f_m_givenTo f_m_canBe f_m_setPounds f_m_plainTime f_m_muleTime f_m_planTo f_m_march f_m_tired f_m_ranMinutes f_m_tiredAhead f_m_isReached f_m_toEnd f_m_upTo f_m_upNext f_m_byChanges f_m_bandPaces H.size (by omega)) (gi_V lwd_406 lwd_407 lwd_408 lwd_5 lwd_409) ⟨rfl, hd_X10_isGood⟩ ⟨Nat.le_of_ble_eq_true rfl, Nat.le_of_ble_eq_true rfl⟩ rfl (Nat.le_of_ble_eq_true rfl) dX10_text_70) (fun r_156 u_155 H locs hw hP hD hS => ?_)
              try dsimp only at hw hP hD
              obtain ⟨p_157, p_158⟩ := hw
              refine lv_if_eq (tgt := 91) hx hb dX10_text_73 (by decide) (fun c_159 => ?_) (fun c_159 => ?_)
              · have gc_159 : r_156.toInt = 0 := i_eq (rfl : r_156.toInt = r_156.toInt) (by decide : (0 : Int32).toInt = 0) c_159
                refine lv_iconst (v := 0) hx hb dX10_text_91 (by decide) ?_
                refine lv_istore_n (lv' := [(2, .int 0), (0, .ref (hm 0)), (1, .int n1)]) hx hb dX10_text_92 rfl hl (by decide) rfl (fun ls hl => ?_)
                refine lv_iload_n hx hb dX10_text_93 rfl (lv_at hl 0 rfl) ?_
                refine lv_if_eq (tgt := 54) hx hb dX10_text_94 (by decide) (fun c_160 => ?_) (fun c_160 => ?_)
                · skip
                  have k_161 : (0 : Int32).toInt = 0 := by decide
                  exact ih54_43 znewArg_143 znewCode_142 znewFrom_140 znewLetter_138 znewSum_139 znewTo_141 zstack_144 0 zbad_131 zclauses_132 zcodes_133 zisBehind_137 zisOver_136 zopen_134 zplace_130 zstacked_135 (by omega) (by omega) (by omega) (by omega) (by omega) (by omega) (by omega) (by omega) (by omega) (fun h0 => p_147 (by omega)) (by omega) _ _ _ hP hD hS (lv_sub hl [0, 1, 2] rfl)
                · exact absurd c_160 (by decide)
              · have gc_159 : r_156.toInt ≠ 0 := i_ne (rfl : r_156.toInt = r_156.toInt) (by decide : (0 : Int32).toInt = 0) c_159
                refine lv_aload_n hx hb dX10_text_76 rfl (lv_at hl 1 rfl) ?_
                refine gt_MD_MD_place hx hb hts hown hK hP lwd_400 dX10_text_77 ?_
                refine lv_aload_n hx hb dX10_text_80 rfl (lv_at hl 1 rfl) ?_
                refine gt_MD_MD_end hx hb hts hown hK hP lwd_401 dX10_text_81 ?_
                refine lv_icmp_ge (tgt := 91) hx hb dX10_text_84 (by decide) (fun c_162 => ?_) (fun c_162 => ?_)
                · have gc_162 : n1.toInt ≤ zplace_130.toInt := i_le (rfl : n1.toInt = n1.toInt) (rfl : zplace_130.toInt = zplace_130.toInt) c_162
                  refine lv_iconst (v := 0) hx hb dX10_text_91 (by decide) ?_
                  refine lv_istore_n (lv' := [(2, .int 0), (0, .ref (hm 0)), (1, .int n1)]) hx hb dX10_text_92 rfl hl (by decide) rfl (fun ls hl => ?_)
                  refine lv_iload_n hx hb dX10_text_93 rfl (lv_at hl 0 rfl) ?_
                  refine lv_if_eq (tgt := 54) hx hb dX10_text_94 (by decide) (fun c_163 => ?_) (fun c_163 => ?_)
                  · skip
                    have k_164 : (0 : Int32).toInt = 0 := by decide
                    exact ih54_43 znewArg_143 znewCode_142 znewFrom_140 znewLetter_138 znewSum_139 znewTo_141 zstack_144 0 zbad_131 zclauses_132 zcodes_133 zisBehind_137 zisOver_136 zopen_134 zplace_130 zstacked_135 (by omega) (by omega) (by omega) (by omega) (by omega) (by omega) (by omega) (by omega) (by omega) (fun h0 => p_147 (by omega)) (by omega) _ _ _ hP hD hS (lv_sub hl [0, 1, 2] rfl)
                  · exact absurd c_163 (by decide)
                · have gc_162 : zplace_130.toInt < n1.toInt := i_nle (rfl : n1.toInt = n1.toInt) (rfl : zplace_130.toInt = zplace_130.toInt) c_162
                  refine lv_iconst (v := 1) hx hb dX10_text_87 (by decide) ?_
                  refine lv_goto (tgt := 92) hx hb dX10_text_88 (by decide) ?_
                  refine lv_istore_n (lv' := [(2, .int 1), (0, .ref (hm 0)), (1, .int n1)]) hx hb dX10_text_92 rfl hl (by decide) rfl (fun ls hl => ?_)
                  refine lv_iload_n hx hb dX10_text_93 rfl (lv_at hl 0 rfl) ?_
                  refine lv_if_eq (tgt := 54) hx hb dX10_text_94 (by decide) (fun c_165 => ?_) (fun c_165 => ?_)
                  · exact absurd c_165 (by decide)
                  · skip
                    refine lv_aload_n hx hb dX10_text_97 rfl (lv_at hl 1 rfl) ?_
                    refine xi hD hS hA (xV (As := []) (rest := []) hx hb hml hown hts hK hP hD hS hA NT_ok hN hAe hl.1 ⟨Nat.le_refl _, Nat.le_refl _⟩ 0 rfl rfl rfl (c_X10_here l D cy hm 0 v_walkers v_loads v_pieces v_changeCosts v_planned v_isMarch v_clauseMany zplace_130 n1 zbad_131 zclauses_132 zcodes_133 zopen_134 zstacked_135 zisOver_136 zisBehind_137 v_atW v_atL v_atT v_atH v_atM v_atI v_atQ v_packing v_packed v_goPace v_goMinutes v_spentAt v_ranChanges f_m_tape f_m_knee f_m_weight f_m_isLame f_m_loadWeight f_m_owner f_m_food f_m_miles f_m_slope f_m_clauseLetter f_m_sumFrom f_m_codeFrom f_m_codeTo f_m_code f_m_codeArg znewLetter_138 znewSum_139 znewFrom_140 znewTo_141 znewCode_142 znewArg_143 zstack_144 f_m_worth f_m_isRefused f_m_least f_m_packPounds f_m_packOwner f_m_room f_m_givenTo f_m_canBe f_m_setPounds f_m_plainTime f_m_muleTime f_m_planTo f_m_march f_m_tired f_m_ranMinutes f_m_tiredAhead f_m_isReached f_m_toEnd f_m_upTo f_m_upNext f_m_byChanges f_m_bandPaces H.size (by omega) (by omega) hr_m_tape) (gi_V lwd_416 lwd_417 lwd_418 lwd_5 lwd_419) ⟨rfl, hd_X10_here⟩ ⟨Nat.le_of_ble_eq_true rfl, Nat.le_of_ble_eq_true rfl⟩ rfl (Nat.le_of_ble_eq_true rfl) dX10_text_98) (fun r_167 u_166 H locs hw hP hD hS => ?_)
                    try dsimp only at hw hP hD
                    obtain ⟨p_168, p_169, p_170⟩ := hw
                    refine lv_bipush (v := 59) hx hb dX10_text_101 (by decide) ?_
                    refine lv_icmp_eq (tgt := 115) hx hb dX10_text_103 (by decide) (fun c_171 => ?_) (fun c_171 => ?_)
                    · have gc_171 : r_167.toInt = 59 := i_eq (rfl : r_167.toInt = r_167.toInt) (by decide : (59 : Int32).toInt = 59) c_171
                      refine lv_aload_n hx hb dX10_text_115 rfl (lv_at hl 1 rfl) ?_
                      refine lv_dup hx hb dX10_text_116 rfl ?_
                      refine gt_MD_MD_place hx hb hts hown hK hP lwd_400 dX10_text_117 ?_
                      refine lv_iconst (v := 1) hx hb dX10_text_120 (by decide) ?_
                      refine lv_iadd hx hb dX10_text_121 ?_
                      refine lv_topi (fun n_172 en_172 => ?_)
                      have tn_172 : n_172.toInt = zplace_130.toInt + 1 := i_add en_172 (rfl : zplace_130.toInt = zplace_130.toInt) (by decide : (1 : Int32).toInt = 1) (by omega) (by omega)
                      refine pt_MD_MD_place (x := n_172) hx hb hts hown hK hP hD hS lwd_400 dX10_text_122 (fun H locs hP hD hS => ?_)
                      refine lv_goto (tgt := 54) hx hb dX10_text_125 (by decide) ?_
                      have k_173 : (1 : Int32).toInt = 1 := by decide
                      exact ih54_43 znewArg_143 znewCode_142 znewFrom_140 znewLetter_138 znewSum_139 znewTo_141 zstack_144 1 zbad_131 zclauses_132 zcodes_133 zisBehind_137 zisOver_136 zopen_134 n_172 zstacked_135 (by omega) (by omega) (by omega) (by omega) (by omega) (by omega) (by omega) (by omega) (by omega) (fun h0 => p_147 (by omega)) (by omega) _ _ _ hP hD hS (lv_sub hl [0, 1, 2] rfl)
                    · have gc_171 : r_167.toInt ≠ 59 := i_ne (rfl : r_167.toInt = r_167.toInt) (by decide : (59 : Int32).toInt = 59) c_171
                      refine lv_aload_n hx hb dX10_text_106 rfl (lv_at hl 1 rfl) ?_
                      refine lv_iconst (v := 1) hx hb dX10_text_107 (by decide) ?_
                      refine lv_aload_n hx hb dX10_text_108 rfl (lv_at hl 1 rfl) ?_
                      refine gt_MD_MD_place hx hb hts hown hK hP lwd_400 dX10_text_109 ?_
                      have k_174 : (1 : Int32).toInt = 1 := by decide
                      refine xv hD hS hA (xV (As := [.int 1, .int zplace_130]) (rest := []) hx hb hml hown hts hK hP hD hS hA NT_ok hN hAe hl.1 ⟨Nat.le_refl _, Nat.le_refl _⟩ 0 rfl rfl rfl (c_X10_wrongs l D cy hm 0 v_walkers v_loads v_pieces v_changeCosts v_planned v_isMarch v_clauseMany zplace_130 n1 zbad_131 zclauses_132 zcodes_133 zopen_134 zstacked_135 zisOver_136 zisBehind_137 v_atW v_atL v_atT v_atH v_atM v_atI v_atQ v_packing v_packed v_goPace v_goMinutes v_spentAt v_ranChanges f_m_tape f_m_knee f_m_weight f_m_isLame f_m_loadWeight f_m_owner f_m_food f_m_miles f_m_slope f_m_clauseLetter f_m_sumFrom f_m_codeFrom f_m_codeTo f_m_code f_m_codeArg znewLetter_138 znewSum_139 znewFrom_140 znewTo_141 znewCode_142 znewArg_143 zstack_144 f_m_worth f_m_isRefused f_m_least f_m_packPounds f_m_packOwner f_m_room f_m_givenTo f_m_canBe f_m_setPounds f_m_plainTime f_m_muleTime f_m_planTo f_m_march f_m_tired f_m_ranMinutes f_m_tiredAhead f_m_isReached f_m_toEnd f_m_upTo f_m_upNext f_m_byChanges f_m_bandPaces H.size 1 zplace_130 (by omega) (by omega) (by omega)) (gi_V lwd_420 lwd_421 lwd_422 lwd_5 lwd_423) ⟨rfl, hd_X10_wrongs⟩ ⟨Nat.le_of_ble_eq_true rfl, Nat.le_of_ble_eq_true rfl⟩ rfl (Nat.le_of_ble_eq_true rfl) dX10_text_112) (fun u_175 H locs hw hP hD hS => ?_)
                      obtain ⟨zbad_177, rfl⟩ : ∃ z, z = u_175 := ⟨_, rfl⟩
                      try dsimp only at hw hP hD
                      obtain ⟨p_178, p_179⟩ := hw
                      refine lv_aload_n hx hb dX10_text_115 rfl (lv_at hl 1 rfl) ?_
                      refine lv_dup hx hb dX10_text_116 rfl ?_
                      refine gt_MD_MD_place hx hb hts hown hK hP lwd_400 dX10_text_117 ?_
                      refine lv_iconst (v := 1) hx hb dX10_text_120 (by decide) ?_
                      refine lv_iadd hx hb dX10_text_121 ?_
                      refine lv_topi (fun n_180 en_180 => ?_)
                      have tn_180 : n_180.toInt = zplace_130.toInt + 1 := i_add en_180 (rfl : zplace_130.toInt = zplace_130.toInt) (by decide : (1 : Int32).toInt = 1) (by omega) (by omega)
                      refine pt_MD_MD_place (x := n_180) hx hb hts hown hK hP hD hS lwd_400 dX10_text_122 (fun H locs hP hD hS => ?_)
                      refine lv_goto (tgt := 54) hx hb dX10_text_125 (by decide) ?_
                      have k_181 : (1 : Int32).toInt = 1 := by decide
                      exact ih54_43 znewArg_143 znewCode_142 znewFrom_140 znewLetter_138 znewSum_139 znewTo_141 zstack_144 1 zbad_177 zclauses_132 zcodes_133 zisBehind_137 zisOver_136 zopen_134 n_180 zstacked_135 (by omega) (by omega) (by omega) (by omega) (by omega) (by omega) (by omega) (by omega) (by omega) (fun h0 => p_147 (by omega)) (by omega) _ _ _ hP hD hS (lv_sub hl [0, 1, 2] rfl)
      have k_182 : (1 : Int32).toInt = 1 := by decide
      have k_183 : (0 : Int32).toInt = 0 := by decide
      have k_184 : (0 : Int32).toInt = 0 := by decide
      have k_185 : (0 : Int32).toInt = 0 := by decide
      have k_186 : (0 : Int32).toInt = 0 := by decide
      exact L54_43 8589934592 f_m_newArg f_m_newCode f_m_newFrom f_m_newLetter f_m_newSum f_m_newTo f_m_stack 1 0 0 0 v_isBehind v_isOver v_open 0 v_stacked (by omega) (by omega) (by omega) (by omega) (by omega) (by omega) (by omega) (by omega) (by omega) (fun _ => ⟨fun k hk => absurd hk (by have q1 : (0 : Int32).toInt = 0 := (by decide); omega), fun k hk => absurd hk (by have q1 : (0 : Int32).toInt = 0 := (by decide); omega)⟩) (by omega) _ _ _ hP hD hS (lv_sub hl [0, 1, 2] rfl)
    · have gc_10 : v_taped.toInt < n1.toInt := i_nle (rfl : n1.toInt = n1.toInt) (rfl : v_taped.toInt = v_taped.toInt) c_10
      refine lv_iconst (v := (-1)) hx hb dX10_text_20 (by decide) ?_
      have k_187 : ((-1) : Int32).toInt = (-1) := by decide
      exact hrt (-1) v_taped v_clauseMany v_place v_end v_bad v_clauses v_codes v_open v_stacked v_isOver v_isBehind f_m_clauseLetter f_m_sumFrom f_m_codeFrom f_m_codeTo f_m_code f_m_codeArg f_m_newLetter f_m_newSum f_m_newFrom f_m_newTo f_m_newCode f_m_newArg f_m_stack ⟨hwf, (by omega), (by omega), (by omega), (by omega), (by omega), (by omega), (by omega), (by omega), (by omega), (by omega), (by omega)⟩ hP hD hS rfl dX10_text_21
