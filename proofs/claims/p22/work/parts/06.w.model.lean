set_option maxHeartbeats 16000000 in
set_option maxRecDepth 100000 in
theorem c_X10_goesBehind (l : Launch) (D : va_G) (cy : Nat → ClassId) (hm : Nat → Nat) (v_taped v_walkers v_loads v_pieces v_changeCosts v_planned v_isMarch v_clauseMany v_place v_end v_bad v_clauses v_codes v_open v_stacked v_isOver v_isBehind v_atW v_atL v_atT v_atH v_atM v_atI v_atQ v_packing v_packed v_goPace v_goMinutes v_spentAt v_ranChanges : Int32) (f_m_tape f_m_knee f_m_weight f_m_isLame f_m_loadWeight f_m_owner f_m_food f_m_miles f_m_slope f_m_clauseLetter f_m_sumFrom f_m_codeFrom f_m_codeTo f_m_code f_m_codeArg f_m_newLetter f_m_newSum f_m_newFrom f_m_newTo f_m_newCode f_m_newArg f_m_stack f_m_worth f_m_isRefused f_m_least f_m_packPounds f_m_packOwner f_m_room f_m_givenTo f_m_canBe f_m_setPounds f_m_plainTime f_m_muleTime f_m_planTo f_m_march f_m_tired f_m_ranMinutes f_m_tiredAhead f_m_isReached f_m_toEnd f_m_upTo f_m_upNext f_m_byChanges f_m_bandPaces : Nat → Int32) (sz : Nat) (c0 : Nat → Int32) (F : Nat) (hb_v_place : 0 ≤ v_place.toInt ∧ v_place.toInt ≤ 200) (hb_v_end : 0 ≤ v_end.toInt ∧ v_end.toInt ≤ 200) (hb_v_bad : -6000 ≤ v_bad.toInt ∧ v_bad.toInt ≤ 0) (hb_v_codes : 0 ≤ v_codes.toInt ∧ v_codes.toInt ≤ 200) (hb_v_stacked : 0 ≤ v_stacked.toInt ∧ v_stacked.toInt ≤ 200) (hb_v_isOver : 0 ≤ v_isOver.toInt ∧ v_isOver.toInt ≤ 1) (hr_m_tape : rg (-128) 127 f_m_tape) (hg : v_bad.toInt = 0) (hj : v_place.toInt ≤ v_end.toInt ∧ v_codes.toInt + v_stacked.toInt ≤ v_place.toInt) (hv : CS c0 F f_m_stack f_m_newCode v_stacked v_codes 1) : gMi l yX10_goesBehind cX10_goesBehind 2 .boolean 4 [.ref (hm 0)] D cy (wMD cy hm v_taped v_walkers v_loads v_pieces v_changeCosts v_planned v_isMarch v_clauseMany v_place v_end v_bad v_clauses v_codes v_open v_stacked v_isOver v_isBehind v_atW v_atL v_atT v_atH v_atM v_atI v_atQ v_packing v_packed v_goPace v_goMinutes v_spentAt v_ranChanges f_m_tape f_m_knee f_m_weight f_m_isLame f_m_loadWeight f_m_owner f_m_food f_m_miles f_m_slope f_m_clauseLetter f_m_sumFrom f_m_codeFrom f_m_codeTo f_m_code f_m_codeArg f_m_newLetter f_m_newSum f_m_newFrom f_m_newTo f_m_newCode f_m_newArg f_m_stack f_m_worth f_m_isRefused f_m_least f_m_packPounds f_m_packOwner f_m_room f_m_givenTo f_m_canBe f_m_setPounds f_m_plainTime f_m_muleTime f_m_planTo f_m_march f_m_tired f_m_ranMinutes f_m_tiredAhead f_m_isReached f_m_toEnd f_m_upTo f_m_upNext f_m_byChanges f_m_bandPaces) NT sz (fun (r : Int32) (u : Int32 × Int32 × Int32 × Int32 × Int32 × Int32 × (Nat → Int32) × (Nat → Int32) × (Nat → Int32)) => (0 ≤ r.toInt ∧ r.toInt ≤ 1) ∧ ((u.1).toInt ≤ v_end.toInt ∧ (u.2.2.1).toInt + (u.2.2.2.2.1).toInt ≤ (u.1).toInt) ∧ (v_place.toInt ≤ (u.1).toInt ∧ (u.2.1).toInt ≤ v_bad.toInt ∧ ((u.2.1).toInt < 0 ∨ v_place.toInt < (u.1).toInt)) ∧ ((u.2.1).toInt = 0 → ((u.2.2.2.2.2.1).toInt = 1 ∧ r.toInt = 0 ∧ dA (u.2.2.2.2.2.2.1) F (u.2.2.1) 1 ∧ (∀ j, j < F → (u.2.2.2.2.2.2.1) j = c0 j)) ∨ ((u.2.2.2.2.2.1).toInt = v_isOver.toInt ∧ r.toInt = 1 ∧ CS c0 F (u.2.2.2.2.2.2.2.2) (u.2.2.2.2.2.2.1) (u.2.2.2.2.1) (u.2.2.1) 0) ∨ ((u.2.2.2.2.2.1).toInt = 0 ∧ r.toInt = 0 ∧ CS c0 F (u.2.2.2.2.2.2.2.2) (u.2.2.2.2.2.2.1) (u.2.2.2.2.1) (u.2.2.1) 1)) ∧ (0 ≤ (u.1).toInt ∧ (u.1).toInt ≤ 200) ∧ (-6000 ≤ (u.2.1).toInt ∧ (u.2.1).toInt ≤ 0) ∧ (0 ≤ (u.2.2.1).toInt ∧ (u.2.2.1).toInt ≤ 200) ∧ (0 ≤ (u.2.2.2.2.1).toInt ∧ (u.2.2.2.2.1).toInt ≤ 200) ∧ (0 ≤ (u.2.2.2.2.2.1).toInt ∧ (u.2.2.2.2.2.1).toInt ≤ 1)) (fun u => wMD cy hm v_taped v_walkers v_loads v_pieces v_changeCosts v_planned v_isMarch v_clauseMany (u.1) v_end (u.2.1) v_clauses (u.2.2.1) (u.2.2.2.1) (u.2.2.2.2.1) (u.2.2.2.2.2.1) v_isBehind v_atW v_atL v_atT v_atH v_atM v_atI v_atQ v_packing v_packed v_goPace v_goMinutes v_spentAt v_ranChanges f_m_tape f_m_knee f_m_weight f_m_isLame f_m_loadWeight f_m_owner f_m_food f_m_miles f_m_slope f_m_clauseLetter f_m_sumFrom f_m_codeFrom f_m_codeTo f_m_code f_m_codeArg f_m_newLetter f_m_newSum f_m_newFrom f_m_newTo (u.2.2.2.2.2.2.1) (u.2.2.2.2.2.2.2.1) (u.2.2.2.2.2.2.2.2) f_m_worth f_m_isRefused f_m_least f_m_packPounds f_m_packOwner f_m_room f_m_givenTo f_m_canBe f_m_setPounds f_m_plainTime f_m_muleTime f_m_planTo f_m_march f_m_tired f_m_ranMinutes f_m_tiredAhead f_m_isReached f_m_toEnd f_m_upTo f_m_upNext f_m_byChanges f_m_bandPaces) := by
  refine gMi_in (by decide) (Nat.le_of_ble_eq_true rfl) ?_
  intro p e s m args below meth c A ls Q hx hb hml hts hown hsz hP hK hD hN hAe hA hS hl hret
  subst hsz
  have hl : lv_has ls 2 [(0, .ref (hm 0))] := hl
  have hrt := fun (r : Int32) (v_place' : Int32) (v_bad' : Int32) (v_codes' : Int32) (v_open' : Int32) (v_stacked' : Int32) (v_isOver' : Int32) (f_m_newCode' : Nat → Int32) (f_m_newArg' : Nat → Int32) (f_m_stack' : Nat → Int32) (hp : (0 ≤ r.toInt ∧ r.toInt ≤ 1) ∧ (v_place'.toInt ≤ v_end.toInt ∧ v_codes'.toInt + v_stacked'.toInt ≤ v_place'.toInt) ∧ (v_place.toInt ≤ v_place'.toInt ∧ v_bad'.toInt ≤ v_bad.toInt ∧ (v_bad'.toInt < 0 ∨ v_place.toInt < v_place'.toInt)) ∧ (v_bad'.toInt = 0 → (v_isOver'.toInt = 1 ∧ r.toInt = 0 ∧ dA f_m_newCode' F v_codes' 1 ∧ (∀ j, j < F → f_m_newCode' j = c0 j)) ∨ (v_isOver'.toInt = v_isOver.toInt ∧ r.toInt = 1 ∧ CS c0 F f_m_stack' f_m_newCode' v_stacked' v_codes' 0) ∨ (v_isOver'.toInt = 0 ∧ r.toInt = 0 ∧ CS c0 F f_m_stack' f_m_newCode' v_stacked' v_codes' 1)) ∧ (0 ≤ v_place'.toInt ∧ v_place'.toInt ≤ 200) ∧ (-6000 ≤ v_bad'.toInt ∧ v_bad'.toInt ≤ 0) ∧ (0 ≤ v_codes'.toInt ∧ v_codes'.toInt ≤ 200) ∧ (0 ≤ v_stacked'.toInt ∧ v_stacked'.toInt ≤ 200) ∧ (0 ≤ v_isOver'.toInt ∧ v_isOver'.toInt ≤ 1)) {H : Heap} {locs : List Loc} {pc : Nat} {ls : Array Slot} => hret r (v_place', v_bad', v_codes', v_open', v_stacked', v_isOver', f_m_newCode', f_m_newArg', f_m_stack') (H := H) (locs := locs) (pc := pc) (ls := ls) hp
  clear hret
  refine lv_aload_n hx hb dX10_goesBehind_0 rfl (lv_at hl 0 rfl) ?_
  refine xi hD hS hA (xV (As := []) (rest := []) hx hb hml hown hts hK hP hD hS hA NT_ok hN hAe hl.1 ⟨Nat.le_refl _, Nat.le_refl _⟩ 0 rfl rfl rfl (c_X10_here l D cy hm v_taped v_walkers v_loads v_pieces v_changeCosts v_planned v_isMarch v_clauseMany v_place v_end v_bad v_clauses v_codes v_open v_stacked v_isOver v_isBehind v_atW v_atL v_atT v_atH v_atM v_atI v_atQ v_packing v_packed v_goPace v_goMinutes v_spentAt v_ranChanges f_m_tape f_m_knee f_m_weight f_m_isLame f_m_loadWeight f_m_owner f_m_food f_m_miles f_m_slope f_m_clauseLetter f_m_sumFrom f_m_codeFrom f_m_codeTo f_m_code f_m_codeArg f_m_newLetter f_m_newSum f_m_newFrom f_m_newTo f_m_newCode f_m_newArg f_m_stack f_m_worth f_m_isRefused f_m_least f_m_packPounds f_m_packOwner f_m_room f_m_givenTo f_m_canBe f_m_setPounds f_m_plainTime f_m_muleTime f_m_planTo f_m_march f_m_tired f_m_ranMinutes f_m_tiredAhead f_m_isReached f_m_toEnd f_m_upTo f_m_upNext f_m_byChanges f_m_bandPaces s.heap.size (by omega) (by omega) hr_m_tape) (gi_V lwd_416 lwd_417 lwd_418 lwd_5 lwd_419) ⟨rfl, hd_X10_here⟩ ⟨Nat.le_of_ble_eq_true rfl, Nat.le_of_ble_eq_true rfl⟩ rfl (Nat.le_of_ble_eq_true rfl) dX10_goesBehind_1) (fun r_2 u_1 H locs hw hP hD hS => ?_)
  try dsimp only at hw hP hD
  obtain ⟨p_3, p_4, p_5⟩ := hw
  refine lv_istore_n (lv' := [(1, .int r_2), (0, .ref (hm 0))]) hx hb dX10_goesBehind_4 rfl hl (by decide) rfl (fun ls hl => ?_)
  refine lv_iload_n hx hb dX10_goesBehind_5 rfl (lv_at hl 0 rfl) ?_
  refine lv_bipush (v := 38) hx hb dX10_goesBehind_6 (by decide) ?_
  refine lv_icmp_eq (tgt := 17) hx hb dX10_goesBehind_8 (by decide) (fun c_6 => ?_) (fun c_6 => ?_)
  · have gc_6 : r_2.toInt = 38 := i_eq (rfl : r_2.toInt = r_2.toInt) (by decide : (38 : Int32).toInt = 38) c_6
    refine lv_aload_n hx hb dX10_goesBehind_17 rfl (lv_at hl 1 rfl) ?_
    refine lv_iload_n hx hb dX10_goesBehind_18 rfl (lv_at hl 0 rfl) ?_
    refine lv_bipush (v := 124) hx hb dX10_goesBehind_19 (by decide) ?_
    refine lv_icmp_ne (tgt := 28) hx hb dX10_goesBehind_21 (by decide) (fun c_7 => ?_) (fun c_7 => ?_)
    · have gc_7 : r_2.toInt ≠ 124 := i_ne (rfl : r_2.toInt = r_2.toInt) (by decide : (124 : Int32).toInt = 124) c_7
      refine lv_iconst (v := 0) hx hb dX10_goesBehind_28 (by decide) ?_
      have k_8 : (0 : Int32).toInt = 0 := by decide
      refine xv hD hS hA (xV (As := [.int 0]) (rest := []) hx hb hml hown hts hK hP hD hS hA NT_ok hN hAe hl.1 ⟨Nat.le_refl _, Nat.le_refl _⟩ 0 rfl rfl rfl (c_X10_joins l D cy hm v_taped v_walkers v_loads v_pieces v_changeCosts v_planned v_isMarch v_clauseMany v_place v_end v_bad v_clauses v_codes v_open v_stacked v_isOver v_isBehind v_atW v_atL v_atT v_atH v_atM v_atI v_atQ v_packing v_packed v_goPace v_goMinutes v_spentAt v_ranChanges f_m_tape f_m_knee f_m_weight f_m_isLame f_m_loadWeight f_m_owner f_m_food f_m_miles f_m_slope f_m_clauseLetter f_m_sumFrom f_m_codeFrom f_m_codeTo f_m_code f_m_codeArg f_m_newLetter f_m_newSum f_m_newFrom f_m_newTo f_m_newCode f_m_newArg f_m_stack f_m_worth f_m_isRefused f_m_least f_m_packPounds f_m_packOwner f_m_room f_m_givenTo f_m_canBe f_m_setPounds f_m_plainTime f_m_muleTime f_m_planTo f_m_march f_m_tired f_m_ranMinutes f_m_tiredAhead f_m_isReached f_m_toEnd f_m_upTo f_m_upNext f_m_byChanges f_m_bandPaces H.size 0 c0 F (by omega) (by omega) (by omega) (by omega) (by omega) (by omega) (by omega) (by omega) (by omega)) (gi_V lwd_496 lwd_497 lwd_498 lwd_5 lwd_499) ⟨rfl, hd_X10_joins⟩ ⟨Nat.le_of_ble_eq_true rfl, Nat.le_of_ble_eq_true rfl⟩ rfl (Nat.le_of_ble_eq_true rfl) dX10_goesBehind_29) (fun u_9 H locs hw hP hD hS => ?_)
      obtain ⟨zcodes_11, zstacked_12, znewCode_13, znewArg_14⟩ := u_9
      try dsimp only at hw hP hD
      obtain ⟨p_15, p_16, p_17, p_18, p_19⟩ := hw
      refine lv_aload_n hx hb dX10_goesBehind_32 rfl (lv_at hl 1 rfl) ?_
      refine lv_iload_n hx hb dX10_goesBehind_33 rfl (lv_at hl 0 rfl) ?_
      refine xv hD hS hA (xV (As := [.int r_2]) (rest := []) hx hb hml hown hts hK hP hD hS hA NT_ok hN hAe hl.1 ⟨Nat.le_refl _, Nat.le_refl _⟩ 0 rfl rfl rfl (c_X10_puts l D cy hm v_taped v_walkers v_loads v_pieces v_changeCosts v_planned v_isMarch v_clauseMany v_place v_end v_bad v_clauses zcodes_11 v_open zstacked_12 v_isOver v_isBehind v_atW v_atL v_atT v_atH v_atM v_atI v_atQ v_packing v_packed v_goPace v_goMinutes v_spentAt v_ranChanges f_m_tape f_m_knee f_m_weight f_m_isLame f_m_loadWeight f_m_owner f_m_food f_m_miles f_m_slope f_m_clauseLetter f_m_sumFrom f_m_codeFrom f_m_codeTo f_m_code f_m_codeArg f_m_newLetter f_m_newSum f_m_newFrom f_m_newTo znewCode_13 znewArg_14 f_m_stack f_m_worth f_m_isRefused f_m_least f_m_packPounds f_m_packOwner f_m_room f_m_givenTo f_m_canBe f_m_setPounds f_m_plainTime f_m_muleTime f_m_planTo f_m_march f_m_tired f_m_ranMinutes f_m_tiredAhead f_m_isReached f_m_toEnd f_m_upTo f_m_upNext f_m_byChanges f_m_bandPaces H.size r_2 (by omega) (by omega) (by omega)) (gi_V lwd_437 lwd_438 lwd_439 lwd_5 lwd_440) ⟨rfl, hd_X10_puts⟩ ⟨Nat.le_of_ble_eq_true rfl, Nat.le_of_ble_eq_true rfl⟩ rfl (Nat.le_of_ble_eq_true rfl) dX10_goesBehind_34) (fun u_20 H locs hw hP hD hS => ?_)
      obtain ⟨zplace_22, zstacked_23, zstack_24⟩ := u_20
      try dsimp only at hw hP hD
      obtain ⟨p_25, p_26, p_27, p_28⟩ := hw
      refine lv_iconst (v := 1) hx hb dX10_goesBehind_37 (by decide) ?_
      have k_29 : (1 : Int32).toInt = 1 := by decide
      exact hrt 1 zplace_22 v_bad zcodes_11 v_open zstacked_23 v_isOver znewCode_13 znewArg_14 zstack_24 ⟨(by omega), (by omega), (by omega), (fun h0 => Or.inr (Or.inl ⟨by omega, by decide, by rw [p_25]; exact CS_push p_16 (by omega) (by omega) (by unfold isC; omega) (by rw [if_pos (by omega)])⟩)), (by omega), (by omega), (by omega), (by omega), (by omega)⟩ hP hD hS rfl dX10_goesBehind_38
    · have gc_7 : r_2.toInt = 124 := i_eq (rfl : r_2.toInt = r_2.toInt) (by decide : (124 : Int32).toInt = 124) c_7
      exact absurd gc_7 (by omega)
  · have gc_6 : r_2.toInt ≠ 38 := i_ne (rfl : r_2.toInt = r_2.toInt) (by decide : (38 : Int32).toInt = 38) c_6
    refine lv_iload_n hx hb dX10_goesBehind_11 rfl (lv_at hl 0 rfl) ?_
    refine lv_bipush (v := 124) hx hb dX10_goesBehind_12 (by decide) ?_
    refine lv_icmp_ne (tgt := 39) hx hb dX10_goesBehind_14 (by decide) (fun c_30 => ?_) (fun c_30 => ?_)
    · have gc_30 : r_2.toInt ≠ 124 := i_ne (rfl : r_2.toInt = r_2.toInt) (by decide : (124 : Int32).toInt = 124) c_30
      refine lv_iload_n hx hb dX10_goesBehind_39 rfl (lv_at hl 0 rfl) ?_
      refine lv_bipush (v := 41) hx hb dX10_goesBehind_40 (by decide) ?_
      refine lv_icmp_eq (tgt := 56) hx hb dX10_goesBehind_42 (by decide) (fun c_31 => ?_) (fun c_31 => ?_)
      · have gc_31 : r_2.toInt = 41 := i_eq (rfl : r_2.toInt = r_2.toInt) (by decide : (41 : Int32).toInt = 41) c_31
        refine lv_aload_n hx hb dX10_goesBehind_56 rfl (lv_at hl 1 rfl) ?_
        refine lv_iconst (v := 1) hx hb dX10_goesBehind_57 (by decide) ?_
        have k_32 : (1 : Int32).toInt = 1 := by decide
        refine xv hD hS hA (xV (As := [.int 1]) (rest := []) hx hb hml hown hts hK hP hD hS hA NT_ok hN hAe hl.1 ⟨Nat.le_refl _, Nat.le_refl _⟩ 0 rfl rfl rfl (c_X10_joins l D cy hm v_taped v_walkers v_loads v_pieces v_changeCosts v_planned v_isMarch v_clauseMany v_place v_end v_bad v_clauses v_codes v_open v_stacked v_isOver v_isBehind v_atW v_atL v_atT v_atH v_atM v_atI v_atQ v_packing v_packed v_goPace v_goMinutes v_spentAt v_ranChanges f_m_tape f_m_knee f_m_weight f_m_isLame f_m_loadWeight f_m_owner f_m_food f_m_miles f_m_slope f_m_clauseLetter f_m_sumFrom f_m_codeFrom f_m_codeTo f_m_code f_m_codeArg f_m_newLetter f_m_newSum f_m_newFrom f_m_newTo f_m_newCode f_m_newArg f_m_stack f_m_worth f_m_isRefused f_m_least f_m_packPounds f_m_packOwner f_m_room f_m_givenTo f_m_canBe f_m_setPounds f_m_plainTime f_m_muleTime f_m_planTo f_m_march f_m_tired f_m_ranMinutes f_m_tiredAhead f_m_isReached f_m_toEnd f_m_upTo f_m_upNext f_m_byChanges f_m_bandPaces H.size 1 c0 F (by omega) (by omega) (by omega) (by omega) (by omega) (by omega) (by omega) (by omega) (by omega)) (gi_V lwd_496 lwd_497 lwd_498 lwd_5 lwd_499) ⟨rfl, hd_X10_joins⟩ ⟨Nat.le_of_ble_eq_true rfl, Nat.le_of_ble_eq_true rfl⟩ rfl (Nat.le_of_ble_eq_true rfl) dX10_goesBehind_58) (fun u_33 H locs hw hP hD hS => ?_)
        obtain ⟨zcodes_35, zstacked_36, znewCode_37, znewArg_38⟩ := u_33
        try dsimp only at hw hP hD
        obtain ⟨p_39, p_40, p_41, p_42, p_43⟩ := hw
        have hs9 := CS_pos p_40
        refine lv_aload_n hx hb dX10_goesBehind_61 rfl (lv_at hl 1 rfl) ?_
        refine lv_dup hx hb dX10_goesBehind_62 rfl ?_
        refine gt_MD_MD_stacked hx hb hts hown hK hP lwd_414 dX10_goesBehind_63 ?_
        refine lv_iconst (v := 1) hx hb dX10_goesBehind_66 (by decide) ?_
        refine lv_isub hx hb dX10_goesBehind_67 ?_
        refine lv_topi (fun n_44 en_44 => ?_)
        have tn_44 : n_44.toInt = zstacked_36.toInt - 1 := i_sub en_44 (rfl : zstacked_36.toInt = zstacked_36.toInt) (by decide : (1 : Int32).toInt = 1) (by omega) (by omega)
        refine pt_MD_MD_stacked (x := n_44) hx hb hts hown hK hP hD hS lwd_414 dX10_goesBehind_68 (fun H locs hP hD hS => ?_)
        refine lv_aload_n hx hb dX10_goesBehind_71 rfl (lv_at hl 1 rfl) ?_
        refine lv_dup hx hb dX10_goesBehind_72 rfl ?_
        refine gt_MD_MD_open hx hb hts hown hK hP lwd_415 dX10_goesBehind_73 ?_
        refine lv_iconst (v := 1) hx hb dX10_goesBehind_76 (by decide) ?_
        refine lv_isub hx hb dX10_goesBehind_77 ?_
        refine lv_topi (fun n_45 en_45 => ?_)
        refine pt_MD_MD_open (x := n_45) hx hb hts hown hK hP hD hS lwd_415 dX10_goesBehind_78 (fun H locs hP hD hS => ?_)
        refine lv_aload_n hx hb dX10_goesBehind_81 rfl (lv_at hl 1 rfl) ?_
        refine lv_dup hx hb dX10_goesBehind_82 rfl ?_
        refine gt_MD_MD_place hx hb hts hown hK hP lwd_400 dX10_goesBehind_83 ?_
        refine lv_iconst (v := 1) hx hb dX10_goesBehind_86 (by decide) ?_
        refine lv_iadd hx hb dX10_goesBehind_87 ?_
        refine lv_topi (fun n_46 en_46 => ?_)
        have tn_46 : n_46.toInt = v_place.toInt + 1 := i_add en_46 (rfl : v_place.toInt = v_place.toInt) (by decide : (1 : Int32).toInt = 1) (by omega) (by omega)
        refine pt_MD_MD_place (x := n_46) hx hb hts hown hK hP hD hS lwd_400 dX10_goesBehind_88 (fun H locs hP hD hS => ?_)
        refine lv_aload_n hx hb dX10_goesBehind_91 rfl (lv_at hl 1 rfl) ?_
        refine lv_aload_n hx hb dX10_goesBehind_92 rfl (lv_at hl 1 rfl) ?_
        refine gt_MD_MD_stacked hx hb hts hown hK hP lwd_414 dX10_goesBehind_93 ?_
        refine lv_if_ne (tgt := 103) hx hb dX10_goesBehind_96 (by decide) (fun c_47 => ?_) (fun c_47 => ?_)
        · have gc_47 : zstacked_36.toInt - 1 ≠ 0 := i_ne tn_44 (by decide : (0 : Int32).toInt = 0) c_47
          refine lv_iconst (v := 0) hx hb dX10_goesBehind_103 (by decide) ?_
          refine pt_MD_MD_isOver (x := 0) hx hb hts hown hK hP hD hS lwd_480 (by decide) dX10_goesBehind_104 (fun H locs hP hD hS => ?_)
          refine lv_aload_n hx hb dX10_goesBehind_107 rfl (lv_at hl 1 rfl) ?_
          refine gt_MD_MD_isOver hx hb hts hown hK hP lwd_480 dX10_goesBehind_108 ?_
          refine lv_if_ne (tgt := 118) hx hb dX10_goesBehind_111 (by decide) (fun c_48 => ?_) (fun c_48 => ?_)
          · exact absurd c_48 (by decide)
          · skip
            refine lv_aload_n hx hb dX10_goesBehind_114 rfl (lv_at hl 1 rfl) ?_
            refine xv hD hS hA (xV (As := []) (rest := []) hx hb hml hown hts hK hP hD hS hA NT_ok hN hAe hl.1 ⟨Nat.le_refl _, Nat.le_refl _⟩ 0 rfl rfl rfl (c_X10_ends l D cy hm v_taped v_walkers v_loads v_pieces v_changeCosts v_planned v_isMarch v_clauseMany n_46 v_end v_bad v_clauses zcodes_35 n_45 n_44 0 v_isBehind v_atW v_atL v_atT v_atH v_atM v_atI v_atQ v_packing v_packed v_goPace v_goMinutes v_spentAt v_ranChanges f_m_tape f_m_knee f_m_weight f_m_isLame f_m_loadWeight f_m_owner f_m_food f_m_miles f_m_slope f_m_clauseLetter f_m_sumFrom f_m_codeFrom f_m_codeTo f_m_code f_m_codeArg f_m_newLetter f_m_newSum f_m_newFrom f_m_newTo znewCode_37 znewArg_38 f_m_stack f_m_worth f_m_isRefused f_m_least f_m_packPounds f_m_packOwner f_m_room f_m_givenTo f_m_canBe f_m_setPounds f_m_plainTime f_m_muleTime f_m_planTo f_m_march f_m_tired f_m_ranMinutes f_m_tiredAhead f_m_isReached f_m_toEnd f_m_upTo f_m_upNext f_m_byChanges f_m_bandPaces H.size c0 F (by omega) (by omega) (by omega) (by omega) (by omega) (by omega) (by omega) ((CS_closeT p_40 (by have q := p_41; have q1 : (1 : Int32).toInt = 1 := (by decide); omega) (by omega)).2 (by omega))) (gi_V lwd_488 lwd_489 lwd_490 lwd_5 lwd_491) ⟨rfl, hd_X10_ends⟩ ⟨Nat.le_of_ble_eq_true rfl, Nat.le_of_ble_eq_true rfl⟩ rfl (Nat.le_of_ble_eq_true rfl) dX10_goesBehind_115) (fun u_49 H locs hw hP hD hS => ?_)
            obtain ⟨zcodes_51, zopen_52, zstacked_53, znewCode_54, znewArg_55⟩ := u_49
            try dsimp only at hw hP hD
            obtain ⟨p_56, p_57, p_58, p_59⟩ := hw
            refine lv_iconst (v := 0) hx hb dX10_goesBehind_118 (by decide) ?_
            have k_60 : (0 : Int32).toInt = 0 := by decide
            have k_61 : (0 : Int32).toInt = 0 := by decide
            exact hrt 0 n_46 v_bad zcodes_51 zopen_52 zstacked_53 0 znewCode_54 znewArg_55 f_m_stack ⟨(by omega), (by omega), (by omega), (fun h0 => Or.inr (Or.inr ⟨by omega, by decide, p_57⟩)), (by omega), (by omega), (by omega), (by omega), (by omega)⟩ hP hD hS rfl dX10_goesBehind_119
        · have gc_47 : zstacked_36.toInt - 1 = 0 := i_eq tn_44 (by decide : (0 : Int32).toInt = 0) c_47
          refine lv_iconst (v := 1) hx hb dX10_goesBehind_99 (by decide) ?_
          refine lv_goto (tgt := 104) hx hb dX10_goesBehind_100 (by decide) ?_
          refine pt_MD_MD_isOver (x := 1) hx hb hts hown hK hP hD hS lwd_480 (by decide) dX10_goesBehind_104 (fun H locs hP hD hS => ?_)
          refine lv_aload_n hx hb dX10_goesBehind_107 rfl (lv_at hl 1 rfl) ?_
          refine gt_MD_MD_isOver hx hb hts hown hK hP lwd_480 dX10_goesBehind_108 ?_
          refine lv_if_ne (tgt := 118) hx hb dX10_goesBehind_111 (by decide) (fun c_62 => ?_) (fun c_62 => ?_)
          · skip
            refine lv_iconst (v := 0) hx hb dX10_goesBehind_118 (by decide) ?_
            have k_63 : (1 : Int32).toInt = 1 := by decide
            have k_64 : (0 : Int32).toInt = 0 := by decide
            exact hrt 0 n_46 v_bad zcodes_35 n_45 n_44 1 znewCode_37 znewArg_38 f_m_stack ⟨(by omega), (by omega), (by omega), (fun h0 => Or.inl ⟨by omega, by decide, (CS_closeT p_40 (by have q := p_41; have q1 : (1 : Int32).toInt = 1 := (by decide); omega) (by omega)).1 (by omega)⟩), (by omega), (by omega), (by omega), (by omega), (by omega)⟩ hP hD hS rfl dX10_goesBehind_119
          · exact absurd c_62 (by decide)
      · have gc_31 : r_2.toInt ≠ 41 := i_ne (rfl : r_2.toInt = r_2.toInt) (by decide : (41 : Int32).toInt = 41) c_31
        refine lv_aload_n hx hb dX10_goesBehind_45 rfl (lv_at hl 1 rfl) ?_
        refine lv_iconst (v := 1) hx hb dX10_goesBehind_46 (by decide) ?_
        refine lv_aload_n hx hb dX10_goesBehind_47 rfl (lv_at hl 1 rfl) ?_
        refine gt_MD_MD_place hx hb hts hown hK hP lwd_400 dX10_goesBehind_48 ?_
        have k_65 : (1 : Int32).toInt = 1 := by decide
        refine xv hD hS hA (xV (As := [.int 1, .int v_place]) (rest := []) hx hb hml hown hts hK hP hD hS hA NT_ok hN hAe hl.1 ⟨Nat.le_refl _, Nat.le_refl _⟩ 0 rfl rfl rfl (c_X10_wrongs l D cy hm v_taped v_walkers v_loads v_pieces v_changeCosts v_planned v_isMarch v_clauseMany v_place v_end v_bad v_clauses v_codes v_open v_stacked v_isOver v_isBehind v_atW v_atL v_atT v_atH v_atM v_atI v_atQ v_packing v_packed v_goPace v_goMinutes v_spentAt v_ranChanges f_m_tape f_m_knee f_m_weight f_m_isLame f_m_loadWeight f_m_owner f_m_food f_m_miles f_m_slope f_m_clauseLetter f_m_sumFrom f_m_codeFrom f_m_codeTo f_m_code f_m_codeArg f_m_newLetter f_m_newSum f_m_newFrom f_m_newTo f_m_newCode f_m_newArg f_m_stack f_m_worth f_m_isRefused f_m_least f_m_packPounds f_m_packOwner f_m_room f_m_givenTo f_m_canBe f_m_setPounds f_m_plainTime f_m_muleTime f_m_planTo f_m_march f_m_tired f_m_ranMinutes f_m_tiredAhead f_m_isReached f_m_toEnd f_m_upTo f_m_upNext f_m_byChanges f_m_bandPaces H.size 1 v_place (by omega) (by omega) (by omega)) (gi_V lwd_420 lwd_421 lwd_422 lwd_5 lwd_423) ⟨rfl, hd_X10_wrongs⟩ ⟨Nat.le_of_ble_eq_true rfl, Nat.le_of_ble_eq_true rfl⟩ rfl (Nat.le_of_ble_eq_true rfl) dX10_goesBehind_51) (fun u_66 H locs hw hP hD hS => ?_)
        obtain ⟨zbad_68, rfl⟩ : ∃ z, z = u_66 := ⟨_, rfl⟩
        try dsimp only at hw hP hD
        obtain ⟨p_69, p_70⟩ := hw
        refine lv_iconst (v := 0) hx hb dX10_goesBehind_54 (by decide) ?_
        have k_71 : (0 : Int32).toInt = 0 := by decide
        exact hrt 0 v_place zbad_68 v_codes v_open v_stacked v_isOver f_m_newCode f_m_newArg f_m_stack ⟨(by omega), (by omega), (by omega), (fun h0 => absurd h0 (by omega)), (by omega), (by omega), (by omega), (by omega), (by omega)⟩ hP hD hS rfl dX10_goesBehind_55
    · have gc_30 : r_2.toInt = 124 := i_eq (rfl : r_2.toInt = r_2.toInt) (by decide : (124 : Int32).toInt = 124) c_30
      refine lv_aload_n hx hb dX10_goesBehind_17 rfl (lv_at hl 1 rfl) ?_
      refine lv_iload_n hx hb dX10_goesBehind_18 rfl (lv_at hl 0 rfl) ?_
      refine lv_bipush (v := 124) hx hb dX10_goesBehind_19 (by decide) ?_
      refine lv_icmp_ne (tgt := 28) hx hb dX10_goesBehind_21 (by decide) (fun c_72 => ?_) (fun c_72 => ?_)
      · have gc_72 : r_2.toInt ≠ 124 := i_ne (rfl : r_2.toInt = r_2.toInt) (by decide : (124 : Int32).toInt = 124) c_72
        exact absurd gc_72 (by omega)
      · have gc_72 : r_2.toInt = 124 := i_eq (rfl : r_2.toInt = r_2.toInt) (by decide : (124 : Int32).toInt = 124) c_72
        refine lv_iconst (v := 1) hx hb dX10_goesBehind_24 (by decide) ?_
        refine lv_goto (tgt := 29) hx hb dX10_goesBehind_25 (by decide) ?_
        have k_73 : (1 : Int32).toInt = 1 := by decide
        refine xv hD hS hA (xV (As := [.int 1]) (rest := []) hx hb hml hown hts hK hP hD hS hA NT_ok hN hAe hl.1 ⟨Nat.le_refl _, Nat.le_refl _⟩ 0 rfl rfl rfl (c_X10_joins l D cy hm v_taped v_walkers v_loads v_pieces v_changeCosts v_planned v_isMarch v_clauseMany v_place v_end v_bad v_clauses v_codes v_open v_stacked v_isOver v_isBehind v_atW v_atL v_atT v_atH v_atM v_atI v_atQ v_packing v_packed v_goPace v_goMinutes v_spentAt v_ranChanges f_m_tape f_m_knee f_m_weight f_m_isLame f_m_loadWeight f_m_owner f_m_food f_m_miles f_m_slope f_m_clauseLetter f_m_sumFrom f_m_codeFrom f_m_codeTo f_m_code f_m_codeArg f_m_newLetter f_m_newSum f_m_newFrom f_m_newTo f_m_newCode f_m_newArg f_m_stack f_m_worth f_m_isRefused f_m_least f_m_packPounds f_m_packOwner f_m_room f_m_givenTo f_m_canBe f_m_setPounds f_m_plainTime f_m_muleTime f_m_planTo f_m_march f_m_tired f_m_ranMinutes f_m_tiredAhead f_m_isReached f_m_toEnd f_m_upTo f_m_upNext f_m_byChanges f_m_bandPaces H.size 1 c0 F (by omega) (by omega) (by omega) (by omega) (by omega) (by omega) (by omega) (by omega) (by omega)) (gi_V lwd_496 lwd_497 lwd_498 lwd_5 lwd_499) ⟨rfl, hd_X10_joins⟩ ⟨Nat.le_of_ble_eq_true rfl, Nat.le_of_ble_eq_true rfl⟩ rfl (Nat.le_of_ble_eq_true rfl) dX10_goesBehind_29) (fun u_74 H locs hw hP hD hS => ?_)
        obtain ⟨zcodes_76, zstacked_77, znewCode_78, znewArg_79⟩ := u_74
        try dsimp only at hw hP hD
        obtain ⟨p_80, p_81, p_82, p_83, p_84⟩ := hw
        refine lv_aload_n hx hb dX10_goesBehind_32 rfl (lv_at hl 1 rfl) ?_
        refine lv_iload_n hx hb dX10_goesBehind_33 rfl (lv_at hl 0 rfl) ?_
        refine xv hD hS hA (xV (As := [.int r_2]) (rest := []) hx hb hml hown hts hK hP hD hS hA NT_ok hN hAe hl.1 ⟨Nat.le_refl _, Nat.le_refl _⟩ 0 rfl rfl rfl (c_X10_puts l D cy hm v_taped v_walkers v_loads v_pieces v_changeCosts v_planned v_isMarch v_clauseMany v_place v_end v_bad v_clauses zcodes_76 v_open zstacked_77 v_isOver v_isBehind v_atW v_atL v_atT v_atH v_atM v_atI v_atQ v_packing v_packed v_goPace v_goMinutes v_spentAt v_ranChanges f_m_tape f_m_knee f_m_weight f_m_isLame f_m_loadWeight f_m_owner f_m_food f_m_miles f_m_slope f_m_clauseLetter f_m_sumFrom f_m_codeFrom f_m_codeTo f_m_code f_m_codeArg f_m_newLetter f_m_newSum f_m_newFrom f_m_newTo znewCode_78 znewArg_79 f_m_stack f_m_worth f_m_isRefused f_m_least f_m_packPounds f_m_packOwner f_m_room f_m_givenTo f_m_canBe f_m_setPounds f_m_plainTime f_m_muleTime f_m_planTo f_m_march f_m_tired f_m_ranMinutes f_m_tiredAhead f_m_isReached f_m_toEnd f_m_upTo f_m_upNext f_m_byChanges f_m_bandPaces H.size r_2 (by omega) (by omega) (by omega)) (gi_V lwd_437 lwd_438 lwd_439 lwd_5 lwd_440) ⟨rfl, hd_X10_puts⟩ ⟨Nat.le_of_ble_eq_true rfl, Nat.le_of_ble_eq_true rfl⟩ rfl (Nat.le_of_ble_eq_true rfl) dX10_goesBehind_34) (fun u_85 H locs hw hP hD hS => ?_)
        obtain ⟨zplace_87, zstacked_88, zstack_89⟩ := u_85
        try dsimp only at hw hP hD
        obtain ⟨p_90, p_91, p_92, p_93⟩ := hw
        refine lv_iconst (v := 1) hx hb dX10_goesBehind_37 (by decide) ?_
        have k_94 : (1 : Int32).toInt = 1 := by decide
        exact hrt 1 zplace_87 v_bad zcodes_76 v_open zstacked_88 v_isOver znewCode_78 znewArg_79 zstack_89 ⟨(by omega), (by omega), (by omega), (fun h0 => Or.inr (Or.inl ⟨by omega, by decide, by rw [p_90]; exact CS_push p_81 (by omega) (by omega) (by unfold isC; omega) (by rw [if_pos (by omega)])⟩)), (by omega), (by omega), (by omega), (by omega), (by omega)⟩ hP hD hS rfl dX10_goesBehind_38
set_option maxHeartbeats 16000000 in
set_option maxRecDepth 100000 in
theorem c_X10_condition (l : Launch) (D : va_G) (cy : Nat → ClassId) (hm : Nat → Nat) (v_taped v_walkers v_loads v_pieces v_changeCosts v_planned v_isMarch v_clauseMany v_place v_end v_bad v_clauses v_codes v_open v_stacked v_isOver v_isBehind v_atW v_atL v_atT v_atH v_atM v_atI v_atQ v_packing v_packed v_goPace v_goMinutes v_spentAt v_ranChanges : Int32) (f_m_tape f_m_knee f_m_weight f_m_isLame f_m_loadWeight f_m_owner f_m_food f_m_miles f_m_slope f_m_clauseLetter f_m_sumFrom f_m_codeFrom f_m_codeTo f_m_code f_m_codeArg f_m_newLetter f_m_newSum f_m_newFrom f_m_newTo f_m_newCode f_m_newArg f_m_stack f_m_worth f_m_isRefused f_m_least f_m_packPounds f_m_packOwner f_m_room f_m_givenTo f_m_canBe f_m_setPounds f_m_plainTime f_m_muleTime f_m_planTo f_m_march f_m_tired f_m_ranMinutes f_m_tiredAhead f_m_isReached f_m_toEnd f_m_upTo f_m_upNext f_m_byChanges f_m_bandPaces : Nat → Int32) (sz : Nat) (F : Nat) (hb_v_place : 0 ≤ v_place.toInt ∧ v_place.toInt ≤ 200) (hb_v_end : 0 ≤ v_end.toInt ∧ v_end.toInt ≤ 200) (hb_v_bad : -6000 ≤ v_bad.toInt ∧ v_bad.toInt ≤ 0) (hb_v_codes : 0 ≤ v_codes.toInt ∧ v_codes.toInt ≤ 200) (hb_v_stacked : 0 ≤ v_stacked.toInt ∧ v_stacked.toInt ≤ 200) (hb_v_isOver : 0 ≤ v_isOver.toInt ∧ v_isOver.toInt ≤ 1) (hb_v_isBehind : 0 ≤ v_isBehind.toInt ∧ v_isBehind.toInt ≤ 1) (hr_m_tape : rg (-128) 127 f_m_tape) (hg : v_bad.toInt = 0) (hj : v_place.toInt ≤ v_end.toInt ∧ v_codes.toInt + v_stacked.toInt ≤ v_place.toInt) (hd : dA f_m_newCode F v_codes 0) (hs : v_stacked.toInt = 0) : gMv l yX10_condition cX10_condition 2 7 [.ref (hm 0)] D cy (wMD cy hm v_taped v_walkers v_loads v_pieces v_changeCosts v_planned v_isMarch v_clauseMany v_place v_end v_bad v_clauses v_codes v_open v_stacked v_isOver v_isBehind v_atW v_atL v_atT v_atH v_atM v_atI v_atQ v_packing v_packed v_goPace v_goMinutes v_spentAt v_ranChanges f_m_tape f_m_knee f_m_weight f_m_isLame f_m_loadWeight f_m_owner f_m_food f_m_miles f_m_slope f_m_clauseLetter f_m_sumFrom f_m_codeFrom f_m_codeTo f_m_code f_m_codeArg f_m_newLetter f_m_newSum f_m_newFrom f_m_newTo f_m_newCode f_m_newArg f_m_stack f_m_worth f_m_isRefused f_m_least f_m_packPounds f_m_packOwner f_m_room f_m_givenTo f_m_canBe f_m_setPounds f_m_plainTime f_m_muleTime f_m_planTo f_m_march f_m_tired f_m_ranMinutes f_m_tiredAhead f_m_isReached f_m_toEnd f_m_upTo f_m_upNext f_m_byChanges f_m_bandPaces) NT sz (fun (u : Int32 × Int32 × Int32 × Int32 × Int32 × Int32 × Int32 × (Nat → Int32) × (Nat → Int32) × (Nat → Int32)) => ((u.1).toInt ≤ v_end.toInt ∧ (u.2.2.1).toInt + (u.2.2.2.2.1).toInt ≤ (u.1).toInt) ∧ (v_place.toInt ≤ (u.1).toInt ∧ (u.2.1).toInt ≤ v_bad.toInt) ∧ ((u.2.1).toInt = 0 → dA (u.2.2.2.2.2.2.2.1) F (u.2.2.1) 1 ∧ (∀ j, j < F → (u.2.2.2.2.2.2.2.1) j = f_m_newCode j)) ∧ (0 ≤ (u.1).toInt ∧ (u.1).toInt ≤ 200) ∧ (-6000 ≤ (u.2.1).toInt ∧ (u.2.1).toInt ≤ 0) ∧ (0 ≤ (u.2.2.1).toInt ∧ (u.2.2.1).toInt ≤ 200) ∧ (0 ≤ (u.2.2.2.2.1).toInt ∧ (u.2.2.2.2.1).toInt ≤ 200) ∧ (0 ≤ (u.2.2.2.2.2.1).toInt ∧ (u.2.2.2.2.2.1).toInt ≤ 1) ∧ (0 ≤ (u.2.2.2.2.2.2.1).toInt ∧ (u.2.2.2.2.2.2.1).toInt ≤ 1)) (fun u => wMD cy hm v_taped v_walkers v_loads v_pieces v_changeCosts v_planned v_isMarch v_clauseMany (u.1) v_end (u.2.1) v_clauses (u.2.2.1) (u.2.2.2.1) (u.2.2.2.2.1) (u.2.2.2.2.2.1) (u.2.2.2.2.2.2.1) v_atW v_atL v_atT v_atH v_atM v_atI v_atQ v_packing v_packed v_goPace v_goMinutes v_spentAt v_ranChanges f_m_tape f_m_knee f_m_weight f_m_isLame f_m_loadWeight f_m_owner f_m_food f_m_miles f_m_slope f_m_clauseLetter f_m_sumFrom f_m_codeFrom f_m_codeTo f_m_code f_m_codeArg f_m_newLetter f_m_newSum f_m_newFrom f_m_newTo (u.2.2.2.2.2.2.2.1) (u.2.2.2.2.2.2.2.2.1) (u.2.2.2.2.2.2.2.2.2) f_m_worth f_m_isRefused f_m_least f_m_packPounds f_m_packOwner f_m_room f_m_givenTo f_m_canBe f_m_setPounds f_m_plainTime f_m_muleTime f_m_planTo f_m_march f_m_tired f_m_ranMinutes f_m_tiredAhead f_m_isReached f_m_toEnd f_m_upTo f_m_upNext f_m_byChanges f_m_bandPaces) := by
  refine gMv_in (by decide) (Nat.le_of_ble_eq_true rfl) ?_
  intro p e s m args below meth c A ls Q hx hb hml hts hown hsz hP hK hD hN hAe hA hS hl hret
  subst hsz
  have hl : lv_has ls 2 [(0, .ref (hm 0))] := hl
  have hrt := fun (v_place' : Int32) (v_bad' : Int32) (v_codes' : Int32) (v_open' : Int32) (v_stacked' : Int32) (v_isOver' : Int32) (v_isBehind' : Int32) (f_m_newCode' : Nat → Int32) (f_m_newArg' : Nat → Int32) (f_m_stack' : Nat → Int32) (hp : (v_place'.toInt ≤ v_end.toInt ∧ v_codes'.toInt + v_stacked'.toInt ≤ v_place'.toInt) ∧ (v_place.toInt ≤ v_place'.toInt ∧ v_bad'.toInt ≤ v_bad.toInt) ∧ (v_bad'.toInt = 0 → dA f_m_newCode' F v_codes' 1 ∧ (∀ j, j < F → f_m_newCode' j = f_m_newCode j)) ∧ (0 ≤ v_place'.toInt ∧ v_place'.toInt ≤ 200) ∧ (-6000 ≤ v_bad'.toInt ∧ v_bad'.toInt ≤ 0) ∧ (0 ≤ v_codes'.toInt ∧ v_codes'.toInt ≤ 200) ∧ (0 ≤ v_stacked'.toInt ∧ v_stacked'.toInt ≤ 200) ∧ (0 ≤ v_isOver'.toInt ∧ v_isOver'.toInt ≤ 1) ∧ (0 ≤ v_isBehind'.toInt ∧ v_isBehind'.toInt ≤ 1)) {H : Heap} {locs : List Loc} {pc : Nat} {ls : Array Slot} => hret (v_place', v_bad', v_codes', v_open', v_stacked', v_isOver', v_isBehind', f_m_newCode', f_m_newArg', f_m_stack') (H := H) (locs := locs) (pc := pc) (ls := ls) hp
  clear hret
  refine lv_aload_n hx hb dX10_condition_0 rfl (lv_at hl 0 rfl) ?_
  refine lv_iconst (v := 0) hx hb dX10_condition_1 (by decide) ?_
  refine pt_MD_MD_isOver (x := 0) hx hb hts hown hK hP hD hS lwd_480 (by decide) dX10_condition_2 (fun H locs hP hD hS => ?_)
  refine lv_aload_n hx hb dX10_condition_5 rfl (lv_at hl 0 rfl) ?_
  refine xi hD hS hA (xV (As := []) (rest := []) hx hb hml hown hts hK hP hD hS hA NT_ok hN hAe hl.1 ⟨Nat.le_refl _, Nat.le_refl _⟩ 0 rfl rfl rfl (c_X10_here l D cy hm v_taped v_walkers v_loads v_pieces v_changeCosts v_planned v_isMarch v_clauseMany v_place v_end v_bad v_clauses v_codes v_open v_stacked 0 v_isBehind v_atW v_atL v_atT v_atH v_atM v_atI v_atQ v_packing v_packed v_goPace v_goMinutes v_spentAt v_ranChanges f_m_tape f_m_knee f_m_weight f_m_isLame f_m_loadWeight f_m_owner f_m_food f_m_miles f_m_slope f_m_clauseLetter f_m_sumFrom f_m_codeFrom f_m_codeTo f_m_code f_m_codeArg f_m_newLetter f_m_newSum f_m_newFrom f_m_newTo f_m_newCode f_m_newArg f_m_stack f_m_worth f_m_isRefused f_m_least f_m_packPounds f_m_packOwner f_m_room f_m_givenTo f_m_canBe f_m_setPounds f_m_plainTime f_m_muleTime f_m_planTo f_m_march f_m_tired f_m_ranMinutes f_m_tiredAhead f_m_isReached f_m_toEnd f_m_upTo f_m_upNext f_m_byChanges f_m_bandPaces H.size (by omega) (by omega) hr_m_tape) (gi_V lwd_416 lwd_417 lwd_418 lwd_5 lwd_419) ⟨rfl, hd_X10_here⟩ ⟨Nat.le_of_ble_eq_true rfl, Nat.le_of_ble_eq_true rfl⟩ rfl (Nat.le_of_ble_eq_true rfl) dX10_condition_6) (fun r_2 u_1 H locs hw hP hD hS => ?_)
  try dsimp only at hw hP hD
  obtain ⟨p_3, p_4, p_5⟩ := hw
  refine lv_bipush (v := 40) hx hb dX10_condition_9 (by decide) ?_
  refine lv_icmp_eq (tgt := 23) hx hb dX10_condition_11 (by decide) (fun c_6 => ?_) (fun c_6 => ?_)
  · have gc_6 : r_2.toInt = 40 := i_eq (rfl : r_2.toInt = r_2.toInt) (by decide : (40 : Int32).toInt = 40) c_6
    refine lv_aload_n hx hb dX10_condition_23 rfl (lv_at hl 0 rfl) ?_
    refine xi hD hS hA (xV (As := []) (rest := []) hx hb hml hown hts hK hP hD hS hA NT_ok hN hAe hl.1 ⟨Nat.le_refl _, Nat.le_refl _⟩ 0 rfl rfl rfl (c_X10_isGood l D cy hm v_taped v_walkers v_loads v_pieces v_changeCosts v_planned v_isMarch v_clauseMany v_place v_end v_bad v_clauses v_codes v_open v_stacked 0 v_isBehind v_atW v_atL v_atT v_atH v_atM v_atI v_atQ v_packing v_packed v_goPace v_goMinutes v_spentAt v_ranChanges f_m_tape f_m_knee f_m_weight f_m_isLame f_m_loadWeight f_m_owner f_m_food f_m_miles f_m_slope f_m_clauseLetter f_m_sumFrom f_m_codeFrom f_m_codeTo f_m_code f_m_codeArg f_m_newLetter f_m_newSum f_m_newFrom f_m_newTo f_m_newCode f_m_newArg f_m_stack f_m_worth f_m_isRefused f_m_least f_m_packPounds f_m_packOwner f_m_room f_m_givenTo f_m_canBe f_m_setPounds f_m_plainTime f_m_muleTime f_m_planTo f_m_march f_m_tired f_m_ranMinutes f_m_tiredAhead f_m_isReached f_m_toEnd f_m_upTo f_m_upNext f_m_byChanges f_m_bandPaces H.size (by omega)) (gi_V lwd_406 lwd_407 lwd_408 lwd_5 lwd_409) ⟨rfl, hd_X10_isGood⟩ ⟨Nat.le_of_ble_eq_true rfl, Nat.le_of_ble_eq_true rfl⟩ rfl (Nat.le_of_ble_eq_true rfl) dX10_condition_24) (fun r_8 u_7 H locs hw hP hD hS => ?_)
    try dsimp only at hw hP hD
    obtain ⟨p_9, p_10⟩ := hw
    refine lv_if_ne (tgt := 31) hx hb dX10_condition_27 (by decide) (fun c_11 => ?_) (fun c_11 => ?_)
    · have gc_11 : r_8.toInt ≠ 0 := i_ne (rfl : r_8.toInt = r_8.toInt) (by decide : (0 : Int32).toInt = 0) c_11
      refine lv_aload_n hx hb dX10_condition_31 rfl (lv_at hl 0 rfl) ?_
      refine xv hD hS hA (xV (As := []) (rest := []) hx hb hml hown hts hK hP hD hS hA NT_ok hN hAe hl.1 ⟨Nat.le_refl _, Nat.le_refl _⟩ 0 rfl rfl rfl (c_X10_opens l D cy hm v_taped v_walkers v_loads v_pieces v_changeCosts v_planned v_isMarch v_clauseMany v_place v_end v_bad v_clauses v_codes v_open v_stacked 0 v_isBehind v_atW v_atL v_atT v_atH v_atM v_atI v_atQ v_packing v_packed v_goPace v_goMinutes v_spentAt v_ranChanges f_m_tape f_m_knee f_m_weight f_m_isLame f_m_loadWeight f_m_owner f_m_food f_m_miles f_m_slope f_m_clauseLetter f_m_sumFrom f_m_codeFrom f_m_codeTo f_m_code f_m_codeArg f_m_newLetter f_m_newSum f_m_newFrom f_m_newTo f_m_newCode f_m_newArg f_m_stack f_m_worth f_m_isRefused f_m_least f_m_packPounds f_m_packOwner f_m_room f_m_givenTo f_m_canBe f_m_setPounds f_m_plainTime f_m_muleTime f_m_planTo f_m_march f_m_tired f_m_ranMinutes f_m_tiredAhead f_m_isReached f_m_toEnd f_m_upTo f_m_upNext f_m_byChanges f_m_bandPaces H.size (by omega) (by omega) (by omega) (by omega) hr_m_tape (by omega)) (gi_V lwd_433 lwd_434 lwd_435 lwd_5 lwd_436) ⟨rfl, hd_X10_opens⟩ ⟨Nat.le_of_ble_eq_true rfl, Nat.le_of_ble_eq_true rfl⟩ rfl (Nat.le_of_ble_eq_true rfl) dX10_condition_32) (fun u_12 H locs hw hP hD hS => ?_)
      obtain ⟨zplace_14, zbad_15, zopen_16, zstacked_17, zstack_18⟩ := u_12
      try dsimp only at hw hP hD
      obtain ⟨p_19, p_20, p_21, p_22, p_23⟩ := hw
      refine lv_iconst (v := 1) hx hb dX10_condition_35 (by decide) ?_
      refine lv_istore_n (lv' := [(1, .int 1), (0, .ref (hm 0))]) hx hb dX10_condition_36 rfl hl (by decide) rfl (fun ls hl => ?_)
      have L37_46 : ∀ (n : Nat) (f_35 : Nat → Int32) (f_36 : Nat → Int32) (f_37 : Nat → Int32) (l_38 : Int32) (w_39 : Int32) (w_40 : Int32) (w_41 : Int32) (w_42 : Int32) (w_43 : Int32) (w_44 : Int32) (w_45 : Int32), (0 ≤ l_38.toInt ∧ l_38.toInt ≤ 1) → (-6000 ≤ w_39.toInt ∧ w_39.toInt ≤ 0) → (0 ≤ w_40.toInt ∧ w_40.toInt ≤ 200) → (0 ≤ w_41.toInt ∧ w_41.toInt ≤ 1) → (0 ≤ w_42.toInt ∧ w_42.toInt ≤ 1) → (0 ≤ w_44.toInt ∧ w_44.toInt ≤ 200) → (0 ≤ w_45.toInt ∧ w_45.toInt ≤ 200) → (v_place.toInt ≤ w_44.toInt ∧ w_44.toInt ≤ v_end.toInt ∧ w_40.toInt + w_45.toInt ≤ w_44.toInt ∧ w_39.toInt ≤ v_bad.toInt) → (w_39.toInt = 0 → w_42.toInt = 0 → l_38.toInt ≠ 0 → CS f_m_newCode F f_37 f_36 w_45 w_40 0) → (w_39.toInt = 0 → w_42.toInt = 0 → l_38.toInt = 0 → CS f_m_newCode F f_37 f_36 w_45 w_40 1) → (w_39.toInt = 0 → w_42.toInt = 1 → dA f_36 F w_40 1 ∧ (∀ j, j < F → f_36 j = f_m_newCode j)) → 6201 + w_39.toInt - w_44.toInt < n → ∀ (H : Heap) (locs : List Loc) (ls : Array Slot), va_P D vwCl (wMD cy hm v_taped v_walkers v_loads v_pieces v_changeCosts v_planned v_isMarch v_clauseMany w_44 v_end w_39 v_clauses w_40 w_43 w_45 w_42 w_41 v_atW v_atL v_atT v_atH v_atM v_atI v_atQ v_packing v_packed v_goPace v_goMinutes v_spentAt v_ranChanges f_m_tape f_m_knee f_m_weight f_m_isLame f_m_loadWeight f_m_owner f_m_food f_m_miles f_m_slope f_m_clauseLetter f_m_sumFrom f_m_codeFrom f_m_codeTo f_m_code f_m_codeArg f_m_newLetter f_m_newSum f_m_newFrom f_m_newTo f_36 f_35 f_37 f_m_worth f_m_isRefused f_m_least f_m_packPounds f_m_packOwner f_m_room f_m_givenTo f_m_canBe f_m_setPounds f_m_plainTime f_m_muleTime f_m_planTo f_m_march f_m_tired f_m_ranMinutes f_m_tiredAhead f_m_isReached f_m_toEnd f_m_upTo f_m_upNext f_m_byChanges f_m_bandPaces) H → va_D A (wMD cy hm v_taped v_walkers v_loads v_pieces v_changeCosts v_planned v_isMarch v_clauseMany w_44 v_end w_39 v_clauses w_40 w_43 w_45 w_42 w_41 v_atW v_atL v_atT v_atH v_atM v_atI v_atQ v_packing v_packed v_goPace v_goMinutes v_spentAt v_ranChanges f_m_tape f_m_knee f_m_weight f_m_isLame f_m_loadWeight f_m_owner f_m_food f_m_miles f_m_slope f_m_clauseLetter f_m_sumFrom f_m_codeFrom f_m_codeTo f_m_code f_m_codeArg f_m_newLetter f_m_newSum f_m_newFrom f_m_newTo f_36 f_35 f_37 f_m_worth f_m_isRefused f_m_least f_m_packPounds f_m_packOwner f_m_room f_m_givenTo f_m_canBe f_m_setPounds f_m_plainTime f_m_muleTime f_m_planTo f_m_march f_m_tired f_m_ranMinutes f_m_tiredAhead f_m_isReached f_m_toEnd f_m_upTo f_m_upNext f_m_byChanges f_m_bandPaces) → va_S A s.heap H locs → lv_has ls 2 [(1, .int l_38), (0, .ref (hm 0))] → W p l e (gRm 7) s m args below meth c H locs 0 0 Q (F0 m 37 ls []) := by
        intro n
        induction n with
        | zero => intro f_35 f_36 f_37 l_38 w_39 w_40 w_41 w_42 w_43 w_44 w_45 hL37_46_0 hL37_46_1 hL37_46_2 hL37_46_3 hL37_46_4 hL37_46_5 hL37_46_6 hL37_46_7 hL37_46_8 hL37_46_9 hL37_46_10 hm; exact absurd hm (by omega)
        | succ n ih37_46 =>
          intro f_35 f_36 f_37 l_38 w_39 w_40 w_41 w_42 w_43 w_44 w_45 hL37_46_0 hL37_46_1 hL37_46_2 hL37_46_3 hL37_46_4 hL37_46_5 hL37_46_6 hL37_46_7 hL37_46_8 hL37_46_9 hL37_46_10 hmL37_46 H locs ls hP hD hS hl
          refine lv_aload_n hx hb dX10_condition_37 rfl (lv_at hl 1 rfl) ?_
          refine xi hD hS hA (xV (As := []) (rest := []) hx hb hml hown hts hK hP hD hS hA NT_ok hN hAe hl.1 ⟨Nat.le_refl _, Nat.le_refl _⟩ 0 rfl rfl rfl (c_X10_isGood l D cy hm v_taped v_walkers v_loads v_pieces v_changeCosts v_planned v_isMarch v_clauseMany w_44 v_end w_39 v_clauses w_40 w_43 w_45 w_42 w_41 v_atW v_atL v_atT v_atH v_atM v_atI v_atQ v_packing v_packed v_goPace v_goMinutes v_spentAt v_ranChanges f_m_tape f_m_knee f_m_weight f_m_isLame f_m_loadWeight f_m_owner f_m_food f_m_miles f_m_slope f_m_clauseLetter f_m_sumFrom f_m_codeFrom f_m_codeTo f_m_code f_m_codeArg f_m_newLetter f_m_newSum f_m_newFrom f_m_newTo f_36 f_35 f_37 f_m_worth f_m_isRefused f_m_least f_m_packPounds f_m_packOwner f_m_room f_m_givenTo f_m_canBe f_m_setPounds f_m_plainTime f_m_muleTime f_m_planTo f_m_march f_m_tired f_m_ranMinutes f_m_tiredAhead f_m_isReached f_m_toEnd f_m_upTo f_m_upNext f_m_byChanges f_m_bandPaces H.size (by omega)) (gi_V lwd_406 lwd_407 lwd_408 lwd_5 lwd_409) ⟨rfl, hd_X10_isGood⟩ ⟨Nat.le_of_ble_eq_true rfl, Nat.le_of_ble_eq_true rfl⟩ rfl (Nat.le_of_ble_eq_true rfl) dX10_condition_38) (fun r_48 u_47 H locs hw hP hD hS => ?_)
          try dsimp only at hw hP hD
          obtain ⟨p_49, p_50⟩ := hw
          refine lv_if_eq (tgt := 74) hx hb dX10_condition_41 (by decide) (fun c_51 => ?_) (fun c_51 => ?_)
          · have gc_51 : r_48.toInt = 0 := i_eq (rfl : r_48.toInt = r_48.toInt) (by decide : (0 : Int32).toInt = 0) c_51
            exact hrt w_44 w_39 w_40 w_43 w_45 w_42 w_41 f_36 f_35 f_37 ⟨(by omega), (by omega), (fun h0 => hL37_46_10 h0 (by omega)), (by omega), (by omega), (by omega), (by omega), (by omega), (by omega)⟩ hP hD hS dX10_condition_74
          · have gc_51 : r_48.toInt ≠ 0 := i_ne (rfl : r_48.toInt = r_48.toInt) (by decide : (0 : Int32).toInt = 0) c_51
            refine lv_aload_n hx hb dX10_condition_44 rfl (lv_at hl 1 rfl) ?_
            refine gt_MD_MD_isOver hx hb hts hown hK hP lwd_480 dX10_condition_45 ?_
            refine lv_if_ne (tgt := 74) hx hb dX10_condition_48 (by decide) (fun c_52 => ?_) (fun c_52 => ?_)
            · have gc_52 : w_42.toInt ≠ 0 := i_ne (rfl : w_42.toInt = w_42.toInt) (by decide : (0 : Int32).toInt = 0) c_52
              exact hrt w_44 w_39 w_40 w_43 w_45 w_42 w_41 f_36 f_35 f_37 ⟨(by omega), (by omega), (fun h0 => hL37_46_10 h0 (by omega)), (by omega), (by omega), (by omega), (by omega), (by omega), (by omega)⟩ hP hD hS dX10_condition_74
            · have gc_52 : w_42.toInt = 0 := i_eq (rfl : w_42.toInt = w_42.toInt) (by decide : (0 : Int32).toInt = 0) c_52
              refine lv_iload_n hx hb dX10_condition_51 rfl (lv_at hl 0 rfl) ?_
              refine lv_if_eq (tgt := 59) hx hb dX10_condition_52 (by decide) (fun c_53 => ?_) (fun c_53 => ?_)
              · have gc_53 : l_38.toInt = 0 := i_eq (rfl : l_38.toInt = l_38.toInt) (by decide : (0 : Int32).toInt = 0) c_53
                refine lv_aload_n hx hb dX10_condition_59 rfl (lv_at hl 1 rfl) ?_
                refine xi hD hS hA (xV (As := []) (rest := []) hx hb hml hown hts hK hP hD hS hA NT_ok hN hAe hl.1 ⟨Nat.le_refl _, Nat.le_refl _⟩ 0 rfl rfl rfl (c_X10_isGood l D cy hm v_taped v_walkers v_loads v_pieces v_changeCosts v_planned v_isMarch v_clauseMany w_44 v_end w_39 v_clauses w_40 w_43 w_45 w_42 w_41 v_atW v_atL v_atT v_atH v_atM v_atI v_atQ v_packing v_packed v_goPace v_goMinutes v_spentAt v_ranChanges f_m_tape f_m_knee f_m_weight f_m_isLame f_m_loadWeight f_m_owner f_m_food f_m_miles f_m_slope f_m_clauseLetter f_m_sumFrom f_m_codeFrom f_m_codeTo f_m_code f_m_codeArg f_m_newLetter f_m_newSum f_m_newFrom f_m_newTo f_36 f_35 f_37 f_m_worth f_m_isRefused f_m_least f_m_packPounds f_m_packOwner f_m_room f_m_givenTo f_m_canBe f_m_setPounds f_m_plainTime f_m_muleTime f_m_planTo f_m_march f_m_tired f_m_ranMinutes f_m_tiredAhead f_m_isReached f_m_toEnd f_m_upTo f_m_upNext f_m_byChanges f_m_bandPaces H.size (by omega)) (gi_V lwd_406 lwd_407 lwd_408 lwd_5 lwd_409) ⟨rfl, hd_X10_isGood⟩ ⟨Nat.le_of_ble_eq_true rfl, Nat.le_of_ble_eq_true rfl⟩ rfl (Nat.le_of_ble_eq_true rfl) dX10_condition_60) (fun r_55 u_54 H locs hw hP hD hS => ?_)
                try dsimp only at hw hP hD
                obtain ⟨p_56, p_57⟩ := hw
                refine lv_if_eq (tgt := 37) hx hb dX10_condition_63 (by decide) (fun c_58 => ?_) (fun c_58 => ?_)
                · have gc_58 : r_55.toInt = 0 := i_eq (rfl : r_55.toInt = r_55.toInt) (by decide : (0 : Int32).toInt = 0) c_58
                  exact ih37_46 f_35 f_36 f_37 l_38 w_39 w_40 w_41 w_42 w_43 w_44 w_45 (by omega) (by omega) (by omega) (by omega) (by omega) (by omega) (by omega) (by omega) (fun h0 => absurd h0 (by omega)) (fun h0 => absurd h0 (by omega)) (fun h0 => absurd h0 (by omega)) (by omega) _ _ _ hP hD hS (lv_sub hl [0, 1] rfl)
                · have gc_58 : r_55.toInt ≠ 0 := i_ne (rfl : r_55.toInt = r_55.toInt) (by decide : (0 : Int32).toInt = 0) c_58
                  refine lv_aload_n hx hb dX10_condition_66 rfl (lv_at hl 1 rfl) ?_
                  refine xi hD hS hA (xV (As := []) (rest := []) hx hb hml hown hts hK hP hD hS hA NT_ok hN hAe hl.1 ⟨Nat.le_refl _, Nat.le_refl _⟩ 0 rfl rfl rfl (c_X10_goesBehind l D cy hm v_taped v_walkers v_loads v_pieces v_changeCosts v_planned v_isMarch v_clauseMany w_44 v_end w_39 v_clauses w_40 w_43 w_45 w_42 w_41 v_atW v_atL v_atT v_atH v_atM v_atI v_atQ v_packing v_packed v_goPace v_goMinutes v_spentAt v_ranChanges f_m_tape f_m_knee f_m_weight f_m_isLame f_m_loadWeight f_m_owner f_m_food f_m_miles f_m_slope f_m_clauseLetter f_m_sumFrom f_m_codeFrom f_m_codeTo f_m_code f_m_codeArg f_m_newLetter f_m_newSum f_m_newFrom f_m_newTo f_36 f_35 f_37 f_m_worth f_m_isRefused f_m_least f_m_packPounds f_m_packOwner f_m_room f_m_givenTo f_m_canBe f_m_setPounds f_m_plainTime f_m_muleTime f_m_planTo f_m_march f_m_tired f_m_ranMinutes f_m_tiredAhead f_m_isReached f_m_toEnd f_m_upTo f_m_upNext f_m_byChanges f_m_bandPaces H.size f_m_newCode F (by omega) (by omega) (by omega) (by omega) (by omega) (by omega) hr_m_tape (by omega) (by omega) (hL37_46_9 (by omega) (by omega) (by omega))) (gi_V lwd_492 lwd_493 lwd_494 lwd_5 lwd_495) ⟨rfl, hd_X10_goesBehind⟩ ⟨Nat.le_of_ble_eq_true rfl, Nat.le_of_ble_eq_true rfl⟩ rfl (Nat.le_of_ble_eq_true rfl) dX10_condition_67) (fun r_60 u_59 H locs hw hP hD hS => ?_)
                  obtain ⟨zplace_61, zbad_62, zcodes_63, zopen_64, zstacked_65, zisOver_66, znewCode_67, znewArg_68, zstack_69⟩ := u_59
                  try dsimp only at hw hP hD
                  obtain ⟨p_70, p_71, p_72, p_73, p_74, p_75, p_76, p_77, p_78⟩ := hw
                  refine lv_istore_n (lv' := [(1, .int r_60), (0, .ref (hm 0))]) hx hb dX10_condition_70 rfl hl (by decide) rfl (fun ls hl => ?_)
                  refine lv_goto (tgt := 37) hx hb dX10_condition_71 (by decide) ?_
                  exact ih37_46 znewArg_68 znewCode_67 zstack_69 r_60 zbad_62 zcodes_63 w_41 zisOver_66 zopen_64 zplace_61 zstacked_65 (by omega) (by omega) (by omega) (by omega) (by omega) (by omega) (by omega) (by omega) (fun h0 h1 h2 => by
                    obtain hz | hz | hz := p_73 h0
                    · exact absurd h1 (by omega)
                    · exact hz.2.2
                    · exact absurd h2 (by omega)) (fun h0 h1 h2 => by
                    obtain hz | hz | hz := p_73 h0
                    · exact absurd h1 (by omega)
                    · exact absurd h2 (by omega)
                    · exact hz.2.2) (fun h0 h1 => by
                    obtain hz | hz | hz := p_73 h0
                    · exact ⟨hz.2.2.1, hz.2.2.2⟩
                    · exact absurd h1 (by omega)
                    · exact absurd h1 (by omega)) (by omega) _ _ _ hP hD hS (lv_sub hl [0, 1] rfl)
              · have gc_53 : l_38.toInt ≠ 0 := i_ne (rfl : l_38.toInt = l_38.toInt) (by decide : (0 : Int32).toInt = 0) c_53
                refine lv_aload_n hx hb dX10_condition_55 rfl (lv_at hl 1 rfl) ?_
                refine xv hD hS hA (xV (As := []) (rest := []) hx hb hml hown hts hK hP hD hS hA NT_ok hN hAe hl.1 ⟨Nat.le_refl _, Nat.le_refl _⟩ 0 rfl rfl rfl (c_X10_pieceOfC l D cy hm v_taped v_walkers v_loads v_pieces v_changeCosts v_planned v_isMarch v_clauseMany w_44 v_end w_39 v_clauses w_40 w_43 w_45 w_42 w_41 v_atW v_atL v_atT v_atH v_atM v_atI v_atQ v_packing v_packed v_goPace v_goMinutes v_spentAt v_ranChanges f_m_tape f_m_knee f_m_weight f_m_isLame f_m_loadWeight f_m_owner f_m_food f_m_miles f_m_slope f_m_clauseLetter f_m_sumFrom f_m_codeFrom f_m_codeTo f_m_code f_m_codeArg f_m_newLetter f_m_newSum f_m_newFrom f_m_newTo f_36 f_35 f_37 f_m_worth f_m_isRefused f_m_least f_m_packPounds f_m_packOwner f_m_room f_m_givenTo f_m_canBe f_m_setPounds f_m_plainTime f_m_muleTime f_m_planTo f_m_march f_m_tired f_m_ranMinutes f_m_tiredAhead f_m_isReached f_m_toEnd f_m_upTo f_m_upNext f_m_byChanges f_m_bandPaces H.size f_m_newCode F (by omega) (by omega) (by omega) (by omega) (by omega) (by omega) hr_m_tape (by omega) (by omega) (hL37_46_8 (by omega) (by omega) (by omega))) (gi_V lwd_481 lwd_482 lwd_483 lwd_5 lwd_484) ⟨rfl, hd_X10_pieceOfC⟩ ⟨Nat.le_of_ble_eq_true rfl, Nat.le_of_ble_eq_true rfl⟩ rfl (Nat.le_of_ble_eq_true rfl) dX10_condition_56) (fun u_79 H locs hw hP hD hS => ?_)
                obtain ⟨zplace_81, zbad_82, zcodes_83, zopen_84, zstacked_85, zisBehind_86, znewCode_87, znewArg_88, zstack_89⟩ := u_79
                try dsimp only at hw hP hD
                obtain ⟨p_90, p_91, p_92, p_93, p_94, p_95, p_96, p_97⟩ := hw
                refine lv_aload_n hx hb dX10_condition_59 rfl (lv_at hl 1 rfl) ?_
                refine xi hD hS hA (xV (As := []) (rest := []) hx hb hml hown hts hK hP hD hS hA NT_ok hN hAe hl.1 ⟨Nat.le_refl _, Nat.le_refl _⟩ 0 rfl rfl rfl (c_X10_isGood l D cy hm v_taped v_walkers v_loads v_pieces v_changeCosts v_planned v_isMarch v_clauseMany zplace_81 v_end zbad_82 v_clauses zcodes_83 zopen_84 zstacked_85 w_42 zisBehind_86 v_atW v_atL v_atT v_atH v_atM v_atI v_atQ v_packing v_packed v_goPace v_goMinutes v_spentAt v_ranChanges f_m_tape f_m_knee f_m_weight f_m_isLame f_m_loadWeight f_m_owner f_m_food f_m_miles f_m_slope f_m_clauseLetter f_m_sumFrom f_m_codeFrom f_m_codeTo f_m_code f_m_codeArg f_m_newLetter f_m_newSum f_m_newFrom f_m_newTo znewCode_87 znewArg_88 zstack_89 f_m_worth f_m_isRefused f_m_least f_m_packPounds f_m_packOwner f_m_room f_m_givenTo f_m_canBe f_m_setPounds f_m_plainTime f_m_muleTime f_m_planTo f_m_march f_m_tired f_m_ranMinutes f_m_tiredAhead f_m_isReached f_m_toEnd f_m_upTo f_m_upNext f_m_byChanges f_m_bandPaces H.size (by omega)) (gi_V lwd_406 lwd_407 lwd_408 lwd_5 lwd_409) ⟨rfl, hd_X10_isGood⟩ ⟨Nat.le_of_ble_eq_true rfl, Nat.le_of_ble_eq_true rfl⟩ rfl (Nat.le_of_ble_eq_true rfl) dX10_condition_60) (fun r_99 u_98 H locs hw hP hD hS => ?_)
                try dsimp only at hw hP hD
                obtain ⟨p_100, p_101⟩ := hw
                refine lv_if_eq (tgt := 37) hx hb dX10_condition_63 (by decide) (fun c_102 => ?_) (fun c_102 => ?_)
                · have gc_102 : r_99.toInt = 0 := i_eq (rfl : r_99.toInt = r_99.toInt) (by decide : (0 : Int32).toInt = 0) c_102
                  exact ih37_46 znewArg_88 znewCode_87 zstack_89 l_38 zbad_82 zcodes_83 zisBehind_86 w_42 zopen_84 zplace_81 zstacked_85 (by omega) (by omega) (by omega) (by omega) (by omega) (by omega) (by omega) (by omega) (fun h0 => absurd h0 (by omega)) (fun h0 => absurd h0 (by omega)) (fun h0 => absurd h0 (by omega)) (by omega) _ _ _ hP hD hS (lv_sub hl [0, 1] rfl)
                · have gc_102 : r_99.toInt ≠ 0 := i_ne (rfl : r_99.toInt = r_99.toInt) (by decide : (0 : Int32).toInt = 0) c_102
                  refine lv_aload_n hx hb dX10_condition_66 rfl (lv_at hl 1 rfl) ?_
                  refine xi hD hS hA (xV (As := []) (rest := []) hx hb hml hown hts hK hP hD hS hA NT_ok hN hAe hl.1 ⟨Nat.le_refl _, Nat.le_refl _⟩ 0 rfl rfl rfl (c_X10_goesBehind l D cy hm v_taped v_walkers v_loads v_pieces v_changeCosts v_planned v_isMarch v_clauseMany zplace_81 v_end zbad_82 v_clauses zcodes_83 zopen_84 zstacked_85 w_42 zisBehind_86 v_atW v_atL v_atT v_atH v_atM v_atI v_atQ v_packing v_packed v_goPace v_goMinutes v_spentAt v_ranChanges f_m_tape f_m_knee f_m_weight f_m_isLame f_m_loadWeight f_m_owner f_m_food f_m_miles f_m_slope f_m_clauseLetter f_m_sumFrom f_m_codeFrom f_m_codeTo f_m_code f_m_codeArg f_m_newLetter f_m_newSum f_m_newFrom f_m_newTo znewCode_87 znewArg_88 zstack_89 f_m_worth f_m_isRefused f_m_least f_m_packPounds f_m_packOwner f_m_room f_m_givenTo f_m_canBe f_m_setPounds f_m_plainTime f_m_muleTime f_m_planTo f_m_march f_m_tired f_m_ranMinutes f_m_tiredAhead f_m_isReached f_m_toEnd f_m_upTo f_m_upNext f_m_byChanges f_m_bandPaces H.size f_m_newCode F (by omega) (by omega) (by omega) (by omega) (by omega) (by omega) hr_m_tape (by omega) (by omega) (p_92 (by omega))) (gi_V lwd_492 lwd_493 lwd_494 lwd_5 lwd_495) ⟨rfl, hd_X10_goesBehind⟩ ⟨Nat.le_of_ble_eq_true rfl, Nat.le_of_ble_eq_true rfl⟩ rfl (Nat.le_of_ble_eq_true rfl) dX10_condition_67) (fun r_104 u_103 H locs hw hP hD hS => ?_)
                  obtain ⟨zplace_105, zbad_106, zcodes_107, zopen_108, zstacked_109, zisOver_110, znewCode_111, znewArg_112, zstack_113⟩ := u_103
                  try dsimp only at hw hP hD
                  obtain ⟨p_114, p_115, p_116, p_117, p_118, p_119, p_120, p_121, p_122⟩ := hw
                  refine lv_istore_n (lv' := [(1, .int r_104), (0, .ref (hm 0))]) hx hb dX10_condition_70 rfl hl (by decide) rfl (fun ls hl => ?_)
                  refine lv_goto (tgt := 37) hx hb dX10_condition_71 (by decide) ?_
                  exact ih37_46 znewArg_112 znewCode_111 zstack_113 r_104 zbad_106 zcodes_107 zisBehind_86 zisOver_110 zopen_108 zplace_105 zstacked_109 (by omega) (by omega) (by omega) (by omega) (by omega) (by omega) (by omega) (by omega) (fun h0 h1 h2 => by
                    obtain hz | hz | hz := p_117 h0
                    · exact absurd h1 (by omega)
                    · exact hz.2.2
                    · exact absurd h2 (by omega)) (fun h0 h1 h2 => by
                    obtain hz | hz | hz := p_117 h0
                    · exact absurd h1 (by omega)
                    · exact absurd h2 (by omega)
                    · exact hz.2.2) (fun h0 h1 => by
                    obtain hz | hz | hz := p_117 h0
                    · exact ⟨hz.2.2.1, hz.2.2.2⟩
                    · exact absurd h1 (by omega)
                    · exact absurd h1 (by omega)) (by omega) _ _ _ hP hD hS (lv_sub hl [0, 1] rfl)
      have k_123 : (1 : Int32).toInt = 1 := by decide
      have k_124 : (0 : Int32).toInt = 0 := by decide
      exact L37_46 8589934592 f_m_newArg f_m_newCode zstack_18 1 zbad_15 v_codes v_isBehind 0 zopen_16 zplace_14 zstacked_17 (by omega) (by omega) (by omega) (by omega) (by omega) (by omega) (by omega) (by omega) (fun _ _ _ => by rw [p_19]; exact CS_start hd hs (by omega) (by have q := p_5; omega)) (fun _ _ z => absurd z (by decide)) (fun _ z => absurd z (by decide)) (by omega) _ _ _ hP hD hS (lv_sub hl [0, 1] rfl)
    · have gc_11 : r_8.toInt = 0 := i_eq (rfl : r_8.toInt = r_8.toInt) (by decide : (0 : Int32).toInt = 0) c_11
      have k_125 : (0 : Int32).toInt = 0 := by decide
      exact hrt v_place v_bad v_codes v_open v_stacked 0 v_isBehind f_m_newCode f_m_newArg f_m_stack ⟨(by omega), (by omega), (fun h0 => absurd h0 (by omega)), (by omega), (by omega), (by omega), (by omega), (by omega), (by omega)⟩ hP hD hS dX10_condition_30
  · have gc_6 : r_2.toInt ≠ 40 := i_ne (rfl : r_2.toInt = r_2.toInt) (by decide : (40 : Int32).toInt = 40) c_6
    refine lv_aload_n hx hb dX10_condition_14 rfl (lv_at hl 0 rfl) ?_
    refine lv_iconst (v := 1) hx hb dX10_condition_15 (by decide) ?_
    refine lv_aload_n hx hb dX10_condition_16 rfl (lv_at hl 0 rfl) ?_
    refine gt_MD_MD_place hx hb hts hown hK hP lwd_400 dX10_condition_17 ?_
    have k_126 : (1 : Int32).toInt = 1 := by decide
    refine xv hD hS hA (xV (As := [.int 1, .int v_place]) (rest := []) hx hb hml hown hts hK hP hD hS hA NT_ok hN hAe hl.1 ⟨Nat.le_refl _, Nat.le_refl _⟩ 0 rfl rfl rfl (c_X10_wrongs l D cy hm v_taped v_walkers v_loads v_pieces v_changeCosts v_planned v_isMarch v_clauseMany v_place v_end v_bad v_clauses v_codes v_open v_stacked 0 v_isBehind v_atW v_atL v_atT v_atH v_atM v_atI v_atQ v_packing v_packed v_goPace v_goMinutes v_spentAt v_ranChanges f_m_tape f_m_knee f_m_weight f_m_isLame f_m_loadWeight f_m_owner f_m_food f_m_miles f_m_slope f_m_clauseLetter f_m_sumFrom f_m_codeFrom f_m_codeTo f_m_code f_m_codeArg f_m_newLetter f_m_newSum f_m_newFrom f_m_newTo f_m_newCode f_m_newArg f_m_stack f_m_worth f_m_isRefused f_m_least f_m_packPounds f_m_packOwner f_m_room f_m_givenTo f_m_canBe f_m_setPounds f_m_plainTime f_m_muleTime f_m_planTo f_m_march f_m_tired f_m_ranMinutes f_m_tiredAhead f_m_isReached f_m_toEnd f_m_upTo f_m_upNext f_m_byChanges f_m_bandPaces H.size 1 v_place (by omega) (by omega) (by omega)) (gi_V lwd_420 lwd_421 lwd_422 lwd_5 lwd_423) ⟨rfl, hd_X10_wrongs⟩ ⟨Nat.le_of_ble_eq_true rfl, Nat.le_of_ble_eq_true rfl⟩ rfl (Nat.le_of_ble_eq_true rfl) dX10_condition_20) (fun u_127 H locs hw hP hD hS => ?_)
    obtain ⟨zbad_129, rfl⟩ : ∃ z, z = u_127 := ⟨_, rfl⟩
    try dsimp only at hw hP hD
    obtain ⟨p_130, p_131⟩ := hw
    refine lv_aload_n hx hb dX10_condition_23 rfl (lv_at hl 0 rfl) ?_
    refine xi hD hS hA (xV (As := []) (rest := []) hx hb hml hown hts hK hP hD hS hA NT_ok hN hAe hl.1 ⟨Nat.le_refl _, Nat.le_refl _⟩ 0 rfl rfl rfl (c_X10_isGood l D cy hm v_taped v_walkers v_loads v_pieces v_changeCosts v_planned v_isMarch v_clauseMany v_place v_end zbad_129 v_clauses v_codes v_open v_stacked 0 v_isBehind v_atW v_atL v_atT v_atH v_atM v_atI v_atQ v_packing v_packed v_goPace v_goMinutes v_spentAt v_ranChanges f_m_tape f_m_knee f_m_weight f_m_isLame f_m_loadWeight f_m_owner f_m_food f_m_miles f_m_slope f_m_clauseLetter f_m_sumFrom f_m_codeFrom f_m_codeTo f_m_code f_m_codeArg f_m_newLetter f_m_newSum f_m_newFrom f_m_newTo f_m_newCode f_m_newArg f_m_stack f_m_worth f_m_isRefused f_m_least f_m_packPounds f_m_packOwner f_m_room f_m_givenTo f_m_canBe f_m_setPounds f_m_plainTime f_m_muleTime f_m_planTo f_m_march f_m_tired f_m_ranMinutes f_m_tiredAhead f_m_isReached f_m_toEnd f_m_upTo f_m_upNext f_m_byChanges f_m_bandPaces H.size (by omega)) (gi_V lwd_406 lwd_407 lwd_408 lwd_5 lwd_409) ⟨rfl, hd_X10_isGood⟩ ⟨Nat.le_of_ble_eq_true rfl, Nat.le_of_ble_eq_true rfl⟩ rfl (Nat.le_of_ble_eq_true rfl) dX10_condition_24) (fun r_133 u_132 H locs hw hP hD hS => ?_)
    try dsimp only at hw hP hD
    obtain ⟨p_134, p_135⟩ := hw
    refine lv_if_ne (tgt := 31) hx hb dX10_condition_27 (by decide) (fun c_136 => ?_) (fun c_136 => ?_)
    · have gc_136 : r_133.toInt ≠ 0 := i_ne (rfl : r_133.toInt = r_133.toInt) (by decide : (0 : Int32).toInt = 0) c_136
      refine lv_aload_n hx hb dX10_condition_31 rfl (lv_at hl 0 rfl) ?_
      refine xv hD hS hA (xV (As := []) (rest := []) hx hb hml hown hts hK hP hD hS hA NT_ok hN hAe hl.1 ⟨Nat.le_refl _, Nat.le_refl _⟩ 0 rfl rfl rfl (c_X10_opens l D cy hm v_taped v_walkers v_loads v_pieces v_changeCosts v_planned v_isMarch v_clauseMany v_place v_end zbad_129 v_clauses v_codes v_open v_stacked 0 v_isBehind v_atW v_atL v_atT v_atH v_atM v_atI v_atQ v_packing v_packed v_goPace v_goMinutes v_spentAt v_ranChanges f_m_tape f_m_knee f_m_weight f_m_isLame f_m_loadWeight f_m_owner f_m_food f_m_miles f_m_slope f_m_clauseLetter f_m_sumFrom f_m_codeFrom f_m_codeTo f_m_code f_m_codeArg f_m_newLetter f_m_newSum f_m_newFrom f_m_newTo f_m_newCode f_m_newArg f_m_stack f_m_worth f_m_isRefused f_m_least f_m_packPounds f_m_packOwner f_m_room f_m_givenTo f_m_canBe f_m_setPounds f_m_plainTime f_m_muleTime f_m_planTo f_m_march f_m_tired f_m_ranMinutes f_m_tiredAhead f_m_isReached f_m_toEnd f_m_upTo f_m_upNext f_m_byChanges f_m_bandPaces H.size (by omega) (by omega) (by omega) (by omega) hr_m_tape (by omega)) (gi_V lwd_433 lwd_434 lwd_435 lwd_5 lwd_436) ⟨rfl, hd_X10_opens⟩ ⟨Nat.le_of_ble_eq_true rfl, Nat.le_of_ble_eq_true rfl⟩ rfl (Nat.le_of_ble_eq_true rfl) dX10_condition_32) (fun u_137 H locs hw hP hD hS => ?_)
      obtain ⟨zplace_139, zbad_140, zopen_141, zstacked_142, zstack_143⟩ := u_137
      try dsimp only at hw hP hD
      obtain ⟨p_144, p_145, p_146, p_147, p_148⟩ := hw
      refine lv_iconst (v := 1) hx hb dX10_condition_35 (by decide) ?_
      refine lv_istore_n (lv' := [(1, .int 1), (0, .ref (hm 0))]) hx hb dX10_condition_36 rfl hl (by decide) rfl (fun ls hl => ?_)
      have L37_171 : ∀ (n : Nat) (f_160 : Nat → Int32) (f_161 : Nat → Int32) (f_162 : Nat → Int32) (l_163 : Int32) (w_164 : Int32) (w_165 : Int32) (w_166 : Int32) (w_167 : Int32) (w_168 : Int32) (w_169 : Int32) (w_170 : Int32), (0 ≤ l_163.toInt ∧ l_163.toInt ≤ 1) → (-6000 ≤ w_164.toInt ∧ w_164.toInt ≤ 0) → (0 ≤ w_165.toInt ∧ w_165.toInt ≤ 200) → (0 ≤ w_166.toInt ∧ w_166.toInt ≤ 1) → (0 ≤ w_167.toInt ∧ w_167.toInt ≤ 1) → (0 ≤ w_169.toInt ∧ w_169.toInt ≤ 200) → (0 ≤ w_170.toInt ∧ w_170.toInt ≤ 200) → (v_place.toInt ≤ w_169.toInt ∧ w_169.toInt ≤ v_end.toInt ∧ w_165.toInt + w_170.toInt ≤ w_169.toInt ∧ w_164.toInt ≤ v_bad.toInt) → (w_164.toInt = 0 → w_167.toInt = 0 → l_163.toInt ≠ 0 → CS f_m_newCode F f_162 f_161 w_170 w_165 0) → (w_164.toInt = 0 → w_167.toInt = 0 → l_163.toInt = 0 → CS f_m_newCode F f_162 f_161 w_170 w_165 1) → (w_164.toInt = 0 → w_167.toInt = 1 → dA f_161 F w_165 1 ∧ (∀ j, j < F → f_161 j = f_m_newCode j)) → 6201 + w_164.toInt - w_169.toInt < n → ∀ (H : Heap) (locs : List Loc) (ls : Array Slot), va_P D vwCl (wMD cy hm v_taped v_walkers v_loads v_pieces v_changeCosts v_planned v_isMarch v_clauseMany w_169 v_end w_164 v_clauses w_165 w_168 w_170 w_167 w_166 v_atW v_atL v_atT v_atH v_atM v_atI v_atQ v_packing v_packed v_goPace v_goMinutes v_spentAt v_ranChanges f_m_tape f_m_knee f_m_weight f_m_isLame f_m_loadWeight f_m_owner f_m_food f_m_miles f_m_slope f_m_clauseLetter f_m_sumFrom f_m_codeFrom f_m_codeTo f_m_code f_m_codeArg f_m_newLetter f_m_newSum f_m_newFrom f_m_newTo f_161 f_160 f_162 f_m_worth f_m_isRefused f_m_least f_m_packPounds f_m_packOwner f_m_room f_m_givenTo f_m_canBe f_m_setPounds f_m_plainTime f_m_muleTime f_m_planTo f_m_march f_m_tired f_m_ranMinutes f_m_tiredAhead f_m_isReached f_m_toEnd f_m_upTo f_m_upNext f_m_byChanges f_m_bandPaces) H → va_D A (wMD cy hm v_taped v_walkers v_loads v_pieces v_changeCosts v_planned v_isMarch v_clauseMany w_169 v_end w_164 v_clauses w_165 w_168 w_170 w_167 w_166 v_atW v_atL v_atT v_atH v_atM v_atI v_atQ v_packing v_packed v_goPace v_goMinutes v_spentAt v_ranChanges f_m_tape f_m_knee f_m_weight f_m_isLame f_m_loadWeight f_m_owner f_m_food f_m_miles f_m_slope f_m_clauseLetter f_m_sumFrom f_m_codeFrom f_m_codeTo f_m_code f_m_codeArg f_m_newLetter f_m_newSum f_m_newFrom f_m_newTo f_161 f_160 f_162 f_m_worth f_m_isRefused f_m_least f_m_packPounds f_m_packOwner f_m_room f_m_givenTo f_m_canBe f_m_setPounds f_m_plainTime f_m_muleTime f_m_planTo f_m_march f_m_tired f_m_ranMinutes f_m_tiredAhead f_m_isReached f_m_toEnd f_m_upTo f_m_upNext f_m_byChanges f_m_bandPaces) → va_S A s.heap H locs → lv_has ls 2 [(1, .int l_163), (0, .ref (hm 0))] → W p l e (gRm 7) s m args below meth c H locs 0 0 Q (F0 m 37 ls []) := by
        intro n
        induction n with
        | zero => intro f_160 f_161 f_162 l_163 w_164 w_165 w_166 w_167 w_168 w_169 w_170 hL37_171_0 hL37_171_1 hL37_171_2 hL37_171_3 hL37_171_4 hL37_171_5 hL37_171_6 hL37_171_7 hL37_171_8 hL37_171_9 hL37_171_10 hm; exact absurd hm (by omega)
        | succ n ih37_171 =>
          intro f_160 f_161 f_162 l_163 w_164 w_165 w_166 w_167 w_168 w_169 w_170 hL37_171_0 hL37_171_1 hL37_171_2 hL37_171_3 hL37_171_4 hL37_171_5 hL37_171_6 hL37_171_7 hL37_171_8 hL37_171_9 hL37_171_10 hmL37_171 H locs ls hP hD hS hl
          refine lv_aload_n hx hb dX10_condition_37 rfl (lv_at hl 1 rfl) ?_
          refine xi hD hS hA (xV (As := []) (rest := []) hx hb hml hown hts hK hP hD hS hA NT_ok hN hAe hl.1 ⟨Nat.le_refl _, Nat.le_refl _⟩ 0 rfl rfl rfl (c_X10_isGood l D cy hm v_taped v_walkers v_loads v_pieces v_changeCosts v_planned v_isMarch v_clauseMany w_169 v_end w_164 v_clauses w_165 w_168 w_170 w_167 w_166 v_atW v_atL v_atT v_atH v_atM v_atI v_atQ v_packing v_packed v_goPace v_goMinutes v_spentAt v_ranChanges f_m_tape f_m_knee f_m_weight f_m_isLame f_m_loadWeight f_m_owner f_m_food f_m_miles f_m_slope f_m_clauseLetter f_m_sumFrom f_m_codeFrom f_m_codeTo f_m_code f_m_codeArg f_m_newLetter f_m_newSum f_m_newFrom f_m_newTo f_161 f_160 f_162 f_m_worth f_m_isRefused f_m_least f_m_packPounds f_m_packOwner f_m_room f_m_givenTo f_m_canBe f_m_setPounds f_m_plainTime f_m_muleTime f_m_planTo f_m_march f_m_tired f_m_ranMinutes f_m_tiredAhead f_m_isReached f_m_toEnd f_m_upTo f_m_upNext f_m_byChanges f_m_bandPaces H.size (by omega)) (gi_V lwd_406 lwd_407 lwd_408 lwd_5 lwd_409) ⟨rfl, hd_X10_isGood⟩ ⟨Nat.le_of_ble_eq_true rfl, Nat.le_of_ble_eq_true rfl⟩ rfl (Nat.le_of_ble_eq_true rfl) dX10_condition_38) (fun r_173 u_172 H locs hw hP hD hS => ?_)
          try dsimp only at hw hP hD
          obtain ⟨p_174, p_175⟩ := hw
          refine lv_if_eq (tgt := 74) hx hb dX10_condition_41 (by decide) (fun c_176 => ?_) (fun c_176 => ?_)
          · have gc_176 : r_173.toInt = 0 := i_eq (rfl : r_173.toInt = r_173.toInt) (by decide : (0 : Int32).toInt = 0) c_176
            exact hrt w_169 w_164 w_165 w_168 w_170 w_167 w_166 f_161 f_160 f_162 ⟨(by omega), (by omega), (fun h0 => hL37_171_10 h0 (by omega)), (by omega), (by omega), (by omega), (by omega), (by omega), (by omega)⟩ hP hD hS dX10_condition_74
          · have gc_176 : r_173.toInt ≠ 0 := i_ne (rfl : r_173.toInt = r_173.toInt) (by decide : (0 : Int32).toInt = 0) c_176
            refine lv_aload_n hx hb dX10_condition_44 rfl (lv_at hl 1 rfl) ?_
            refine gt_MD_MD_isOver hx hb hts hown hK hP lwd_480 dX10_condition_45 ?_
            refine lv_if_ne (tgt := 74) hx hb dX10_condition_48 (by decide) (fun c_177 => ?_) (fun c_177 => ?_)
            · have gc_177 : w_167.toInt ≠ 0 := i_ne (rfl : w_167.toInt = w_167.toInt) (by decide : (0 : Int32).toInt = 0) c_177
              exact hrt w_169 w_164 w_165 w_168 w_170 w_167 w_166 f_161 f_160 f_162 ⟨(by omega), (by omega), (fun h0 => hL37_171_10 h0 (by omega)), (by omega), (by omega), (by omega), (by omega), (by omega), (by omega)⟩ hP hD hS dX10_condition_74
            · have gc_177 : w_167.toInt = 0 := i_eq (rfl : w_167.toInt = w_167.toInt) (by decide : (0 : Int32).toInt = 0) c_177
              refine lv_iload_n hx hb dX10_condition_51 rfl (lv_at hl 0 rfl) ?_
              refine lv_if_eq (tgt := 59) hx hb dX10_condition_52 (by decide) (fun c_178 => ?_) (fun c_178 => ?_)
              · have gc_178 : l_163.toInt = 0 := i_eq (rfl : l_163.toInt = l_163.toInt) (by decide : (0 : Int32).toInt = 0) c_178
                refine lv_aload_n hx hb dX10_condition_59 rfl (lv_at hl 1 rfl) ?_
                refine xi hD hS hA (xV (As := []) (rest := []) hx hb hml hown hts hK hP hD hS hA NT_ok hN hAe hl.1 ⟨Nat.le_refl _, Nat.le_refl _⟩ 0 rfl rfl rfl (c_X10_isGood l D cy hm v_taped v_walkers v_loads v_pieces v_changeCosts v_planned v_isMarch v_clauseMany w_169 v_end w_164 v_clauses w_165 w_168 w_170 w_167 w_166 v_atW v_atL v_atT v_atH v_atM v_atI v_atQ v_packing v_packed v_goPace v_goMinutes v_spentAt v_ranChanges f_m_tape f_m_knee f_m_weight f_m_isLame f_m_loadWeight f_m_owner f_m_food f_m_miles f_m_slope f_m_clauseLetter f_m_sumFrom f_m_codeFrom f_m_codeTo f_m_code f_m_codeArg f_m_newLetter f_m_newSum f_m_newFrom f_m_newTo f_161 f_160 f_162 f_m_worth f_m_isRefused f_m_least f_m_packPounds f_m_packOwner f_m_room f_m_givenTo f_m_canBe f_m_setPounds f_m_plainTime f_m_muleTime f_m_planTo f_m_march f_m_tired f_m_ranMinutes f_m_tiredAhead f_m_isReached f_m_toEnd f_m_upTo f_m_upNext f_m_byChanges f_m_bandPaces H.size (by omega)) (gi_V lwd_406 lwd_407 lwd_408 lwd_5 lwd_409) ⟨rfl, hd_X10_isGood⟩ ⟨Nat.le_of_ble_eq_true rfl, Nat.le_of_ble_eq_true rfl⟩ rfl (Nat.le_of_ble_eq_true rfl) dX10_condition_60) (fun r_180 u_179 H locs hw hP hD hS => ?_)
                try dsimp only at hw hP hD
                obtain ⟨p_181, p_182⟩ := hw
                refine lv_if_eq (tgt := 37) hx hb dX10_condition_63 (by decide) (fun c_183 => ?_) (fun c_183 => ?_)
                · have gc_183 : r_180.toInt = 0 := i_eq (rfl : r_180.toInt = r_180.toInt) (by decide : (0 : Int32).toInt = 0) c_183
                  exact ih37_171 f_160 f_161 f_162 l_163 w_164 w_165 w_166 w_167 w_168 w_169 w_170 (by omega) (by omega) (by omega) (by omega) (by omega) (by omega) (by omega) (by omega) (fun h0 => absurd h0 (by omega)) (fun h0 => absurd h0 (by omega)) (fun h0 => absurd h0 (by omega)) (by omega) _ _ _ hP hD hS (lv_sub hl [0, 1] rfl)
                · have gc_183 : r_180.toInt ≠ 0 := i_ne (rfl : r_180.toInt = r_180.toInt) (by decide : (0 : Int32).toInt = 0) c_183
                  refine lv_aload_n hx hb dX10_condition_66 rfl (lv_at hl 1 rfl) ?_
                  refine xi hD hS hA (xV (As := []) (rest := []) hx hb hml hown hts hK hP hD hS hA NT_ok hN hAe hl.1 ⟨Nat.le_refl _, Nat.le_refl _⟩ 0 rfl rfl rfl (c_X10_goesBehind l D cy hm v_taped v_walkers v_loads v_pieces v_changeCosts v_planned v_isMarch v_clauseMany w_169 v_end w_164 v_clauses w_165 w_168 w_170 w_167 w_166 v_atW v_atL v_atT v_atH v_atM v_atI v_atQ v_packing v_packed v_goPace v_goMinutes v_spentAt v_ranChanges f_m_tape f_m_knee f_m_weight f_m_isLame f_m_loadWeight f_m_owner f_m_food f_m_miles f_m_slope f_m_clauseLetter f_m_sumFrom f_m_codeFrom f_m_codeTo f_m_code f_m_codeArg f_m_newLetter f_m_newSum f_m_newFrom f_m_newTo f_161 f_160 f_162 f_m_worth f_m_isRefused f_m_least f_m_packPounds f_m_packOwner f_m_room f_m_givenTo f_m_canBe f_m_setPounds f_m_plainTime f_m_muleTime f_m_planTo f_m_march f_m_tired f_m_ranMinutes f_m_tiredAhead f_m_isReached f_m_toEnd f_m_upTo f_m_upNext f_m_byChanges f_m_bandPaces H.size f_m_newCode F (by omega) (by omega) (by omega) (by omega) (by omega) (by omega) hr_m_tape (by omega) (by omega) (hL37_171_9 (by omega) (by omega) (by omega))) (gi_V lwd_492 lwd_493 lwd_494 lwd_5 lwd_495) ⟨rfl, hd_X10_goesBehind⟩ ⟨Nat.le_of_ble_eq_true rfl, Nat.le_of_ble_eq_true rfl⟩ rfl (Nat.le_of_ble_eq_true rfl) dX10_condition_67) (fun r_185 u_184 H locs hw hP hD hS => ?_)
                  obtain ⟨zplace_186, zbad_187, zcodes_188, zopen_189, zstacked_190, zisOver_191, znewCode_192, znewArg_193, zstack_194⟩ := u_184
                  try dsimp only at hw hP hD
                  obtain ⟨p_195, p_196, p_197, p_198, p_199, p_200, p_201, p_202, p_203⟩ := hw
                  refine lv_istore_n (lv' := [(1, .int r_185), (0, .ref (hm 0))]) hx hb dX10_condition_70 rfl hl (by decide) rfl (fun ls hl => ?_)
                  refine lv_goto (tgt := 37) hx hb dX10_condition_71 (by decide) ?_
                  exact ih37_171 znewArg_193 znewCode_192 zstack_194 r_185 zbad_187 zcodes_188 w_166 zisOver_191 zopen_189 zplace_186 zstacked_190 (by omega) (by omega) (by omega) (by omega) (by omega) (by omega) (by omega) (by omega) (fun h0 h1 h2 => by
                    obtain hz | hz | hz := p_198 h0
                    · exact absurd h1 (by omega)
                    · exact hz.2.2
                    · exact absurd h2 (by omega)) (fun h0 h1 h2 => by
                    obtain hz | hz | hz := p_198 h0
                    · exact absurd h1 (by omega)
                    · exact absurd h2 (by omega)
                    · exact hz.2.2) (fun h0 h1 => by
                    obtain hz | hz | hz := p_198 h0
                    · exact ⟨hz.2.2.1, hz.2.2.2⟩
                    · exact absurd h1 (by omega)
                    · exact absurd h1 (by omega)) (by omega) _ _ _ hP hD hS (lv_sub hl [0, 1] rfl)
              · have gc_178 : l_163.toInt ≠ 0 := i_ne (rfl : l_163.toInt = l_163.toInt) (by decide : (0 : Int32).toInt = 0) c_178
                refine lv_aload_n hx hb dX10_condition_55 rfl (lv_at hl 1 rfl) ?_
                refine xv hD hS hA (xV (As := []) (rest := []) hx hb hml hown hts hK hP hD hS hA NT_ok hN hAe hl.1 ⟨Nat.le_refl _, Nat.le_refl _⟩ 0 rfl rfl rfl (c_X10_pieceOfC l D cy hm v_taped v_walkers v_loads v_pieces v_changeCosts v_planned v_isMarch v_clauseMany w_169 v_end w_164 v_clauses w_165 w_168 w_170 w_167 w_166 v_atW v_atL v_atT v_atH v_atM v_atI v_atQ v_packing v_packed v_goPace v_goMinutes v_spentAt v_ranChanges f_m_tape f_m_knee f_m_weight f_m_isLame f_m_loadWeight f_m_owner f_m_food f_m_miles f_m_slope f_m_clauseLetter f_m_sumFrom f_m_codeFrom f_m_codeTo f_m_code f_m_codeArg f_m_newLetter f_m_newSum f_m_newFrom f_m_newTo f_161 f_160 f_162 f_m_worth f_m_isRefused f_m_least f_m_packPounds f_m_packOwner f_m_room f_m_givenTo f_m_canBe f_m_setPounds f_m_plainTime f_m_muleTime f_m_planTo f_m_march f_m_tired f_m_ranMinutes f_m_tiredAhead f_m_isReached f_m_toEnd f_m_upTo f_m_upNext f_m_byChanges f_m_bandPaces H.size f_m_newCode F (by omega) (by omega) (by omega) (by omega) (by omega) (by omega) hr_m_tape (by omega) (by omega) (hL37_171_8 (by omega) (by omega) (by omega))) (gi_V lwd_481 lwd_482 lwd_483 lwd_5 lwd_484) ⟨rfl, hd_X10_pieceOfC⟩ ⟨Nat.le_of_ble_eq_true rfl, Nat.le_of_ble_eq_true rfl⟩ rfl (Nat.le_of_ble_eq_true rfl) dX10_condition_56) (fun u_204 H locs hw hP hD hS => ?_)
                obtain ⟨zplace_206, zbad_207, zcodes_208, zopen_209, zstacked_210, zisBehind_211, znewCode_212, znewArg_213, zstack_214⟩ := u_204
                try dsimp only at hw hP hD
                obtain ⟨p_215, p_216, p_217, p_218, p_219, p_220, p_221, p_222⟩ := hw
                refine lv_aload_n hx hb dX10_condition_59 rfl (lv_at hl 1 rfl) ?_
                refine xi hD hS hA (xV (As := []) (rest := []) hx hb hml hown hts hK hP hD hS hA NT_ok hN hAe hl.1 ⟨Nat.le_refl _, Nat.le_refl _⟩ 0 rfl rfl rfl (c_X10_isGood l D cy hm v_taped v_walkers v_loads v_pieces v_changeCosts v_planned v_isMarch v_clauseMany zplace_206 v_end zbad_207 v_clauses zcodes_208 zopen_209 zstacked_210 w_167 zisBehind_211 v_atW v_atL v_atT v_atH v_atM v_atI v_atQ v_packing v_packed v_goPace v_goMinutes v_spentAt v_ranChanges f_m_tape f_m_knee f_m_weight f_m_isLame f_m_loadWeight f_m_owner f_m_food f_m_miles f_m_slope f_m_clauseLetter f_m_sumFrom f_m_codeFrom f_m_codeTo f_m_code f_m_codeArg f_m_newLetter f_m_newSum f_m_newFrom f_m_newTo znewCode_212 znewArg_213 zstack_214 f_m_worth f_m_isRefused f_m_least f_m_packPounds f_m_packOwner f_m_room f_m_givenTo f_m_canBe f_m_setPounds f_m_plainTime f_m_muleTime f_m_planTo f_m_march f_m_tired f_m_ranMinutes f_m_tiredAhead f_m_isReached f_m_toEnd f_m_upTo f_m_upNext f_m_byChanges f_m_bandPaces H.size (by omega)) (gi_V lwd_406 lwd_407 lwd_408 lwd_5 lwd_409) ⟨rfl, hd_X10_isGood⟩ ⟨Nat.le_of_ble_eq_true rfl, Nat.le_of_ble_eq_true rfl⟩ rfl (Nat.le_of_ble_eq_true rfl) dX10_condition_60) (fun r_224 u_223 H locs hw hP hD hS => ?_)
                try dsimp only at hw hP hD
                obtain ⟨p_225, p_226⟩ := hw
                refine lv_if_eq (tgt := 37) hx hb dX10_condition_63 (by decide) (fun c_227 => ?_) (fun c_227 => ?_)
                · have gc_227 : r_224.toInt = 0 := i_eq (rfl : r_224.toInt = r_224.toInt) (by decide : (0 : Int32).toInt = 0) c_227
                  exact ih37_171 znewArg_213 znewCode_212 zstack_214 l_163 zbad_207 zcodes_208 zisBehind_211 w_167 zopen_209 zplace_206 zstacked_210 (by omega) (by omega) (by omega) (by omega) (by omega) (by omega) (by omega) (by omega) (fun h0 => absurd h0 (by omega)) (fun h0 => absurd h0 (by omega)) (fun h0 => absurd h0 (by omega)) (by omega) _ _ _ hP hD hS (lv_sub hl [0, 1] rfl)
                · have gc_227 : r_224.toInt ≠ 0 := i_ne (rfl : r_224.toInt = r_224.toInt) (by decide : (0 : Int32).toInt = 0) c_227
                  refine lv_aload_n hx hb dX10_condition_66 rfl (lv_at hl 1 rfl) ?_
                  refine xi hD hS hA (xV (As := []) (rest := []) hx hb hml hown hts hK hP hD hS hA NT_ok hN hAe hl.1 ⟨Nat.le_refl _, Nat.le_refl _⟩ 0 rfl rfl rfl (c_X10_goesBehind l D cy hm v_taped v_walkers v_loads v_pieces v_changeCosts v_planned v_isMarch v_clauseMany zplace_206 v_end zbad_207 v_clauses zcodes_208 zopen_209 zstacked_210 w_167 zisBehind_211 v_atW v_atL v_atT v_atH v_atM v_atI v_atQ v_packing v_packed v_goPace v_goMinutes v_spentAt v_ranChanges f_m_tape f_m_knee f_m_weight f_m_isLame f_m_loadWeight f_m_owner f_m_food f_m_miles f_m_slope f_m_clauseLetter f_m_sumFrom f_m_codeFrom f_m_codeTo f_m_code f_m_codeArg f_m_newLetter f_m_newSum f_m_newFrom f_m_newTo znewCode_212 znewArg_213 zstack_214 f_m_worth f_m_isRefused f_m_least f_m_packPounds f_m_packOwner f_m_room f_m_givenTo f_m_canBe f_m_setPounds f_m_plainTime f_m_muleTime f_m_planTo f_m_march f_m_tired f_m_ranMinutes f_m_tiredAhead f_m_isReached f_m_toEnd f_m_upTo f_m_upNext f_m_byChanges f_m_bandPaces H.size f_m_newCode F (by omega) (by omega) (by omega) (by omega) (by omega) (by omega) hr_m_tape (by omega) (by omega) (p_217 (by omega))) (gi_V lwd_492 lwd_493 lwd_494 lwd_5 lwd_495) ⟨rfl, hd_X10_goesBehind⟩ ⟨Nat.le_of_ble_eq_true rfl, Nat.le_of_ble_eq_true rfl⟩ rfl (Nat.le_of_ble_eq_true rfl) dX10_condition_67) (fun r_229 u_228 H locs hw hP hD hS => ?_)
                  obtain ⟨zplace_230, zbad_231, zcodes_232, zopen_233, zstacked_234, zisOver_235, znewCode_236, znewArg_237, zstack_238⟩ := u_228
                  try dsimp only at hw hP hD
                  obtain ⟨p_239, p_240, p_241, p_242, p_243, p_244, p_245, p_246, p_247⟩ := hw
                  refine lv_istore_n (lv' := [(1, .int r_229), (0, .ref (hm 0))]) hx hb dX10_condition_70 rfl hl (by decide) rfl (fun ls hl => ?_)
                  refine lv_goto (tgt := 37) hx hb dX10_condition_71 (by decide) ?_
                  exact ih37_171 znewArg_237 znewCode_236 zstack_238 r_229 zbad_231 zcodes_232 zisBehind_211 zisOver_235 zopen_233 zplace_230 zstacked_234 (by omega) (by omega) (by omega) (by omega) (by omega) (by omega) (by omega) (by omega) (fun h0 h1 h2 => by
                    obtain hz | hz | hz := p_242 h0
                    · exact absurd h1 (by omega)
                    · exact hz.2.2
                    · exact absurd h2 (by omega)) (fun h0 h1 h2 => by
                    obtain hz | hz | hz := p_242 h0
                    · exact absurd h1 (by omega)
                    · exact absurd h2 (by omega)
                    · exact hz.2.2) (fun h0 h1 => by
                    obtain hz | hz | hz := p_242 h0
                    · exact ⟨hz.2.2.1, hz.2.2.2⟩
                    · exact absurd h1 (by omega)
                    · exact absurd h1 (by omega)) (by omega) _ _ _ hP hD hS (lv_sub hl [0, 1] rfl)
      have k_248 : (1 : Int32).toInt = 1 := by decide
      have k_249 : (0 : Int32).toInt = 0 := by decide
      exact L37_171 8589934592 f_m_newArg f_m_newCode zstack_143 1 zbad_140 v_codes v_isBehind 0 zopen_141 zplace_139 zstacked_142 (by omega) (by omega) (by omega) (by omega) (by omega) (by omega) (by omega) (by omega) (fun _ _ _ => by rw [p_144]; exact CS_start hd hs (by omega) (by have q := p_5; omega)) (fun _ _ z => absurd z (by decide)) (fun _ z => absurd z (by decide)) (by omega) _ _ _ hP hD hS (lv_sub hl [0, 1] rfl)
    · have gc_136 : r_133.toInt = 0 := i_eq (rfl : r_133.toInt = r_133.toInt) (by decide : (0 : Int32).toInt = 0) c_136
      have k_250 : (0 : Int32).toInt = 0 := by decide
      exact hrt v_place zbad_129 v_codes v_open v_stacked 0 v_isBehind f_m_newCode f_m_newArg f_m_stack ⟨(by omega), (by omega), (fun h0 => absurd h0 (by omega)), (by omega), (by omega), (by omega), (by omega), (by omega), (by omega)⟩ hP hD hS dX10_condition_30
set_option maxHeartbeats 16000000 in
set_option maxRecDepth 100000 in
theorem c_X10_clause (l : Launch) (D : va_G) (cy : Nat → ClassId) (hm : Nat → Nat) (v_taped v_walkers v_loads v_pieces v_changeCosts v_planned v_isMarch v_clauseMany v_place v_end v_bad v_clauses v_codes v_open v_stacked v_isOver v_isBehind v_atW v_atL v_atT v_atH v_atM v_atI v_atQ v_packing v_packed v_goPace v_goMinutes v_spentAt v_ranChanges : Int32) (f_m_tape f_m_knee f_m_weight f_m_isLame f_m_loadWeight f_m_owner f_m_food f_m_miles f_m_slope f_m_clauseLetter f_m_sumFrom f_m_codeFrom f_m_codeTo f_m_code f_m_codeArg f_m_newLetter f_m_newSum f_m_newFrom f_m_newTo f_m_newCode f_m_newArg f_m_stack f_m_worth f_m_isRefused f_m_least f_m_packPounds f_m_packOwner f_m_room f_m_givenTo f_m_canBe f_m_setPounds f_m_plainTime f_m_muleTime f_m_planTo f_m_march f_m_tired f_m_ranMinutes f_m_tiredAhead f_m_isReached f_m_toEnd f_m_upTo f_m_upNext f_m_byChanges f_m_bandPaces : Nat → Int32) (sz : Nat) (hb_v_place : 0 ≤ v_place.toInt ∧ v_place.toInt ≤ 200) (hb_v_end : 0 ≤ v_end.toInt ∧ v_end.toInt ≤ 200) (hb_v_bad : -6000 ≤ v_bad.toInt ∧ v_bad.toInt ≤ 0) (hb_v_clauses : 0 ≤ v_clauses.toInt ∧ v_clauses.toInt ≤ 14) (hb_v_codes : 0 ≤ v_codes.toInt ∧ v_codes.toInt ≤ 200) (hb_v_stacked : 0 ≤ v_stacked.toInt ∧ v_stacked.toInt ≤ 200) (hb_v_isOver : 0 ≤ v_isOver.toInt ∧ v_isOver.toInt ≤ 1) (hb_v_isBehind : 0 ≤ v_isBehind.toInt ∧ v_isBehind.toInt ≤ 1) (hr_m_tape : rg (-128) 127 f_m_tape) (hg : v_bad.toInt = 0) (hj : v_place.toInt ≤ v_end.toInt ∧ v_codes.toInt ≤ v_place.toInt) (hwn : wfN v_clauses f_m_newSum f_m_newFrom f_m_newTo f_m_newCode v_codes) : gMv l yX10_clause cX10_clause 2 8 [.ref (hm 0)] D cy (wMD cy hm v_taped v_walkers v_loads v_pieces v_changeCosts v_planned v_isMarch v_clauseMany v_place v_end v_bad v_clauses v_codes v_open v_stacked v_isOver v_isBehind v_atW v_atL v_atT v_atH v_atM v_atI v_atQ v_packing v_packed v_goPace v_goMinutes v_spentAt v_ranChanges f_m_tape f_m_knee f_m_weight f_m_isLame f_m_loadWeight f_m_owner f_m_food f_m_miles f_m_slope f_m_clauseLetter f_m_sumFrom f_m_codeFrom f_m_codeTo f_m_code f_m_codeArg f_m_newLetter f_m_newSum f_m_newFrom f_m_newTo f_m_newCode f_m_newArg f_m_stack f_m_worth f_m_isRefused f_m_least f_m_packPounds f_m_packOwner f_m_room f_m_givenTo f_m_canBe f_m_setPounds f_m_plainTime f_m_muleTime f_m_planTo f_m_march f_m_tired f_m_ranMinutes f_m_tiredAhead f_m_isReached f_m_toEnd f_m_upTo f_m_upNext f_m_byChanges f_m_bandPaces) NT sz (fun (u : Int32 × Int32 × Int32 × Int32 × Int32 × Int32 × Int32 × Int32 × (Nat → Int32) × (Nat → Int32) × (Nat → Int32) × (Nat → Int32) × (Nat → Int32) × (Nat → Int32) × (Nat → Int32)) => ((u.1).toInt ≤ v_end.toInt ∧ (u.2.2.2.1).toInt ≤ (u.1).toInt) ∧ (v_place.toInt ≤ (u.1).toInt ∧ (u.2.1).toInt ≤ v_bad.toInt ∧ ((u.2.1).toInt < 0 ∨ v_place.toInt < (u.1).toInt)) ∧ ((u.2.1).toInt = 0 → wfN (u.2.2.1) (u.2.2.2.2.2.2.2.2.2.1) (u.2.2.2.2.2.2.2.2.2.2.1) (u.2.2.2.2.2.2.2.2.2.2.2.1) (u.2.2.2.2.2.2.2.2.2.2.2.2.1) (u.2.2.2.1)) ∧ (0 ≤ (u.1).toInt ∧ (u.1).toInt ≤ 200) ∧ (-6000 ≤ (u.2.1).toInt ∧ (u.2.1).toInt ≤ 0) ∧ (0 ≤ (u.2.2.1).toInt ∧ (u.2.2.1).toInt ≤ 14) ∧ (0 ≤ (u.2.2.2.1).toInt ∧ (u.2.2.2.1).toInt ≤ 200) ∧ (0 ≤ (u.2.2.2.2.2.1).toInt ∧ (u.2.2.2.2.2.1).toInt ≤ 200) ∧ (0 ≤ (u.2.2.2.2.2.2.1).toInt ∧ (u.2.2.2.2.2.2.1).toInt ≤ 1) ∧ (0 ≤ (u.2.2.2.2.2.2.2.1).toInt ∧ (u.2.2.2.2.2.2.2.1).toInt ≤ 1)) (fun u => wMD cy hm v_taped v_walkers v_loads v_pieces v_changeCosts v_planned v_isMarch v_clauseMany (u.1) v_end (u.2.1) (u.2.2.1) (u.2.2.2.1) (u.2.2.2.2.1) (u.2.2.2.2.2.1) (u.2.2.2.2.2.2.1) (u.2.2.2.2.2.2.2.1) v_atW v_atL v_atT v_atH v_atM v_atI v_atQ v_packing v_packed v_goPace v_goMinutes v_spentAt v_ranChanges f_m_tape f_m_knee f_m_weight f_m_isLame f_m_loadWeight f_m_owner f_m_food f_m_miles f_m_slope f_m_clauseLetter f_m_sumFrom f_m_codeFrom f_m_codeTo f_m_code f_m_codeArg (u.2.2.2.2.2.2.2.2.1) (u.2.2.2.2.2.2.2.2.2.1) (u.2.2.2.2.2.2.2.2.2.2.1) (u.2.2.2.2.2.2.2.2.2.2.2.1) (u.2.2.2.2.2.2.2.2.2.2.2.2.1) (u.2.2.2.2.2.2.2.2.2.2.2.2.2.1) (u.2.2.2.2.2.2.2.2.2.2.2.2.2.2) f_m_worth f_m_isRefused f_m_least f_m_packPounds f_m_packOwner f_m_room f_m_givenTo f_m_canBe f_m_setPounds f_m_plainTime f_m_muleTime f_m_planTo f_m_march f_m_tired f_m_ranMinutes f_m_tiredAhead f_m_isReached f_m_toEnd f_m_upTo f_m_upNext f_m_byChanges f_m_bandPaces) := by
  refine gMv_in (by decide) (Nat.le_of_ble_eq_true rfl) ?_
  intro p e s m args below meth c A ls Q hx hb hml hts hown hsz hP hK hD hN hAe hA hS hl hret
  subst hsz
  have hl : lv_has ls 2 [(0, .ref (hm 0))] := hl
  have hrt := fun (v_place' : Int32) (v_bad' : Int32) (v_clauses' : Int32) (v_codes' : Int32) (v_open' : Int32) (v_stacked' : Int32) (v_isOver' : Int32) (v_isBehind' : Int32) (f_m_newLetter' : Nat → Int32) (f_m_newSum' : Nat → Int32) (f_m_newFrom' : Nat → Int32) (f_m_newTo' : Nat → Int32) (f_m_newCode' : Nat → Int32) (f_m_newArg' : Nat → Int32) (f_m_stack' : Nat → Int32) (hp : (v_place'.toInt ≤ v_end.toInt ∧ v_codes'.toInt ≤ v_place'.toInt) ∧ (v_place.toInt ≤ v_place'.toInt ∧ v_bad'.toInt ≤ v_bad.toInt ∧ (v_bad'.toInt < 0 ∨ v_place.toInt < v_place'.toInt)) ∧ (v_bad'.toInt = 0 → wfN v_clauses' f_m_newSum' f_m_newFrom' f_m_newTo' f_m_newCode' v_codes') ∧ (0 ≤ v_place'.toInt ∧ v_place'.toInt ≤ 200) ∧ (-6000 ≤ v_bad'.toInt ∧ v_bad'.toInt ≤ 0) ∧ (0 ≤ v_clauses'.toInt ∧ v_clauses'.toInt ≤ 14) ∧ (0 ≤ v_codes'.toInt ∧ v_codes'.toInt ≤ 200) ∧ (0 ≤ v_stacked'.toInt ∧ v_stacked'.toInt ≤ 200) ∧ (0 ≤ v_isOver'.toInt ∧ v_isOver'.toInt ≤ 1) ∧ (0 ≤ v_isBehind'.toInt ∧ v_isBehind'.toInt ≤ 1)) {H : Heap} {locs : List Loc} {pc : Nat} {ls : Array Slot} => hret (v_place', v_bad', v_clauses', v_codes', v_open', v_stacked', v_isOver', v_isBehind', f_m_newLetter', f_m_newSum', f_m_newFrom', f_m_newTo', f_m_newCode', f_m_newArg', f_m_stack') (H := H) (locs := locs) (pc := pc) (ls := ls) hp
  clear hret
  refine lv_aload_n hx hb dX10_clause_0 rfl (lv_at hl 0 rfl) ?_
  refine xi hD hS hA (xV (As := []) (rest := []) hx hb hml hown hts hK hP hD hS hA NT_ok hN hAe hl.1 ⟨Nat.le_refl _, Nat.le_refl _⟩ 0 rfl rfl rfl (c_X10_here l D cy hm v_taped v_walkers v_loads v_pieces v_changeCosts v_planned v_isMarch v_clauseMany v_place v_end v_bad v_clauses v_codes v_open v_stacked v_isOver v_isBehind v_atW v_atL v_atT v_atH v_atM v_atI v_atQ v_packing v_packed v_goPace v_goMinutes v_spentAt v_ranChanges f_m_tape f_m_knee f_m_weight f_m_isLame f_m_loadWeight f_m_owner f_m_food f_m_miles f_m_slope f_m_clauseLetter f_m_sumFrom f_m_codeFrom f_m_codeTo f_m_code f_m_codeArg f_m_newLetter f_m_newSum f_m_newFrom f_m_newTo f_m_newCode f_m_newArg f_m_stack f_m_worth f_m_isRefused f_m_least f_m_packPounds f_m_packOwner f_m_room f_m_givenTo f_m_canBe f_m_setPounds f_m_plainTime f_m_muleTime f_m_planTo f_m_march f_m_tired f_m_ranMinutes f_m_tiredAhead f_m_isReached f_m_toEnd f_m_upTo f_m_upNext f_m_byChanges f_m_bandPaces s.heap.size (by omega) (by omega) hr_m_tape) (gi_V lwd_416 lwd_417 lwd_418 lwd_5 lwd_419) ⟨rfl, hd_X10_here⟩ ⟨Nat.le_of_ble_eq_true rfl, Nat.le_of_ble_eq_true rfl⟩ rfl (Nat.le_of_ble_eq_true rfl) dX10_clause_1) (fun r_2 u_1 H locs hw hP hD hS => ?_)
  try dsimp only at hw hP hD
  obtain ⟨p_3, p_4, p_5⟩ := hw
  refine lv_istore_n (lv' := [(1, .int r_2), (0, .ref (hm 0))]) hx hb dX10_clause_4 rfl hl (by decide) rfl (fun ls hl => ?_)
  refine lv_iload_n hx hb dX10_clause_5 rfl (lv_at hl 0 rfl) ?_
  refine lv_bipush (v := 118) hx hb dX10_clause_6 (by decide) ?_
  refine lv_icmp_eq (tgt := 35) hx hb dX10_clause_8 (by decide) (fun c_6 => ?_) (fun c_6 => ?_)
  · have gc_6 : r_2.toInt = 118 := i_eq (rfl : r_2.toInt = r_2.toInt) (by decide : (118 : Int32).toInt = 118) c_6
    refine lv_aload_n hx hb dX10_clause_35 rfl (lv_at hl 1 rfl) ?_
    refine gt_MD_MD_clauses hx hb hts hown hK hP lwd_403 dX10_clause_36 ?_
    refine lv_bipush (v := 14) hx hb dX10_clause_39 (by decide) ?_
    refine lv_icmp_ne (tgt := 53) hx hb dX10_clause_41 (by decide) (fun c_7 => ?_) (fun c_7 => ?_)
    · have gc_7 : v_clauses.toInt ≠ 14 := i_ne (rfl : v_clauses.toInt = v_clauses.toInt) (by decide : (14 : Int32).toInt = 14) c_7
      refine lv_aload_n hx hb dX10_clause_53 rfl (lv_at hl 1 rfl) ?_
      refine xi hD hS hA (xV (As := []) (rest := []) hx hb hml hown hts hK hP hD hS hA NT_ok hN hAe hl.1 ⟨Nat.le_refl _, Nat.le_refl _⟩ 0 rfl rfl rfl (c_X10_isGood l D cy hm v_taped v_walkers v_loads v_pieces v_changeCosts v_planned v_isMarch v_clauseMany v_place v_end v_bad v_clauses v_codes v_open v_stacked v_isOver v_isBehind v_atW v_atL v_atT v_atH v_atM v_atI v_atQ v_packing v_packed v_goPace v_goMinutes v_spentAt v_ranChanges f_m_tape f_m_knee f_m_weight f_m_isLame f_m_loadWeight f_m_owner f_m_food f_m_miles f_m_slope f_m_clauseLetter f_m_sumFrom f_m_codeFrom f_m_codeTo f_m_code f_m_codeArg f_m_newLetter f_m_newSum f_m_newFrom f_m_newTo f_m_newCode f_m_newArg f_m_stack f_m_worth f_m_isRefused f_m_least f_m_packPounds f_m_packOwner f_m_room f_m_givenTo f_m_canBe f_m_setPounds f_m_plainTime f_m_muleTime f_m_planTo f_m_march f_m_tired f_m_ranMinutes f_m_tiredAhead f_m_isReached f_m_toEnd f_m_upTo f_m_upNext f_m_byChanges f_m_bandPaces H.size (by omega)) (gi_V lwd_406 lwd_407 lwd_408 lwd_5 lwd_409) ⟨rfl, hd_X10_isGood⟩ ⟨Nat.le_of_ble_eq_true rfl, Nat.le_of_ble_eq_true rfl⟩ rfl (Nat.le_of_ble_eq_true rfl) dX10_clause_54) (fun r_9 u_8 H locs hw hP hD hS => ?_)
      try dsimp only at hw hP hD
      obtain ⟨p_10, p_11⟩ := hw
      refine lv_if_ne (tgt := 61) hx hb dX10_clause_57 (by decide) (fun c_12 => ?_) (fun c_12 => ?_)
      · have gc_12 : r_9.toInt ≠ 0 := i_ne (rfl : r_9.toInt = r_9.toInt) (by decide : (0 : Int32).toInt = 0) c_12
        refine lv_aload_n hx hb dX10_clause_61 rfl (lv_at hl 1 rfl) ?_
        refine gt_MD_MD_newLetter hx hb hts hown hK hP lwd_171 dX10_clause_62 ?_
        refine lv_aload_n hx hb dX10_clause_65 rfl (lv_at hl 1 rfl) ?_
        refine gt_MD_MD_clauses hx hb hts hown hK hP lwd_403 dX10_clause_66 ?_
        refine lv_iload_n hx hb dX10_clause_69 rfl (lv_at hl 0 rfl) ?_
        refine as_m_newLetter (x := r_2) hx hb hK hP hD hS (i_in (rfl : v_clauses.toInt = v_clauses.toInt) (by omega) (by omega)) dX10_clause_70 (fun f_13 ef_13 H locs hP hD hS => ?_)
        refine lv_aload_n hx hb dX10_clause_71 rfl (lv_at hl 1 rfl) ?_
        refine gt_MD_MD_newSum hx hb hts hown hK hP lwd_172 dX10_clause_72 ?_
        refine lv_aload_n hx hb dX10_clause_75 rfl (lv_at hl 1 rfl) ?_
        refine gt_MD_MD_clauses hx hb hts hown hK hP lwd_403 dX10_clause_76 ?_
        refine lv_aload_n hx hb dX10_clause_79 rfl (lv_at hl 1 rfl) ?_
        refine gt_MD_MD_codes hx hb hts hown hK hP lwd_404 dX10_clause_80 ?_
        refine as_m_newSum (x := v_codes) hx hb hK hP hD hS (i_in (rfl : v_clauses.toInt = v_clauses.toInt) (by omega) (by omega)) dX10_clause_83 (fun f_14 ef_14 H locs hP hD hS => ?_)
        refine lv_aload_n hx hb dX10_clause_84 rfl (lv_at hl 1 rfl) ?_
        refine lv_dup hx hb dX10_clause_85 rfl ?_
        refine gt_MD_MD_place hx hb hts hown hK hP lwd_400 dX10_clause_86 ?_
        refine lv_iconst (v := 1) hx hb dX10_clause_89 (by decide) ?_
        refine lv_iadd hx hb dX10_clause_90 ?_
        refine lv_topi (fun n_15 en_15 => ?_)
        have tn_15 : n_15.toInt = v_place.toInt + 1 := i_add en_15 (rfl : v_place.toInt = v_place.toInt) (by decide : (1 : Int32).toInt = 1) (by omega) (by omega)
        refine pt_MD_MD_place (x := n_15) hx hb hts hown hK hP hD hS lwd_400 dX10_clause_91 (fun H locs hP hD hS => ?_)
        refine lv_aload_n hx hb dX10_clause_94 rfl (lv_at hl 1 rfl) ?_
        refine lv_iconst (v := 0) hx hb dX10_clause_95 (by decide) ?_
        refine pt_MD_MD_stacked (x := 0) hx hb hts hown hK hP hD hS lwd_414 dX10_clause_96 (fun H locs hP hD hS => ?_)
        refine lv_aload_n hx hb dX10_clause_99 rfl (lv_at hl 1 rfl) ?_
        refine lv_iconst (v := 0) hx hb dX10_clause_100 (by decide) ?_
        refine pt_MD_MD_open (x := 0) hx hb hts hown hK hP hD hS lwd_415 dX10_clause_101 (fun H locs hP hD hS => ?_)
        refine lv_aload_n hx hb dX10_clause_104 rfl (lv_at hl 1 rfl) ?_
        have k_16 : (0 : Int32).toInt = 0 := by decide
        refine xv hD hS hA (xV (As := []) (rest := []) hx hb hml hown hts hK hP hD hS hA NT_ok hN hAe hl.1 ⟨Nat.le_refl _, Nat.le_refl _⟩ 0 rfl rfl rfl (c_X10_value l D cy hm v_taped v_walkers v_loads v_pieces v_changeCosts v_planned v_isMarch v_clauseMany n_15 v_end v_bad v_clauses v_codes 0 0 v_isOver v_isBehind v_atW v_atL v_atT v_atH v_atM v_atI v_atQ v_packing v_packed v_goPace v_goMinutes v_spentAt v_ranChanges f_m_tape f_m_knee f_m_weight f_m_isLame f_m_loadWeight f_m_owner f_m_food f_m_miles f_m_slope f_m_clauseLetter f_m_sumFrom f_m_codeFrom f_m_codeTo f_m_code f_m_codeArg f_13 f_14 f_m_newFrom f_m_newTo f_m_newCode f_m_newArg f_m_stack f_m_worth f_m_isRefused f_m_least f_m_packPounds f_m_packOwner f_m_room f_m_givenTo f_m_canBe f_m_setPounds f_m_plainTime f_m_muleTime f_m_planTo f_m_march f_m_tired f_m_ranMinutes f_m_tiredAhead f_m_isReached f_m_toEnd f_m_upTo f_m_upNext f_m_byChanges f_m_bandPaces H.size v_codes.toNatClampNeg 0 (by omega) (by omega) (by omega) (by omega) (by decide) (by omega) hr_m_tape (by omega) (by omega) ⟨Nat.le_refl _, by rw [Nat.sub_self]; rfl⟩ (Or.inl (by decide))) (gi_V lwd_424 lwd_425 lwd_426 lwd_5 lwd_427) ⟨rfl, hd_X10_value⟩ ⟨Nat.le_of_ble_eq_true rfl, Nat.le_of_ble_eq_true rfl⟩ rfl (Nat.le_of_ble_eq_true rfl) dX10_clause_105) (fun u_17 H locs hw hP hD hS => ?_)
        obtain ⟨zplace_19, zbad_20, zcodes_21, zopen_22, zstacked_23, zisBehind_24, znewCode_25, znewArg_26, zstack_27⟩ := u_17
        try dsimp only at hw hP hD
        obtain ⟨p_28, p_29, p_30, p_31, p_32, p_33, p_34, p_35⟩ := hw
        refine lv_aload_n hx hb dX10_clause_108 rfl (lv_at hl 1 rfl) ?_
        refine gt_MD_MD_newFrom hx hb hts hown hK hP lwd_173 dX10_clause_109 ?_
        refine lv_aload_n hx hb dX10_clause_112 rfl (lv_at hl 1 rfl) ?_
        refine gt_MD_MD_clauses hx hb hts hown hK hP lwd_403 dX10_clause_113 ?_
        refine lv_aload_n hx hb dX10_clause_116 rfl (lv_at hl 1 rfl) ?_
        refine gt_MD_MD_codes hx hb hts hown hK hP lwd_404 dX10_clause_117 ?_
        refine as_m_newFrom (x := zcodes_21) hx hb hK hP hD hS (i_in (rfl : v_clauses.toInt = v_clauses.toInt) (by omega) (by omega)) dX10_clause_120 (fun f_36 ef_36 H locs hP hD hS => ?_)
        refine lv_aload_n hx hb dX10_clause_121 rfl (lv_at hl 1 rfl) ?_
        refine xi hD hS hA (xV (As := []) (rest := []) hx hb hml hown hts hK hP hD hS hA NT_ok hN hAe hl.1 ⟨Nat.le_refl _, Nat.le_refl _⟩ 0 rfl rfl rfl (c_X10_isGood l D cy hm v_taped v_walkers v_loads v_pieces v_changeCosts v_planned v_isMarch v_clauseMany zplace_19 v_end zbad_20 v_clauses zcodes_21 zopen_22 zstacked_23 v_isOver zisBehind_24 v_atW v_atL v_atT v_atH v_atM v_atI v_atQ v_packing v_packed v_goPace v_goMinutes v_spentAt v_ranChanges f_m_tape f_m_knee f_m_weight f_m_isLame f_m_loadWeight f_m_owner f_m_food f_m_miles f_m_slope f_m_clauseLetter f_m_sumFrom f_m_codeFrom f_m_codeTo f_m_code f_m_codeArg f_13 f_14 f_36 f_m_newTo znewCode_25 znewArg_26 zstack_27 f_m_worth f_m_isRefused f_m_least f_m_packPounds f_m_packOwner f_m_room f_m_givenTo f_m_canBe f_m_setPounds f_m_plainTime f_m_muleTime f_m_planTo f_m_march f_m_tired f_m_ranMinutes f_m_tiredAhead f_m_isReached f_m_toEnd f_m_upTo f_m_upNext f_m_byChanges f_m_bandPaces H.size (by omega)) (gi_V lwd_406 lwd_407 lwd_408 lwd_5 lwd_409) ⟨rfl, hd_X10_isGood⟩ ⟨Nat.le_of_ble_eq_true rfl, Nat.le_of_ble_eq_true rfl⟩ rfl (Nat.le_of_ble_eq_true rfl) dX10_clause_122) (fun r_38 u_37 H locs hw hP hD hS => ?_)
        try dsimp only at hw hP hD
        obtain ⟨p_39, p_40⟩ := hw
        refine lv_if_eq (tgt := 132) hx hb dX10_clause_125 (by decide) (fun c_41 => ?_) (fun c_41 => ?_)
        · have gc_41 : r_38.toInt = 0 := i_eq (rfl : r_38.toInt = r_38.toInt) (by decide : (0 : Int32).toInt = 0) c_41
          refine lv_aload_n hx hb dX10_clause_132 rfl (lv_at hl 1 rfl) ?_
          refine gt_MD_MD_newTo hx hb hts hown hK hP lwd_174 dX10_clause_133 ?_
          refine lv_aload_n hx hb dX10_clause_136 rfl (lv_at hl 1 rfl) ?_
          refine gt_MD_MD_clauses hx hb hts hown hK hP lwd_403 dX10_clause_137 ?_
          refine lv_aload_n hx hb dX10_clause_140 rfl (lv_at hl 1 rfl) ?_
          refine gt_MD_MD_codes hx hb hts hown hK hP lwd_404 dX10_clause_141 ?_
          refine as_m_newTo (x := zcodes_21) hx hb hK hP hD hS (i_in (rfl : v_clauses.toInt = v_clauses.toInt) (by omega) (by omega)) dX10_clause_144 (fun f_42 ef_42 H locs hP hD hS => ?_)
          refine lv_aload_n hx hb dX10_clause_145 rfl (lv_at hl 1 rfl) ?_
          refine lv_dup hx hb dX10_clause_146 rfl ?_
          refine gt_MD_MD_clauses hx hb hts hown hK hP lwd_403 dX10_clause_147 ?_
          refine lv_iconst (v := 1) hx hb dX10_clause_150 (by decide) ?_
          refine lv_iadd hx hb dX10_clause_151 ?_
          refine lv_topi (fun n_43 en_43 => ?_)
          have tn_43 : n_43.toInt = v_clauses.toInt + 1 := i_add en_43 (rfl : v_clauses.toInt = v_clauses.toInt) (by decide : (1 : Int32).toInt = 1) (by omega) (by omega)
          refine pt_MD_MD_clauses (x := n_43) hx hb hts hown hK hP hD hS lwd_403 dX10_clause_152 (fun H locs hP hD hS => ?_)
          exact hrt zplace_19 zbad_20 n_43 zcodes_21 zopen_22 zstacked_23 v_isOver zisBehind_24 f_13 f_14 f_36 f_42 znewCode_25 znewArg_26 zstack_27 ⟨(by omega), (by omega), (fun h0 => absurd h0 (by omega)), (by omega), (by omega), (by omega), (by omega), (by omega), (by omega), (by omega)⟩ hP hD hS dX10_clause_155
        · have gc_41 : r_38.toInt ≠ 0 := i_ne (rfl : r_38.toInt = r_38.toInt) (by decide : (0 : Int32).toInt = 0) c_41
          refine lv_aload_n hx hb dX10_clause_128 rfl (lv_at hl 1 rfl) ?_
          refine xv hD hS hA (xV (As := []) (rest := []) hx hb hml hown hts hK hP hD hS hA NT_ok hN hAe hl.1 ⟨Nat.le_refl _, Nat.le_refl _⟩ 0 rfl rfl rfl (c_X10_condition l D cy hm v_taped v_walkers v_loads v_pieces v_changeCosts v_planned v_isMarch v_clauseMany zplace_19 v_end zbad_20 v_clauses zcodes_21 zopen_22 zstacked_23 v_isOver zisBehind_24 v_atW v_atL v_atT v_atH v_atM v_atI v_atQ v_packing v_packed v_goPace v_goMinutes v_spentAt v_ranChanges f_m_tape f_m_knee f_m_weight f_m_isLame f_m_loadWeight f_m_owner f_m_food f_m_miles f_m_slope f_m_clauseLetter f_m_sumFrom f_m_codeFrom f_m_codeTo f_m_code f_m_codeArg f_13 f_14 f_36 f_m_newTo znewCode_25 znewArg_26 zstack_27 f_m_worth f_m_isRefused f_m_least f_m_packPounds f_m_packOwner f_m_room f_m_givenTo f_m_canBe f_m_setPounds f_m_plainTime f_m_muleTime f_m_planTo f_m_march f_m_tired f_m_ranMinutes f_m_tiredAhead f_m_isReached f_m_toEnd f_m_upTo f_m_upNext f_m_byChanges f_m_bandPaces H.size zcodes_21.toNatClampNeg (by omega) (by omega) (by omega) (by omega) (by omega) (by omega) (by omega) hr_m_tape (by omega) (by omega) ⟨Nat.le_refl _, by rw [Nat.sub_self]; rfl⟩ (by have hV := p_30 (by omega); have q1 : (0 : Int32).toInt = 0 := (by decide); omega)) (gi_V lwd_476 lwd_477 lwd_478 lwd_5 lwd_479) ⟨rfl, hd_X10_condition⟩ ⟨Nat.le_of_ble_eq_true rfl, Nat.le_of_ble_eq_true rfl⟩ rfl (Nat.le_of_ble_eq_true rfl) dX10_clause_129) (fun u_44 H locs hw hP hD hS => ?_)
          obtain ⟨zplace_46, zbad_47, zcodes_48, zopen_49, zstacked_50, zisOver_51, zisBehind_52, znewCode_53, znewArg_54, zstack_55⟩ := u_44
          try dsimp only at hw hP hD
          obtain ⟨p_56, p_57, p_58, p_59, p_60, p_61, p_62, p_63, p_64⟩ := hw
          refine lv_aload_n hx hb dX10_clause_132 rfl (lv_at hl 1 rfl) ?_
          refine gt_MD_MD_newTo hx hb hts hown hK hP lwd_174 dX10_clause_133 ?_
          refine lv_aload_n hx hb dX10_clause_136 rfl (lv_at hl 1 rfl) ?_
          refine gt_MD_MD_clauses hx hb hts hown hK hP lwd_403 dX10_clause_137 ?_
          refine lv_aload_n hx hb dX10_clause_140 rfl (lv_at hl 1 rfl) ?_
          refine gt_MD_MD_codes hx hb hts hown hK hP lwd_404 dX10_clause_141 ?_
          refine as_m_newTo (x := zcodes_48) hx hb hK hP hD hS (i_in (rfl : v_clauses.toInt = v_clauses.toInt) (by omega) (by omega)) dX10_clause_144 (fun f_65 ef_65 H locs hP hD hS => ?_)
          refine lv_aload_n hx hb dX10_clause_145 rfl (lv_at hl 1 rfl) ?_
          refine lv_dup hx hb dX10_clause_146 rfl ?_
          refine gt_MD_MD_clauses hx hb hts hown hK hP lwd_403 dX10_clause_147 ?_
          refine lv_iconst (v := 1) hx hb dX10_clause_150 (by decide) ?_
          refine lv_iadd hx hb dX10_clause_151 ?_
          refine lv_topi (fun n_66 en_66 => ?_)
          have tn_66 : n_66.toInt = v_clauses.toInt + 1 := i_add en_66 (rfl : v_clauses.toInt = v_clauses.toInt) (by decide : (1 : Int32).toInt = 1) (by omega) (by omega)
          refine pt_MD_MD_clauses (x := n_66) hx hb hts hown hK hP hD hS lwd_403 dX10_clause_152 (fun H locs hP hD hS => ?_)
          exact hrt zplace_46 zbad_47 n_66 zcodes_48 zopen_49 zstacked_50 zisOver_51 zisBehind_52 f_13 f_14 f_36 f_65 znewCode_53 znewArg_54 zstack_55 ⟨(by omega), (by omega), (fun h0 => by
            have hV := p_30 (by omega)
            have hC := p_58 (by omega)
            rw [ef_14, ef_36, ef_65]
            exact wfN_add (code1 := znewCode_25) (s := v_codes) (f := zcodes_21) hwn (by omega) (by omega) (by omega) (by omega) rfl hV.2.1 hC.1 hV.2.2.2 hC.2 (by omega) (by omega)), (by omega), (by omega), (by omega), (by omega), (by omega), (by omega), (by omega)⟩ hP hD hS dX10_clause_155
      · have gc_12 : r_9.toInt = 0 := i_eq (rfl : r_9.toInt = r_9.toInt) (by decide : (0 : Int32).toInt = 0) c_12
        exact hrt v_place v_bad v_clauses v_codes v_open v_stacked v_isOver v_isBehind f_m_newLetter f_m_newSum f_m_newFrom f_m_newTo f_m_newCode f_m_newArg f_m_stack ⟨(by omega), (by omega), (fun h0 => absurd h0 (by omega)), (by omega), (by omega), (by omega), (by omega), (by omega), (by omega), (by omega)⟩ hP hD hS dX10_clause_60
    · have gc_7 : v_clauses.toInt = 14 := i_eq (rfl : v_clauses.toInt = v_clauses.toInt) (by decide : (14 : Int32).toInt = 14) c_7
      refine lv_aload_n hx hb dX10_clause_44 rfl (lv_at hl 1 rfl) ?_
      refine lv_iconst (v := 4) hx hb dX10_clause_45 (by decide) ?_
      refine lv_aload_n hx hb dX10_clause_46 rfl (lv_at hl 1 rfl) ?_
      refine gt_MD_MD_place hx hb hts hown hK hP lwd_400 dX10_clause_47 ?_
      have k_67 : (4 : Int32).toInt = 4 := by decide
      refine xv hD hS hA (xV (As := [.int 4, .int v_place]) (rest := []) hx hb hml hown hts hK hP hD hS hA NT_ok hN hAe hl.1 ⟨Nat.le_refl _, Nat.le_refl _⟩ 0 rfl rfl rfl (c_X10_wrongs l D cy hm v_taped v_walkers v_loads v_pieces v_changeCosts v_planned v_isMarch v_clauseMany v_place v_end v_bad v_clauses v_codes v_open v_stacked v_isOver v_isBehind v_atW v_atL v_atT v_atH v_atM v_atI v_atQ v_packing v_packed v_goPace v_goMinutes v_spentAt v_ranChanges f_m_tape f_m_knee f_m_weight f_m_isLame f_m_loadWeight f_m_owner f_m_food f_m_miles f_m_slope f_m_clauseLetter f_m_sumFrom f_m_codeFrom f_m_codeTo f_m_code f_m_codeArg f_m_newLetter f_m_newSum f_m_newFrom f_m_newTo f_m_newCode f_m_newArg f_m_stack f_m_worth f_m_isRefused f_m_least f_m_packPounds f_m_packOwner f_m_room f_m_givenTo f_m_canBe f_m_setPounds f_m_plainTime f_m_muleTime f_m_planTo f_m_march f_m_tired f_m_ranMinutes f_m_tiredAhead f_m_isReached f_m_toEnd f_m_upTo f_m_upNext f_m_byChanges f_m_bandPaces H.size 4 v_place (by omega) (by omega) (by omega)) (gi_V lwd_420 lwd_421 lwd_422 lwd_5 lwd_423) ⟨rfl, hd_X10_wrongs⟩ ⟨Nat.le_of_ble_eq_true rfl, Nat.le_of_ble_eq_true rfl⟩ rfl (Nat.le_of_ble_eq_true rfl) dX10_clause_50) (fun u_68 H locs hw hP hD hS => ?_)
      obtain ⟨zbad_70, rfl⟩ : ∃ z, z = u_68 := ⟨_, rfl⟩
      try dsimp only at hw hP hD
      obtain ⟨p_71, p_72⟩ := hw
      refine lv_aload_n hx hb dX10_clause_53 rfl (lv_at hl 1 rfl) ?_
      refine xi hD hS hA (xV (As := []) (rest := []) hx hb hml hown hts hK hP hD hS hA NT_ok hN hAe hl.1 ⟨Nat.le_refl _, Nat.le_refl _⟩ 0 rfl rfl rfl (c_X10_isGood l D cy hm v_taped v_walkers v_loads v_pieces v_changeCosts v_planned v_isMarch v_clauseMany v_place v_end zbad_70 v_clauses v_codes v_open v_stacked v_isOver v_isBehind v_atW v_atL v_atT v_atH v_atM v_atI v_atQ v_packing v_packed v_goPace v_goMinutes v_spentAt v_ranChanges f_m_tape f_m_knee f_m_weight f_m_isLame f_m_loadWeight f_m_owner f_m_food f_m_miles f_m_slope f_m_clauseLetter f_m_sumFrom f_m_codeFrom f_m_codeTo f_m_code f_m_codeArg f_m_newLetter f_m_newSum f_m_newFrom f_m_newTo f_m_newCode f_m_newArg f_m_stack f_m_worth f_m_isRefused f_m_least f_m_packPounds f_m_packOwner f_m_room f_m_givenTo f_m_canBe f_m_setPounds f_m_plainTime f_m_muleTime f_m_planTo f_m_march f_m_tired f_m_ranMinutes f_m_tiredAhead f_m_isReached f_m_toEnd f_m_upTo f_m_upNext f_m_byChanges f_m_bandPaces H.size (by omega)) (gi_V lwd_406 lwd_407 lwd_408 lwd_5 lwd_409) ⟨rfl, hd_X10_isGood⟩ ⟨Nat.le_of_ble_eq_true rfl, Nat.le_of_ble_eq_true rfl⟩ rfl (Nat.le_of_ble_eq_true rfl) dX10_clause_54) (fun r_74 u_73 H locs hw hP hD hS => ?_)
      try dsimp only at hw hP hD
      obtain ⟨p_75, p_76⟩ := hw
      refine lv_if_ne (tgt := 61) hx hb dX10_clause_57 (by decide) (fun c_77 => ?_) (fun c_77 => ?_)
      · have gc_77 : r_74.toInt ≠ 0 := i_ne (rfl : r_74.toInt = r_74.toInt) (by decide : (0 : Int32).toInt = 0) c_77
        refine lv_aload_n hx hb dX10_clause_61 rfl (lv_at hl 1 rfl) ?_
        refine gt_MD_MD_newLetter hx hb hts hown hK hP lwd_171 dX10_clause_62 ?_
        refine lv_aload_n hx hb dX10_clause_65 rfl (lv_at hl 1 rfl) ?_
        refine gt_MD_MD_clauses hx hb hts hown hK hP lwd_403 dX10_clause_66 ?_
        refine lv_iload_n hx hb dX10_clause_69 rfl (lv_at hl 0 rfl) ?_
        refine as_m_newLetter (x := r_2) hx hb hK hP hD hS (i_in (rfl : v_clauses.toInt = v_clauses.toInt) (by omega) (by omega)) dX10_clause_70 (fun f_78 ef_78 H locs hP hD hS => ?_)
        refine lv_aload_n hx hb dX10_clause_71 rfl (lv_at hl 1 rfl) ?_
        refine gt_MD_MD_newSum hx hb hts hown hK hP lwd_172 dX10_clause_72 ?_
        refine lv_aload_n hx hb dX10_clause_75 rfl (lv_at hl 1 rfl) ?_
        refine gt_MD_MD_clauses hx hb hts hown hK hP lwd_403 dX10_clause_76 ?_
        refine lv_aload_n hx hb dX10_clause_79 rfl (lv_at hl 1 rfl) ?_
        refine gt_MD_MD_codes hx hb hts hown hK hP lwd_404 dX10_clause_80 ?_
        refine as_m_newSum (x := v_codes) hx hb hK hP hD hS (i_in (rfl : v_clauses.toInt = v_clauses.toInt) (by omega) (by omega)) dX10_clause_83 (fun f_79 ef_79 H locs hP hD hS => ?_)
        refine lv_aload_n hx hb dX10_clause_84 rfl (lv_at hl 1 rfl) ?_
        refine lv_dup hx hb dX10_clause_85 rfl ?_
        refine gt_MD_MD_place hx hb hts hown hK hP lwd_400 dX10_clause_86 ?_
        refine lv_iconst (v := 1) hx hb dX10_clause_89 (by decide) ?_
        refine lv_iadd hx hb dX10_clause_90 ?_
        refine lv_topi (fun n_80 en_80 => ?_)
        have tn_80 : n_80.toInt = v_place.toInt + 1 := i_add en_80 (rfl : v_place.toInt = v_place.toInt) (by decide : (1 : Int32).toInt = 1) (by omega) (by omega)
        refine pt_MD_MD_place (x := n_80) hx hb hts hown hK hP hD hS lwd_400 dX10_clause_91 (fun H locs hP hD hS => ?_)
        refine lv_aload_n hx hb dX10_clause_94 rfl (lv_at hl 1 rfl) ?_
        refine lv_iconst (v := 0) hx hb dX10_clause_95 (by decide) ?_
        refine pt_MD_MD_stacked (x := 0) hx hb hts hown hK hP hD hS lwd_414 dX10_clause_96 (fun H locs hP hD hS => ?_)
        refine lv_aload_n hx hb dX10_clause_99 rfl (lv_at hl 1 rfl) ?_
        refine lv_iconst (v := 0) hx hb dX10_clause_100 (by decide) ?_
        refine pt_MD_MD_open (x := 0) hx hb hts hown hK hP hD hS lwd_415 dX10_clause_101 (fun H locs hP hD hS => ?_)
        refine lv_aload_n hx hb dX10_clause_104 rfl (lv_at hl 1 rfl) ?_
        have k_81 : (0 : Int32).toInt = 0 := by decide
        refine xv hD hS hA (xV (As := []) (rest := []) hx hb hml hown hts hK hP hD hS hA NT_ok hN hAe hl.1 ⟨Nat.le_refl _, Nat.le_refl _⟩ 0 rfl rfl rfl (c_X10_value l D cy hm v_taped v_walkers v_loads v_pieces v_changeCosts v_planned v_isMarch v_clauseMany n_80 v_end zbad_70 v_clauses v_codes 0 0 v_isOver v_isBehind v_atW v_atL v_atT v_atH v_atM v_atI v_atQ v_packing v_packed v_goPace v_goMinutes v_spentAt v_ranChanges f_m_tape f_m_knee f_m_weight f_m_isLame f_m_loadWeight f_m_owner f_m_food f_m_miles f_m_slope f_m_clauseLetter f_m_sumFrom f_m_codeFrom f_m_codeTo f_m_code f_m_codeArg f_78 f_79 f_m_newFrom f_m_newTo f_m_newCode f_m_newArg f_m_stack f_m_worth f_m_isRefused f_m_least f_m_packPounds f_m_packOwner f_m_room f_m_givenTo f_m_canBe f_m_setPounds f_m_plainTime f_m_muleTime f_m_planTo f_m_march f_m_tired f_m_ranMinutes f_m_tiredAhead f_m_isReached f_m_toEnd f_m_upTo f_m_upNext f_m_byChanges f_m_bandPaces H.size v_codes.toNatClampNeg 0 (by omega) (by omega) (by omega) (by omega) (by decide) (by omega) hr_m_tape (by omega) (by omega) ⟨Nat.le_refl _, by rw [Nat.sub_self]; rfl⟩ (Or.inl (by decide))) (gi_V lwd_424 lwd_425 lwd_426 lwd_5 lwd_427) ⟨rfl, hd_X10_value⟩ ⟨Nat.le_of_ble_eq_true rfl, Nat.le_of_ble_eq_true rfl⟩ rfl (Nat.le_of_ble_eq_true rfl) dX10_clause_105) (fun u_82 H locs hw hP hD hS => ?_)
        obtain ⟨zplace_84, zbad_85, zcodes_86, zopen_87, zstacked_88, zisBehind_89, znewCode_90, znewArg_91, zstack_92⟩ := u_82
        try dsimp only at hw hP hD
        obtain ⟨p_93, p_94, p_95, p_96, p_97, p_98, p_99, p_100⟩ := hw
        refine lv_aload_n hx hb dX10_clause_108 rfl (lv_at hl 1 rfl) ?_
        refine gt_MD_MD_newFrom hx hb hts hown hK hP lwd_173 dX10_clause_109 ?_
        refine lv_aload_n hx hb dX10_clause_112 rfl (lv_at hl 1 rfl) ?_
        refine gt_MD_MD_clauses hx hb hts hown hK hP lwd_403 dX10_clause_113 ?_
        refine lv_aload_n hx hb dX10_clause_116 rfl (lv_at hl 1 rfl) ?_
        refine gt_MD_MD_codes hx hb hts hown hK hP lwd_404 dX10_clause_117 ?_
        refine as_m_newFrom (x := zcodes_86) hx hb hK hP hD hS (i_in (rfl : v_clauses.toInt = v_clauses.toInt) (by omega) (by omega)) dX10_clause_120 (fun f_101 ef_101 H locs hP hD hS => ?_)
        refine lv_aload_n hx hb dX10_clause_121 rfl (lv_at hl 1 rfl) ?_
        refine xi hD hS hA (xV (As := []) (rest := []) hx hb hml hown hts hK hP hD hS hA NT_ok hN hAe hl.1 ⟨Nat.le_refl _, Nat.le_refl _⟩ 0 rfl rfl rfl (c_X10_isGood l D cy hm v_taped v_walkers v_loads v_pieces v_changeCosts v_planned v_isMarch v_clauseMany zplace_84 v_end zbad_85 v_clauses zcodes_86 zopen_87 zstacked_88 v_isOver zisBehind_89 v_atW v_atL v_atT v_atH v_atM v_atI v_atQ v_packing v_packed v_goPace v_goMinutes v_spentAt v_ranChanges f_m_tape f_m_knee f_m_weight f_m_isLame f_m_loadWeight f_m_owner f_m_food f_m_miles f_m_slope f_m_clauseLetter f_m_sumFrom f_m_codeFrom f_m_codeTo f_m_code f_m_codeArg f_78 f_79 f_101 f_m_newTo znewCode_90 znewArg_91 zstack_92 f_m_worth f_m_isRefused f_m_least f_m_packPounds f_m_packOwner f_m_room f_m_givenTo f_m_canBe f_m_setPounds f_m_plainTime f_m_muleTime f_m_planTo f_m_march f_m_tired f_m_ranMinutes f_m_tiredAhead f_m_isReached f_m_toEnd f_m_upTo f_m_upNext f_m_byChanges f_m_bandPaces H.size (by omega)) (gi_V lwd_406 lwd_407 lwd_408 lwd_5 lwd_409) ⟨rfl, hd_X10_isGood⟩ ⟨Nat.le_of_ble_eq_true rfl, Nat.le_of_ble_eq_true rfl⟩ rfl (Nat.le_of_ble_eq_true rfl) dX10_clause_122) (fun r_103 u_102 H locs hw hP hD hS => ?_)
        try dsimp only at hw hP hD
        obtain ⟨p_104, p_105⟩ := hw
        refine lv_if_eq (tgt := 132) hx hb dX10_clause_125 (by decide) (fun c_106 => ?_) (fun c_106 => ?_)
        · have gc_106 : r_103.toInt = 0 := i_eq (rfl : r_103.toInt = r_103.toInt) (by decide : (0 : Int32).toInt = 0) c_106
          refine lv_aload_n hx hb dX10_clause_132 rfl (lv_at hl 1 rfl) ?_
          refine gt_MD_MD_newTo hx hb hts hown hK hP lwd_174 dX10_clause_133 ?_
          refine lv_aload_n hx hb dX10_clause_136 rfl (lv_at hl 1 rfl) ?_
          refine gt_MD_MD_clauses hx hb hts hown hK hP lwd_403 dX10_clause_137 ?_
          refine lv_aload_n hx hb dX10_clause_140 rfl (lv_at hl 1 rfl) ?_
          refine gt_MD_MD_codes hx hb hts hown hK hP lwd_404 dX10_clause_141 ?_
          refine as_m_newTo (x := zcodes_86) hx hb hK hP hD hS (i_in (rfl : v_clauses.toInt = v_clauses.toInt) (by omega) (by omega)) dX10_clause_144 (fun f_107 ef_107 H locs hP hD hS => ?_)
          refine lv_aload_n hx hb dX10_clause_145 rfl (lv_at hl 1 rfl) ?_
          refine lv_dup hx hb dX10_clause_146 rfl ?_
          refine gt_MD_MD_clauses hx hb hts hown hK hP lwd_403 dX10_clause_147 ?_
          refine lv_iconst (v := 1) hx hb dX10_clause_150 (by decide) ?_
          refine lv_iadd hx hb dX10_clause_151 ?_
          refine lv_topi (fun n_108 en_108 => ?_)
          have tn_108 : n_108.toInt = v_clauses.toInt + 1 := i_add en_108 (rfl : v_clauses.toInt = v_clauses.toInt) (by decide : (1 : Int32).toInt = 1) (by omega) (by omega)
          refine pt_MD_MD_clauses (x := n_108) hx hb hts hown hK hP hD hS lwd_403 dX10_clause_152 (fun H locs hP hD hS => ?_)
          exact hrt zplace_84 zbad_85 n_108 zcodes_86 zopen_87 zstacked_88 v_isOver zisBehind_89 f_78 f_79 f_101 f_107 znewCode_90 znewArg_91 zstack_92 ⟨(by omega), (by omega), (fun h0 => absurd h0 (by omega)), (by omega), (by omega), (by omega), (by omega), (by omega), (by omega), (by omega)⟩ hP hD hS dX10_clause_155
        · have gc_106 : r_103.toInt ≠ 0 := i_ne (rfl : r_103.toInt = r_103.toInt) (by decide : (0 : Int32).toInt = 0) c_106
          refine lv_aload_n hx hb dX10_clause_128 rfl (lv_at hl 1 rfl) ?_
          refine xv hD hS hA (xV (As := []) (rest := []) hx hb hml hown hts hK hP hD hS hA NT_ok hN hAe hl.1 ⟨Nat.le_refl _, Nat.le_refl _⟩ 0 rfl rfl rfl (c_X10_condition l D cy hm v_taped v_walkers v_loads v_pieces v_changeCosts v_planned v_isMarch v_clauseMany zplace_84 v_end zbad_85 v_clauses zcodes_86 zopen_87 zstacked_88 v_isOver zisBehind_89 v_atW v_atL v_atT v_atH v_atM v_atI v_atQ v_packing v_packed v_goPace v_goMinutes v_spentAt v_ranChanges f_m_tape f_m_knee f_m_weight f_m_isLame f_m_loadWeight f_m_owner f_m_food f_m_miles f_m_slope f_m_clauseLetter f_m_sumFrom f_m_codeFrom f_m_codeTo f_m_code f_m_codeArg f_78 f_79 f_101 f_m_newTo znewCode_90 znewArg_91 zstack_92 f_m_worth f_m_isRefused f_m_least f_m_packPounds f_m_packOwner f_m_room f_m_givenTo f_m_canBe f_m_setPounds f_m_plainTime f_m_muleTime f_m_planTo f_m_march f_m_tired f_m_ranMinutes f_m_tiredAhead f_m_isReached f_m_toEnd f_m_upTo f_m_upNext f_m_byChanges f_m_bandPaces H.size zcodes_86.toNatClampNeg (by omega) (by omega) (by omega) (by omega) (by omega) (by omega) (by omega) hr_m_tape (by omega) (by omega) ⟨Nat.le_refl _, by rw [Nat.sub_self]; rfl⟩ (by have hV := p_95 (by omega); have q1 : (0 : Int32).toInt = 0 := (by decide); omega)) (gi_V lwd_476 lwd_477 lwd_478 lwd_5 lwd_479) ⟨rfl, hd_X10_condition⟩ ⟨Nat.le_of_ble_eq_true rfl, Nat.le_of_ble_eq_true rfl⟩ rfl (Nat.le_of_ble_eq_true rfl) dX10_clause_129) (fun u_109 H locs hw hP hD hS => ?_)
          obtain ⟨zplace_111, zbad_112, zcodes_113, zopen_114, zstacked_115, zisOver_116, zisBehind_117, znewCode_118, znewArg_119, zstack_120⟩ := u_109
          try dsimp only at hw hP hD
          obtain ⟨p_121, p_122, p_123, p_124, p_125, p_126, p_127, p_128, p_129⟩ := hw
          refine lv_aload_n hx hb dX10_clause_132 rfl (lv_at hl 1 rfl) ?_
          refine gt_MD_MD_newTo hx hb hts hown hK hP lwd_174 dX10_clause_133 ?_
          refine lv_aload_n hx hb dX10_clause_136 rfl (lv_at hl 1 rfl) ?_
          refine gt_MD_MD_clauses hx hb hts hown hK hP lwd_403 dX10_clause_137 ?_
          refine lv_aload_n hx hb dX10_clause_140 rfl (lv_at hl 1 rfl) ?_
          refine gt_MD_MD_codes hx hb hts hown hK hP lwd_404 dX10_clause_141 ?_
          refine as_m_newTo (x := zcodes_113) hx hb hK hP hD hS (i_in (rfl : v_clauses.toInt = v_clauses.toInt) (by omega) (by omega)) dX10_clause_144 (fun f_130 ef_130 H locs hP hD hS => ?_)
          refine lv_aload_n hx hb dX10_clause_145 rfl (lv_at hl 1 rfl) ?_
          refine lv_dup hx hb dX10_clause_146 rfl ?_
          refine gt_MD_MD_clauses hx hb hts hown hK hP lwd_403 dX10_clause_147 ?_
          refine lv_iconst (v := 1) hx hb dX10_clause_150 (by decide) ?_
          refine lv_iadd hx hb dX10_clause_151 ?_
          refine lv_topi (fun n_131 en_131 => ?_)
          have tn_131 : n_131.toInt = v_clauses.toInt + 1 := i_add en_131 (rfl : v_clauses.toInt = v_clauses.toInt) (by decide : (1 : Int32).toInt = 1) (by omega) (by omega)
          refine pt_MD_MD_clauses (x := n_131) hx hb hts hown hK hP hD hS lwd_403 dX10_clause_152 (fun H locs hP hD hS => ?_)
          exact hrt zplace_111 zbad_112 n_131 zcodes_113 zopen_114 zstacked_115 zisOver_116 zisBehind_117 f_78 f_79 f_101 f_130 znewCode_118 znewArg_119 zstack_120 ⟨(by omega), (by omega), (fun h0 => by
            have hV := p_95 (by omega)
            have hC := p_123 (by omega)
            rw [ef_79, ef_101, ef_130]
            exact wfN_add (code1 := znewCode_90) (s := v_codes) (f := zcodes_86) hwn (by omega) (by omega) (by omega) (by omega) rfl hV.2.1 hC.1 hV.2.2.2 hC.2 (by omega) (by omega)), (by omega), (by omega), (by omega), (by omega), (by omega), (by omega), (by omega)⟩ hP hD hS dX10_clause_155
      · have gc_77 : r_74.toInt = 0 := i_eq (rfl : r_74.toInt = r_74.toInt) (by decide : (0 : Int32).toInt = 0) c_77
        exact hrt v_place zbad_70 v_clauses v_codes v_open v_stacked v_isOver v_isBehind f_m_newLetter f_m_newSum f_m_newFrom f_m_newTo f_m_newCode f_m_newArg f_m_stack ⟨(by omega), (by omega), (fun h0 => absurd h0 (by omega)), (by omega), (by omega), (by omega), (by omega), (by omega), (by omega), (by omega)⟩ hP hD hS dX10_clause_60
  · have gc_6 : r_2.toInt ≠ 118 := i_ne (rfl : r_2.toInt = r_2.toInt) (by decide : (118 : Int32).toInt = 118) c_6
    refine lv_iload_n hx hb dX10_clause_11 rfl (lv_at hl 0 rfl) ?_
    refine lv_bipush (v := 103) hx hb dX10_clause_12 (by decide) ?_
    refine lv_icmp_eq (tgt := 35) hx hb dX10_clause_14 (by decide) (fun c_132 => ?_) (fun c_132 => ?_)
    · have gc_132 : r_2.toInt = 103 := i_eq (rfl : r_2.toInt = r_2.toInt) (by decide : (103 : Int32).toInt = 103) c_132
      refine lv_aload_n hx hb dX10_clause_35 rfl (lv_at hl 1 rfl) ?_
      refine gt_MD_MD_clauses hx hb hts hown hK hP lwd_403 dX10_clause_36 ?_
      refine lv_bipush (v := 14) hx hb dX10_clause_39 (by decide) ?_
      refine lv_icmp_ne (tgt := 53) hx hb dX10_clause_41 (by decide) (fun c_133 => ?_) (fun c_133 => ?_)
      · have gc_133 : v_clauses.toInt ≠ 14 := i_ne (rfl : v_clauses.toInt = v_clauses.toInt) (by decide : (14 : Int32).toInt = 14) c_133
        refine lv_aload_n hx hb dX10_clause_53 rfl (lv_at hl 1 rfl) ?_
        refine xi hD hS hA (xV (As := []) (rest := []) hx hb hml hown hts hK hP hD hS hA NT_ok hN hAe hl.1 ⟨Nat.le_refl _, Nat.le_refl _⟩ 0 rfl rfl rfl (c_X10_isGood l D cy hm v_taped v_walkers v_loads v_pieces v_changeCosts v_planned v_isMarch v_clauseMany v_place v_end v_bad v_clauses v_codes v_open v_stacked v_isOver v_isBehind v_atW v_atL v_atT v_atH v_atM v_atI v_atQ v_packing v_packed v_goPace v_goMinutes v_spentAt v_ranChanges f_m_tape f_m_knee f_m_weight f_m_isLame f_m_loadWeight f_m_owner f_m_food f_m_miles f_m_slope f_m_clauseLetter f_m_sumFrom f_m_codeFrom f_m_codeTo f_m_code f_m_codeArg f_m_newLetter f_m_newSum f_m_newFrom f_m_newTo f_m_newCode f_m_newArg f_m_stack f_m_worth f_m_isRefused f_m_least f_m_packPounds f_m_packOwner f_m_room f_m_givenTo f_m_canBe f_m_setPounds f_m_plainTime f_m_muleTime f_m_planTo f_m_march f_m_tired f_m_ranMinutes f_m_tiredAhead f_m_isReached f_m_toEnd f_m_upTo f_m_upNext f_m_byChanges f_m_bandPaces H.size (by omega)) (gi_V lwd_406 lwd_407 lwd_408 lwd_5 lwd_409) ⟨rfl, hd_X10_isGood⟩ ⟨Nat.le_of_ble_eq_true rfl, Nat.le_of_ble_eq_true rfl⟩ rfl (Nat.le_of_ble_eq_true rfl) dX10_clause_54) (fun r_135 u_134 H locs hw hP hD hS => ?_)
        try dsimp only at hw hP hD
        obtain ⟨p_136, p_137⟩ := hw
        refine lv_if_ne (tgt := 61) hx hb dX10_clause_57 (by decide) (fun c_138 => ?_) (fun c_138 => ?_)
        · have gc_138 : r_135.toInt ≠ 0 := i_ne (rfl : r_135.toInt = r_135.toInt) (by decide : (0 : Int32).toInt = 0) c_138
          refine lv_aload_n hx hb dX10_clause_61 rfl (lv_at hl 1 rfl) ?_
          refine gt_MD_MD_newLetter hx hb hts hown hK hP lwd_171 dX10_clause_62 ?_
          refine lv_aload_n hx hb dX10_clause_65 rfl (lv_at hl 1 rfl) ?_
          refine gt_MD_MD_clauses hx hb hts hown hK hP lwd_403 dX10_clause_66 ?_
          refine lv_iload_n hx hb dX10_clause_69 rfl (lv_at hl 0 rfl) ?_
          refine as_m_newLetter (x := r_2) hx hb hK hP hD hS (i_in (rfl : v_clauses.toInt = v_clauses.toInt) (by omega) (by omega)) dX10_clause_70 (fun f_139 ef_139 H locs hP hD hS => ?_)
          refine lv_aload_n hx hb dX10_clause_71 rfl (lv_at hl 1 rfl) ?_
          refine gt_MD_MD_newSum hx hb hts hown hK hP lwd_172 dX10_clause_72 ?_
          refine lv_aload_n hx hb dX10_clause_75 rfl (lv_at hl 1 rfl) ?_
          refine gt_MD_MD_clauses hx hb hts hown hK hP lwd_403 dX10_clause_76 ?_
          refine lv_aload_n hx hb dX10_clause_79 rfl (lv_at hl 1 rfl) ?_
          refine gt_MD_MD_codes hx hb hts hown hK hP lwd_404 dX10_clause_80 ?_
          refine as_m_newSum (x := v_codes) hx hb hK hP hD hS (i_in (rfl : v_clauses.toInt = v_clauses.toInt) (by omega) (by omega)) dX10_clause_83 (fun f_140 ef_140 H locs hP hD hS => ?_)
          refine lv_aload_n hx hb dX10_clause_84 rfl (lv_at hl 1 rfl) ?_
          refine lv_dup hx hb dX10_clause_85 rfl ?_
          refine gt_MD_MD_place hx hb hts hown hK hP lwd_400 dX10_clause_86 ?_
          refine lv_iconst (v := 1) hx hb dX10_clause_89 (by decide) ?_
          refine lv_iadd hx hb dX10_clause_90 ?_
          refine lv_topi (fun n_141 en_141 => ?_)
          have tn_141 : n_141.toInt = v_place.toInt + 1 := i_add en_141 (rfl : v_place.toInt = v_place.toInt) (by decide : (1 : Int32).toInt = 1) (by omega) (by omega)
          refine pt_MD_MD_place (x := n_141) hx hb hts hown hK hP hD hS lwd_400 dX10_clause_91 (fun H locs hP hD hS => ?_)
          refine lv_aload_n hx hb dX10_clause_94 rfl (lv_at hl 1 rfl) ?_
          refine lv_iconst (v := 0) hx hb dX10_clause_95 (by decide) ?_
          refine pt_MD_MD_stacked (x := 0) hx hb hts hown hK hP hD hS lwd_414 dX10_clause_96 (fun H locs hP hD hS => ?_)
          refine lv_aload_n hx hb dX10_clause_99 rfl (lv_at hl 1 rfl) ?_
          refine lv_iconst (v := 0) hx hb dX10_clause_100 (by decide) ?_
          refine pt_MD_MD_open (x := 0) hx hb hts hown hK hP hD hS lwd_415 dX10_clause_101 (fun H locs hP hD hS => ?_)
          refine lv_aload_n hx hb dX10_clause_104 rfl (lv_at hl 1 rfl) ?_
          have k_142 : (0 : Int32).toInt = 0 := by decide
          refine xv hD hS hA (xV (As := []) (rest := []) hx hb hml hown hts hK hP hD hS hA NT_ok hN hAe hl.1 ⟨Nat.le_refl _, Nat.le_refl _⟩ 0 rfl rfl rfl (c_X10_value l D cy hm v_taped v_walkers v_loads v_pieces v_changeCosts v_planned v_isMarch v_clauseMany n_141 v_end v_bad v_clauses v_codes 0 0 v_isOver v_isBehind v_atW v_atL v_atT v_atH v_atM v_atI v_atQ v_packing v_packed v_goPace v_goMinutes v_spentAt v_ranChanges f_m_tape f_m_knee f_m_weight f_m_isLame f_m_loadWeight f_m_owner f_m_food f_m_miles f_m_slope f_m_clauseLetter f_m_sumFrom f_m_codeFrom f_m_codeTo f_m_code f_m_codeArg f_139 f_140 f_m_newFrom f_m_newTo f_m_newCode f_m_newArg f_m_stack f_m_worth f_m_isRefused f_m_least f_m_packPounds f_m_packOwner f_m_room f_m_givenTo f_m_canBe f_m_setPounds f_m_plainTime f_m_muleTime f_m_planTo f_m_march f_m_tired f_m_ranMinutes f_m_tiredAhead f_m_isReached f_m_toEnd f_m_upTo f_m_upNext f_m_byChanges f_m_bandPaces H.size v_codes.toNatClampNeg 0 (by omega) (by omega) (by omega) (by omega) (by decide) (by omega) hr_m_tape (by omega) (by omega) ⟨Nat.le_refl _, by rw [Nat.sub_self]; rfl⟩ (Or.inl (by decide))) (gi_V lwd_424 lwd_425 lwd_426 lwd_5 lwd_427) ⟨rfl, hd_X10_value⟩ ⟨Nat.le_of_ble_eq_true rfl, Nat.le_of_ble_eq_true rfl⟩ rfl (Nat.le_of_ble_eq_true rfl) dX10_clause_105) (fun u_143 H locs hw hP hD hS => ?_)
          obtain ⟨zplace_145, zbad_146, zcodes_147, zopen_148, zstacked_149, zisBehind_150, znewCode_151, znewArg_152, zstack_153⟩ := u_143
          try dsimp only at hw hP hD
          obtain ⟨p_154, p_155, p_156, p_157, p_158, p_159, p_160, p_161⟩ := hw
          refine lv_aload_n hx hb dX10_clause_108 rfl (lv_at hl 1 rfl) ?_
          refine gt_MD_MD_newFrom hx hb hts hown hK hP lwd_173 dX10_clause_109 ?_
          refine lv_aload_n hx hb dX10_clause_112 rfl (lv_at hl 1 rfl) ?_
          refine gt_MD_MD_clauses hx hb hts hown hK hP lwd_403 dX10_clause_113 ?_
          refine lv_aload_n hx hb dX10_clause_116 rfl (lv_at hl 1 rfl) ?_
          refine gt_MD_MD_codes hx hb hts hown hK hP lwd_404 dX10_clause_117 ?_
          refine as_m_newFrom (x := zcodes_147) hx hb hK hP hD hS (i_in (rfl : v_clauses.toInt = v_clauses.toInt) (by omega) (by omega)) dX10_clause_120 (fun f_162 ef_162 H locs hP hD hS => ?_)
          refine lv_aload_n hx hb dX10_clause_121 rfl (lv_at hl 1 rfl) ?_
          refine xi hD hS hA (xV (As := []) (rest := []) hx hb hml hown hts hK hP hD hS hA NT_ok hN hAe hl.1 ⟨Nat.le_refl _, Nat.le_refl _⟩ 0 rfl rfl rfl (c_X10_isGood l D cy hm v_taped v_walkers v_loads v_pieces v_changeCosts v_planned v_isMarch v_clauseMany zplace_145 v_end zbad_146 v_clauses zcodes_147 zopen_148 zstacked_149 v_isOver zisBehind_150 v_atW v_atL v_atT v_atH v_atM v_atI v_atQ v_packing v_packed v_goPace v_goMinutes v_spentAt v_ranChanges f_m_tape f_m_knee f_m_weight f_m_isLame f_m_loadWeight f_m_owner f_m_food f_m_miles f_m_slope f_m_clauseLetter f_m_sumFrom f_m_codeFrom f_m_codeTo f_m_code f_m_codeArg f_139 f_140 f_162 f_m_newTo znewCode_151 znewArg_152 zstack_153 f_m_worth f_m_isRefused f_m_least f_m_packPounds f_m_packOwner f_m_room f_m_givenTo f_m_canBe f_m_setPounds f_m_plainTime f_m_muleTime f_m_planTo f_m_march f_m_tired f_m_ranMinutes f_m_tiredAhead f_m_isReached f_m_toEnd f_m_upTo f_m_upNext f_m_byChanges f_m_bandPaces H.size (by omega)) (gi_V lwd_406 lwd_407 lwd_408 lwd_5 lwd_409) ⟨rfl, hd_X10_isGood⟩ ⟨Nat.le_of_ble_eq_true rfl, Nat.le_of_ble_eq_true rfl⟩ rfl (Nat.le_of_ble_eq_true rfl) dX10_clause_122) (fun r_164 u_163 H locs hw hP hD hS => ?_)
          try dsimp only at hw hP hD
          obtain ⟨p_165, p_166⟩ := hw
          refine lv_if_eq (tgt := 132) hx hb dX10_clause_125 (by decide) (fun c_167 => ?_) (fun c_167 => ?_)
          · have gc_167 : r_164.toInt = 0 := i_eq (rfl : r_164.toInt = r_164.toInt) (by decide : (0 : Int32).toInt = 0) c_167
            refine lv_aload_n hx hb dX10_clause_132 rfl (lv_at hl 1 rfl) ?_
            refine gt_MD_MD_newTo hx hb hts hown hK hP lwd_174 dX10_clause_133 ?_
            refine lv_aload_n hx hb dX10_clause_136 rfl (lv_at hl 1 rfl) ?_
            refine gt_MD_MD_clauses hx hb hts hown hK hP lwd_403 dX10_clause_137 ?_
            refine lv_aload_n hx hb dX10_clause_140 rfl (lv_at hl 1 rfl) ?_
            refine gt_MD_MD_codes hx hb hts hown hK hP lwd_404 dX10_clause_141 ?_
            refine as_m_newTo (x := zcodes_147) hx hb hK hP hD hS (i_in (rfl : v_clauses.toInt = v_clauses.toInt) (by omega) (by omega)) dX10_clause_144 (fun f_168 ef_168 H locs hP hD hS => ?_)
            refine lv_aload_n hx hb dX10_clause_145 rfl (lv_at hl 1 rfl) ?_
            refine lv_dup hx hb dX10_clause_146 rfl ?_
            refine gt_MD_MD_clauses hx hb hts hown hK hP lwd_403 dX10_clause_147 ?_
            refine lv_iconst (v := 1) hx hb dX10_clause_150 (by decide) ?_
            refine lv_iadd hx hb dX10_clause_151 ?_
            refine lv_topi (fun n_169 en_169 => ?_)
            have tn_169 : n_169.toInt = v_clauses.toInt + 1 := i_add en_169 (rfl : v_clauses.toInt = v_clauses.toInt) (by decide : (1 : Int32).toInt = 1) (by omega) (by omega)
            refine pt_MD_MD_clauses (x := n_169) hx hb hts hown hK hP hD hS lwd_403 dX10_clause_152 (fun H locs hP hD hS => ?_)
            exact hrt zplace_145 zbad_146 n_169 zcodes_147 zopen_148 zstacked_149 v_isOver zisBehind_150 f_139 f_140 f_162 f_168 znewCode_151 znewArg_152 zstack_153 ⟨(by omega), (by omega), (fun h0 => absurd h0 (by omega)), (by omega), (by omega), (by omega), (by omega), (by omega), (by omega), (by omega)⟩ hP hD hS dX10_clause_155
          · have gc_167 : r_164.toInt ≠ 0 := i_ne (rfl : r_164.toInt = r_164.toInt) (by decide : (0 : Int32).toInt = 0) c_167
            refine lv_aload_n hx hb dX10_clause_128 rfl (lv_at hl 1 rfl) ?_
            refine xv hD hS hA (xV (As := []) (rest := []) hx hb hml hown hts hK hP hD hS hA NT_ok hN hAe hl.1 ⟨Nat.le_refl _, Nat.le_refl _⟩ 0 rfl rfl rfl (c_X10_condition l D cy hm v_taped v_walkers v_loads v_pieces v_changeCosts v_planned v_isMarch v_clauseMany zplace_145 v_end zbad_146 v_clauses zcodes_147 zopen_148 zstacked_149 v_isOver zisBehind_150 v_atW v_atL v_atT v_atH v_atM v_atI v_atQ v_packing v_packed v_goPace v_goMinutes v_spentAt v_ranChanges f_m_tape f_m_knee f_m_weight f_m_isLame f_m_loadWeight f_m_owner f_m_food f_m_miles f_m_slope f_m_clauseLetter f_m_sumFrom f_m_codeFrom f_m_codeTo f_m_code f_m_codeArg f_139 f_140 f_162 f_m_newTo znewCode_151 znewArg_152 zstack_153 f_m_worth f_m_isRefused f_m_least f_m_packPounds f_m_packOwner f_m_room f_m_givenTo f_m_canBe f_m_setPounds f_m_plainTime f_m_muleTime f_m_planTo f_m_march f_m_tired f_m_ranMinutes f_m_tiredAhead f_m_isReached f_m_toEnd f_m_upTo f_m_upNext f_m_byChanges f_m_bandPaces H.size zcodes_147.toNatClampNeg (by omega) (by omega) (by omega) (by omega) (by omega) (by omega) (by omega) hr_m_tape (by omega) (by omega) ⟨Nat.le_refl _, by rw [Nat.sub_self]; rfl⟩ (by have hV := p_156 (by omega); have q1 : (0 : Int32).toInt = 0 := (by decide); omega)) (gi_V lwd_476 lwd_477 lwd_478 lwd_5 lwd_479) ⟨rfl, hd_X10_condition⟩ ⟨Nat.le_of_ble_eq_true rfl, Nat.le_of_ble_eq_true rfl⟩ rfl (Nat.le_of_ble_eq_true rfl) dX10_clause_129) (fun u_170 H locs hw hP hD hS => ?_)
            obtain ⟨zplace_172, zbad_173, zcodes_174, zopen_175, zstacked_176, zisOver_177, zisBehind_178, znewCode_179, znewArg_180, zstack_181⟩ := u_170
            try dsimp only at hw hP hD
            obtain ⟨p_182, p_183, p_184, p_185, p_186, p_187, p_188, p_189, p_190⟩ := hw
            refine lv_aload_n hx hb dX10_clause_132 rfl (lv_at hl 1 rfl) ?_
            refine gt_MD_MD_newTo hx hb hts hown hK hP lwd_174 dX10_clause_133 ?_
            refine lv_aload_n hx hb dX10_clause_136 rfl (lv_at hl 1 rfl) ?_
            refine gt_MD_MD_clauses hx hb hts hown hK hP lwd_403 dX10_clause_137 ?_
            refine lv_aload_n hx hb dX10_clause_140 rfl (lv_at hl 1 rfl) ?_
            refine gt_MD_MD_codes hx hb hts hown hK hP lwd_404 dX10_clause_141 ?_
            refine as_m_newTo (x := zcodes_174) hx hb hK hP hD hS (i_in (rfl : v_clauses.toInt = v_clauses.toInt) (by omega) (by omega)) dX10_clause_144 (fun f_191 ef_191 H locs hP hD hS => ?_)
            refine lv_aload_n hx hb dX10_clause_145 rfl (lv_at hl 1 rfl) ?_
            refine lv_dup hx hb dX10_clause_146 rfl ?_
            refine gt_MD_MD_clauses hx hb hts hown hK hP lwd_403 dX10_clause_147 ?_
            refine lv_iconst (v := 1) hx hb dX10_clause_150 (by decide) ?_
            refine lv_iadd hx hb dX10_clause_151 ?_
            refine lv_topi (fun n_192 en_192 => ?_)
            have tn_192 : n_192.toInt = v_clauses.toInt + 1 := i_add en_192 (rfl : v_clauses.toInt = v_clauses.toInt) (by decide : (1 : Int32).toInt = 1) (by omega) (by omega)
            refine pt_MD_MD_clauses (x := n_192) hx hb hts hown hK hP hD hS lwd_403 dX10_clause_152 (fun H locs hP hD hS => ?_)
            exact hrt zplace_172 zbad_173 n_192 zcodes_174 zopen_175 zstacked_176 zisOver_177 zisBehind_178 f_139 f_140 f_162 f_191 znewCode_179 znewArg_180 zstack_181 ⟨(by omega), (by omega), (fun h0 => by
              have hV := p_156 (by omega)
              have hC := p_184 (by omega)
              rw [ef_140, ef_162, ef_191]
              exact wfN_add (code1 := znewCode_151) (s := v_codes) (f := zcodes_147) hwn (by omega) (by omega) (by omega) (by omega) rfl hV.2.1 hC.1 hV.2.2.2 hC.2 (by omega) (by omega)), (by omega), (by omega), (by omega), (by omega), (by omega), (by omega), (by omega)⟩ hP hD hS dX10_clause_155
        · have gc_138 : r_135.toInt = 0 := i_eq (rfl : r_135.toInt = r_135.toInt) (by decide : (0 : Int32).toInt = 0) c_138
          exact hrt v_place v_bad v_clauses v_codes v_open v_stacked v_isOver v_isBehind f_m_newLetter f_m_newSum f_m_newFrom f_m_newTo f_m_newCode f_m_newArg f_m_stack ⟨(by omega), (by omega), (fun h0 => absurd h0 (by omega)), (by omega), (by omega), (by omega), (by omega), (by omega), (by omega), (by omega)⟩ hP hD hS dX10_clause_60
      · have gc_133 : v_clauses.toInt = 14 := i_eq (rfl : v_clauses.toInt = v_clauses.toInt) (by decide : (14 : Int32).toInt = 14) c_133
        refine lv_aload_n hx hb dX10_clause_44 rfl (lv_at hl 1 rfl) ?_
        refine lv_iconst (v := 4) hx hb dX10_clause_45 (by decide) ?_
        refine lv_aload_n hx hb dX10_clause_46 rfl (lv_at hl 1 rfl) ?_
        refine gt_MD_MD_place hx hb hts hown hK hP lwd_400 dX10_clause_47 ?_
        have k_193 : (4 : Int32).toInt = 4 := by decide
        refine xv hD hS hA (xV (As := [.int 4, .int v_place]) (rest := []) hx hb hml hown hts hK hP hD hS hA NT_ok hN hAe hl.1 ⟨Nat.le_refl _, Nat.le_refl _⟩ 0 rfl rfl rfl (c_X10_wrongs l D cy hm v_taped v_walkers v_loads v_pieces v_changeCosts v_planned v_isMarch v_clauseMany v_place v_end v_bad v_clauses v_codes v_open v_stacked v_isOver v_isBehind v_atW v_atL v_atT v_atH v_atM v_atI v_atQ v_packing v_packed v_goPace v_goMinutes v_spentAt v_ranChanges f_m_tape f_m_knee f_m_weight f_m_isLame f_m_loadWeight f_m_owner f_m_food f_m_miles f_m_slope f_m_clauseLetter f_m_sumFrom f_m_codeFrom f_m_codeTo f_m_code f_m_codeArg f_m_newLetter f_m_newSum f_m_newFrom f_m_newTo f_m_newCode f_m_newArg f_m_stack f_m_worth f_m_isRefused f_m_least f_m_packPounds f_m_packOwner f_m_room f_m_givenTo f_m_canBe f_m_setPounds f_m_plainTime f_m_muleTime f_m_planTo f_m_march f_m_tired f_m_ranMinutes f_m_tiredAhead f_m_isReached f_m_toEnd f_m_upTo f_m_upNext f_m_byChanges f_m_bandPaces H.size 4 v_place (by omega) (by omega) (by omega)) (gi_V lwd_420 lwd_421 lwd_422 lwd_5 lwd_423) ⟨rfl, hd_X10_wrongs⟩ ⟨Nat.le_of_ble_eq_true rfl, Nat.le_of_ble_eq_true rfl⟩ rfl (Nat.le_of_ble_eq_true rfl) dX10_clause_50) (fun u_194 H locs hw hP hD hS => ?_)
        obtain ⟨zbad_196, rfl⟩ : ∃ z, z = u_194 := ⟨_, rfl⟩
        try dsimp only at hw hP hD
        obtain ⟨p_197, p_198⟩ := hw
        refine lv_aload_n hx hb dX10_clause_53 rfl (lv_at hl 1 rfl) ?_
        refine xi hD hS hA (xV (As := []) (rest := []) hx hb hml hown hts hK hP hD hS hA NT_ok hN hAe hl.1 ⟨Nat.le_refl _, Nat.le_refl _⟩ 0 rfl rfl rfl (c_X10_isGood l D cy hm v_taped v_walkers v_loads v_pieces v_changeCosts v_planned v_isMarch v_clauseMany v_place v_end zbad_196 v_clauses v_codes v_open v_stacked v_isOver v_isBehind v_atW v_atL v_atT v_atH v_atM v_atI v_atQ v_packing v_packed v_goPace v_goMinutes v_spentAt v_ranChanges f_m_tape f_m_knee f_m_weight f_m_isLame f_m_loadWeight f_m_owner f_m_food f_m_miles f_m_slope f_m_clauseLetter f_m_sumFrom f_m_codeFrom f_m_codeTo f_m_code f_m_codeArg f_m_newLetter f_m_newSum f_m_newFrom f_m_newTo f_m_newCode f_m_newArg f_m_stack f_m_worth f_m_isRefused f_m_least f_m_packPounds f_m_packOwner f_m_room f_m_givenTo f_m_canBe f_m_setPounds f_m_plainTime f_m_muleTime f_m_planTo f_m_march f_m_tired f_m_ranMinutes f_m_tiredAhead f_m_isReached f_m_toEnd f_m_upTo f_m_upNext f_m_byChanges f_m_bandPaces H.size (by omega)) (gi_V lwd_406 lwd_407 lwd_408 lwd_5 lwd_409) ⟨rfl, hd_X10_isGood⟩ ⟨Nat.le_of_ble_eq_true rfl, Nat.le_of_ble_eq_true rfl⟩ rfl (Nat.le_of_ble_eq_true rfl) dX10_clause_54) (fun r_200 u_199 H locs hw hP hD hS => ?_)
        try dsimp only at hw hP hD
        obtain ⟨p_201, p_202⟩ := hw
        refine lv_if_ne (tgt := 61) hx hb dX10_clause_57 (by decide) (fun c_203 => ?_) (fun c_203 => ?_)
        · have gc_203 : r_200.toInt ≠ 0 := i_ne (rfl : r_200.toInt = r_200.toInt) (by decide : (0 : Int32).toInt = 0) c_203
          refine lv_aload_n hx hb dX10_clause_61 rfl (lv_at hl 1 rfl) ?_
          refine gt_MD_MD_newLetter hx hb hts hown hK hP lwd_171 dX10_clause_62 ?_
          refine lv_aload_n hx hb dX10_clause_65 rfl (lv_at hl 1 rfl) ?_
          refine gt_MD_MD_clauses hx hb hts hown hK hP lwd_403 dX10_clause_66 ?_
          refine lv_iload_n hx hb dX10_clause_69 rfl (lv_at hl 0 rfl) ?_
          refine as_m_newLetter (x := r_2) hx hb hK hP hD hS (i_in (rfl : v_clauses.toInt = v_clauses.toInt) (by omega) (by omega)) dX10_clause_70 (fun f_204 ef_204 H locs hP hD hS => ?_)
          refine lv_aload_n hx hb dX10_clause_71 rfl (lv_at hl 1 rfl) ?_
          refine gt_MD_MD_newSum hx hb hts hown hK hP lwd_172 dX10_clause_72 ?_
          refine lv_aload_n hx hb dX10_clause_75 rfl (lv_at hl 1 rfl) ?_
          refine gt_MD_MD_clauses hx hb hts hown hK hP lwd_403 dX10_clause_76 ?_
          refine lv_aload_n hx hb dX10_clause_79 rfl (lv_at hl 1 rfl) ?_
          refine gt_MD_MD_codes hx hb hts hown hK hP lwd_404 dX10_clause_80 ?_
          refine as_m_newSum (x := v_codes) hx hb hK hP hD hS (i_in (rfl : v_clauses.toInt = v_clauses.toInt) (by omega) (by omega)) dX10_clause_83 (fun f_205 ef_205 H locs hP hD hS => ?_)
          refine lv_aload_n hx hb dX10_clause_84 rfl (lv_at hl 1 rfl) ?_
          refine lv_dup hx hb dX10_clause_85 rfl ?_
          refine gt_MD_MD_place hx hb hts hown hK hP lwd_400 dX10_clause_86 ?_
          refine lv_iconst (v := 1) hx hb dX10_clause_89 (by decide) ?_
          refine lv_iadd hx hb dX10_clause_90 ?_
          refine lv_topi (fun n_206 en_206 => ?_)
          have tn_206 : n_206.toInt = v_place.toInt + 1 := i_add en_206 (rfl : v_place.toInt = v_place.toInt) (by decide : (1 : Int32).toInt = 1) (by omega) (by omega)
          refine pt_MD_MD_place (x := n_206) hx hb hts hown hK hP hD hS lwd_400 dX10_clause_91 (fun H locs hP hD hS => ?_)
          refine lv_aload_n hx hb dX10_clause_94 rfl (lv_at hl 1 rfl) ?_
          refine lv_iconst (v := 0) hx hb dX10_clause_95 (by decide) ?_
          refine pt_MD_MD_stacked (x := 0) hx hb hts hown hK hP hD hS lwd_414 dX10_clause_96 (fun H locs hP hD hS => ?_)
          refine lv_aload_n hx hb dX10_clause_99 rfl (lv_at hl 1 rfl) ?_
          refine lv_iconst (v := 0) hx hb dX10_clause_100 (by decide) ?_
          refine pt_MD_MD_open (x := 0) hx hb hts hown hK hP hD hS lwd_415 dX10_clause_101 (fun H locs hP hD hS => ?_)
          refine lv_aload_n hx hb dX10_clause_104 rfl (lv_at hl 1 rfl) ?_
          have k_207 : (0 : Int32).toInt = 0 := by decide
          refine xv hD hS hA (xV (As := []) (rest := []) hx hb hml hown hts hK hP hD hS hA NT_ok hN hAe hl.1 ⟨Nat.le_refl _, Nat.le_refl _⟩ 0 rfl rfl rfl (c_X10_value l D cy hm v_taped v_walkers v_loads v_pieces v_changeCosts v_planned v_isMarch v_clauseMany n_206 v_end zbad_196 v_clauses v_codes 0 0 v_isOver v_isBehind v_atW v_atL v_atT v_atH v_atM v_atI v_atQ v_packing v_packed v_goPace v_goMinutes v_spentAt v_ranChanges f_m_tape f_m_knee f_m_weight f_m_isLame f_m_loadWeight f_m_owner f_m_food f_m_miles f_m_slope f_m_clauseLetter f_m_sumFrom f_m_codeFrom f_m_codeTo f_m_code f_m_codeArg f_204 f_205 f_m_newFrom f_m_newTo f_m_newCode f_m_newArg f_m_stack f_m_worth f_m_isRefused f_m_least f_m_packPounds f_m_packOwner f_m_room f_m_givenTo f_m_canBe f_m_setPounds f_m_plainTime f_m_muleTime f_m_planTo f_m_march f_m_tired f_m_ranMinutes f_m_tiredAhead f_m_isReached f_m_toEnd f_m_upTo f_m_upNext f_m_byChanges f_m_bandPaces H.size v_codes.toNatClampNeg 0 (by omega) (by omega) (by omega) (by omega) (by decide) (by omega) hr_m_tape (by omega) (by omega) ⟨Nat.le_refl _, by rw [Nat.sub_self]; rfl⟩ (Or.inl (by decide))) (gi_V lwd_424 lwd_425 lwd_426 lwd_5 lwd_427) ⟨rfl, hd_X10_value⟩ ⟨Nat.le_of_ble_eq_true rfl, Nat.le_of_ble_eq_true rfl⟩ rfl (Nat.le_of_ble_eq_true rfl) dX10_clause_105) (fun u_208 H locs hw hP hD hS => ?_)
          obtain ⟨zplace_210, zbad_211, zcodes_212, zopen_213, zstacked_214, zisBehind_215, znewCode_216, znewArg_217, zstack_218⟩ := u_208
          try dsimp only at hw hP hD
          obtain ⟨p_219, p_220, p_221, p_222, p_223, p_224, p_225, p_226⟩ := hw
          refine lv_aload_n hx hb dX10_clause_108 rfl (lv_at hl 1 rfl) ?_
          refine gt_MD_MD_newFrom hx hb hts hown hK hP lwd_173 dX10_clause_109 ?_
          refine lv_aload_n hx hb dX10_clause_112 rfl (lv_at hl 1 rfl) ?_
          refine gt_MD_MD_clauses hx hb hts hown hK hP lwd_403 dX10_clause_113 ?_
          refine lv_aload_n hx hb dX10_clause_116 rfl (lv_at hl 1 rfl) ?_
          refine gt_MD_MD_codes hx hb hts hown hK hP lwd_404 dX10_clause_117 ?_
          refine as_m_newFrom (x := zcodes_212) hx hb hK hP hD hS (i_in (rfl : v_clauses.toInt = v_clauses.toInt) (by omega) (by omega)) dX10_clause_120 (fun f_227 ef_227 H locs hP hD hS => ?_)
          refine lv_aload_n hx hb dX10_clause_121 rfl (lv_at hl 1 rfl) ?_
          refine xi hD hS hA (xV (As := []) (rest := []) hx hb hml hown hts hK hP hD hS hA NT_ok hN hAe hl.1 ⟨Nat.le_refl _, Nat.le_refl _⟩ 0 rfl rfl rfl (c_X10_isGood l D cy hm v_taped v_walkers v_loads v_pieces v_changeCosts v_planned v_isMarch v_clauseMany zplace_210 v_end zbad_211 v_clauses zcodes_212 zopen_213 zstacked_214 v_isOver zisBehind_215 v_atW v_atL v_atT v_atH v_atM v_atI v_atQ v_packing v_packed v_goPace v_goMinutes v_spentAt v_ranChanges f_m_tape f_m_knee f_m_weight f_m_isLame f_m_loadWeight f_m_owner f_m_food f_m_miles f_m_slope f_m_clauseLetter f_m_sumFrom f_m_codeFrom f_m_codeTo f_m_code f_m_codeArg f_204 f_205 f_227 f_m_newTo znewCode_216 znewArg_217 zstack_218 f_m_worth f_m_isRefused f_m_least f_m_packPounds f_m_packOwner f_m_room f_m_givenTo f_m_canBe f_m_setPounds f_m_plainTime f_m_muleTime f_m_planTo f_m_march f_m_tired f_m_ranMinutes f_m_tiredAhead f_m_isReached f_m_toEnd f_m_upTo f_m_upNext f_m_byChanges f_m_bandPaces H.size (by omega)) (gi_V lwd_406 lwd_407 lwd_408 lwd_5 lwd_409) ⟨rfl, hd_X10_isGood⟩ ⟨Nat.le_of_ble_eq_true rfl, Nat.le_of_ble_eq_true rfl⟩ rfl (Nat.le_of_ble_eq_true rfl) dX10_clause_122) (fun r_229 u_228 H locs hw hP hD hS => ?_)
          try dsimp only at hw hP hD
          obtain ⟨p_230, p_231⟩ := hw
          refine lv_if_eq (tgt := 132) hx hb dX10_clause_125 (by decide) (fun c_232 => ?_) (fun c_232 => ?_)
          · have gc_232 : r_229.toInt = 0 := i_eq (rfl : r_229.toInt = r_229.toInt) (by decide : (0 : Int32).toInt = 0) c_232
            refine lv_aload_n hx hb dX10_clause_132 rfl (lv_at hl 1 rfl) ?_
            refine gt_MD_MD_newTo hx hb hts hown hK hP lwd_174 dX10_clause_133 ?_
            refine lv_aload_n hx hb dX10_clause_136 rfl (lv_at hl 1 rfl) ?_
            refine gt_MD_MD_clauses hx hb hts hown hK hP lwd_403 dX10_clause_137 ?_
            refine lv_aload_n hx hb dX10_clause_140 rfl (lv_at hl 1 rfl) ?_
            refine gt_MD_MD_codes hx hb hts hown hK hP lwd_404 dX10_clause_141 ?_
            refine as_m_newTo (x := zcodes_212) hx hb hK hP hD hS (i_in (rfl : v_clauses.toInt = v_clauses.toInt) (by omega) (by omega)) dX10_clause_144 (fun f_233 ef_233 H locs hP hD hS => ?_)
            refine lv_aload_n hx hb dX10_clause_145 rfl (lv_at hl 1 rfl) ?_
            refine lv_dup hx hb dX10_clause_146 rfl ?_
            refine gt_MD_MD_clauses hx hb hts hown hK hP lwd_403 dX10_clause_147 ?_
            refine lv_iconst (v := 1) hx hb dX10_clause_150 (by decide) ?_
            refine lv_iadd hx hb dX10_clause_151 ?_
            refine lv_topi (fun n_234 en_234 => ?_)
            have tn_234 : n_234.toInt = v_clauses.toInt + 1 := i_add en_234 (rfl : v_clauses.toInt = v_clauses.toInt) (by decide : (1 : Int32).toInt = 1) (by omega) (by omega)
            refine pt_MD_MD_clauses (x := n_234) hx hb hts hown hK hP hD hS lwd_403 dX10_clause_152 (fun H locs hP hD hS => ?_)
            exact hrt zplace_210 zbad_211 n_234 zcodes_212 zopen_213 zstacked_214 v_isOver zisBehind_215 f_204 f_205 f_227 f_233 znewCode_216 znewArg_217 zstack_218 ⟨(by omega), (by omega), (fun h0 => absurd h0 (by omega)), (by omega), (by omega), (by omega), (by omega), (by omega), (by omega), (by omega)⟩ hP hD hS dX10_clause_155
          · have gc_232 : r_229.toInt ≠ 0 := i_ne (rfl : r_229.toInt = r_229.toInt) (by decide : (0 : Int32).toInt = 0) c_232
            refine lv_aload_n hx hb dX10_clause_128 rfl (lv_at hl 1 rfl) ?_
            refine xv hD hS hA (xV (As := []) (rest := []) hx hb hml hown hts hK hP hD hS hA NT_ok hN hAe hl.1 ⟨Nat.le_refl _, Nat.le_refl _⟩ 0 rfl rfl rfl (c_X10_condition l D cy hm v_taped v_walkers v_loads v_pieces v_changeCosts v_planned v_isMarch v_clauseMany zplace_210 v_end zbad_211 v_clauses zcodes_212 zopen_213 zstacked_214 v_isOver zisBehind_215 v_atW v_atL v_atT v_atH v_atM v_atI v_atQ v_packing v_packed v_goPace v_goMinutes v_spentAt v_ranChanges f_m_tape f_m_knee f_m_weight f_m_isLame f_m_loadWeight f_m_owner f_m_food f_m_miles f_m_slope f_m_clauseLetter f_m_sumFrom f_m_codeFrom f_m_codeTo f_m_code f_m_codeArg f_204 f_205 f_227 f_m_newTo znewCode_216 znewArg_217 zstack_218 f_m_worth f_m_isRefused f_m_least f_m_packPounds f_m_packOwner f_m_room f_m_givenTo f_m_canBe f_m_setPounds f_m_plainTime f_m_muleTime f_m_planTo f_m_march f_m_tired f_m_ranMinutes f_m_tiredAhead f_m_isReached f_m_toEnd f_m_upTo f_m_upNext f_m_byChanges f_m_bandPaces H.size zcodes_212.toNatClampNeg (by omega) (by omega) (by omega) (by omega) (by omega) (by omega) (by omega) hr_m_tape (by omega) (by omega) ⟨Nat.le_refl _, by rw [Nat.sub_self]; rfl⟩ (by have hV := p_221 (by omega); have q1 : (0 : Int32).toInt = 0 := (by decide); omega)) (gi_V lwd_476 lwd_477 lwd_478 lwd_5 lwd_479) ⟨rfl, hd_X10_condition⟩ ⟨Nat.le_of_ble_eq_true rfl, Nat.le_of_ble_eq_true rfl⟩ rfl (Nat.le_of_ble_eq_true rfl) dX10_clause_129) (fun u_235 H locs hw hP hD hS => ?_)
            obtain ⟨zplace_237, zbad_238, zcodes_239, zopen_240, zstacked_241, zisOver_242, zisBehind_243, znewCode_244, znewArg_245, zstack_246⟩ := u_235
            try dsimp only at hw hP hD
            obtain ⟨p_247, p_248, p_249, p_250, p_251, p_252, p_253, p_254, p_255⟩ := hw
            refine lv_aload_n hx hb dX10_clause_132 rfl (lv_at hl 1 rfl) ?_
            refine gt_MD_MD_newTo hx hb hts hown hK hP lwd_174 dX10_clause_133 ?_
            refine lv_aload_n hx hb dX10_clause_136 rfl (lv_at hl 1 rfl) ?_
            refine gt_MD_MD_clauses hx hb hts hown hK hP lwd_403 dX10_clause_137 ?_
            refine lv_aload_n hx hb dX10_clause_140 rfl (lv_at hl 1 rfl) ?_
            refine gt_MD_MD_codes hx hb hts hown hK hP lwd_404 dX10_clause_141 ?_
            refine as_m_newTo (x := zcodes_239) hx hb hK hP hD hS (i_in (rfl : v_clauses.toInt = v_clauses.toInt) (by omega) (by omega)) dX10_clause_144 (fun f_256 ef_256 H locs hP hD hS => ?_)
            refine lv_aload_n hx hb dX10_clause_145 rfl (lv_at hl 1 rfl) ?_
            refine lv_dup hx hb dX10_clause_146 rfl ?_
            refine gt_MD_MD_clauses hx hb hts hown hK hP lwd_403 dX10_clause_147 ?_
            refine lv_iconst (v := 1) hx hb dX10_clause_150 (by decide) ?_
            refine lv_iadd hx hb dX10_clause_151 ?_
            refine lv_topi (fun n_257 en_257 => ?_)
            have tn_257 : n_257.toInt = v_clauses.toInt + 1 := i_add en_257 (rfl : v_clauses.toInt = v_clauses.toInt) (by decide : (1 : Int32).toInt = 1) (by omega) (by omega)
            refine pt_MD_MD_clauses (x := n_257) hx hb hts hown hK hP hD hS lwd_403 dX10_clause_152 (fun H locs hP hD hS => ?_)
            exact hrt zplace_237 zbad_238 n_257 zcodes_239 zopen_240 zstacked_241 zisOver_242 zisBehind_243 f_204 f_205 f_227 f_256 znewCode_244 znewArg_245 zstack_246 ⟨(by omega), (by omega), (fun h0 => by
              have hV := p_221 (by omega)
              have hC := p_249 (by omega)
              rw [ef_205, ef_227, ef_256]
              exact wfN_add (code1 := znewCode_216) (s := v_codes) (f := zcodes_212) hwn (by omega) (by omega) (by omega) (by omega) rfl hV.2.1 hC.1 hV.2.2.2 hC.2 (by omega) (by omega)), (by omega), (by omega), (by omega), (by omega), (by omega), (by omega), (by omega)⟩ hP hD hS dX10_clause_155
        · have gc_203 : r_200.toInt = 0 := i_eq (rfl : r_200.toInt = r_200.toInt) (by decide : (0 : Int32).toInt = 0) c_203
          exact hrt v_place zbad_196 v_clauses v_codes v_open v_stacked v_isOver v_isBehind f_m_newLetter f_m_newSum f_m_newFrom f_m_newTo f_m_newCode f_m_newArg f_m_stack ⟨(by omega), (by omega), (fun h0 => absurd h0 (by omega)), (by omega), (by omega), (by omega), (by omega), (by omega), (by omega), (by omega)⟩ hP hD hS dX10_clause_60
    · have gc_132 : r_2.toInt ≠ 103 := i_ne (rfl : r_2.toInt = r_2.toInt) (by decide : (103 : Int32).toInt = 103) c_132
      refine lv_iload_n hx hb dX10_clause_17 rfl (lv_at hl 0 rfl) ?_
      refine lv_bipush (v := 114) hx hb dX10_clause_18 (by decide) ?_
      refine lv_icmp_eq (tgt := 35) hx hb dX10_clause_20 (by decide) (fun c_258 => ?_) (fun c_258 => ?_)
      · have gc_258 : r_2.toInt = 114 := i_eq (rfl : r_2.toInt = r_2.toInt) (by decide : (114 : Int32).toInt = 114) c_258
        refine lv_aload_n hx hb dX10_clause_35 rfl (lv_at hl 1 rfl) ?_
        refine gt_MD_MD_clauses hx hb hts hown hK hP lwd_403 dX10_clause_36 ?_
        refine lv_bipush (v := 14) hx hb dX10_clause_39 (by decide) ?_
        refine lv_icmp_ne (tgt := 53) hx hb dX10_clause_41 (by decide) (fun c_259 => ?_) (fun c_259 => ?_)
        · have gc_259 : v_clauses.toInt ≠ 14 := i_ne (rfl : v_clauses.toInt = v_clauses.toInt) (by decide : (14 : Int32).toInt = 14) c_259
          refine lv_aload_n hx hb dX10_clause_53 rfl (lv_at hl 1 rfl) ?_
          refine xi hD hS hA (xV (As := []) (rest := []) hx hb hml hown hts hK hP hD hS hA NT_ok hN hAe hl.1 ⟨Nat.le_refl _, Nat.le_refl _⟩ 0 rfl rfl rfl (c_X10_isGood l D cy hm v_taped v_walkers v_loads v_pieces v_changeCosts v_planned v_isMarch v_clauseMany v_place v_end v_bad v_clauses v_codes v_open v_stacked v_isOver v_isBehind v_atW v_atL v_atT v_atH v_atM v_atI v_atQ v_packing v_packed v_goPace v_goMinutes v_spentAt v_ranChanges f_m_tape f_m_knee f_m_weight f_m_isLame f_m_loadWeight f_m_owner f_m_food f_m_miles f_m_slope f_m_clauseLetter f_m_sumFrom f_m_codeFrom f_m_codeTo f_m_code f_m_codeArg f_m_newLetter f_m_newSum f_m_newFrom f_m_newTo f_m_newCode f_m_newArg f_m_stack f_m_worth f_m_isRefused f_m_least f_m_packPounds f_m_packOwner f_m_room f_m_givenTo f_m_canBe f_m_setPounds f_m_plainTime f_m_muleTime f_m_planTo f_m_march f_m_tired f_m_ranMinutes f_m_tiredAhead f_m_isReached f_m_toEnd f_m_upTo f_m_upNext f_m_byChanges f_m_bandPaces H.size (by omega)) (gi_V lwd_406 lwd_407 lwd_408 lwd_5 lwd_409) ⟨rfl, hd_X10_isGood⟩ ⟨Nat.le_of_ble_eq_true rfl, Nat.le_of_ble_eq_true rfl⟩ rfl (Nat.le_of_ble_eq_true rfl) dX10_clause_54) (fun r_261 u_260 H locs hw hP hD hS => ?_)
          try dsimp only at hw hP hD
          obtain ⟨p_262, p_263⟩ := hw
          refine lv_if_ne (tgt := 61) hx hb dX10_clause_57 (by decide) (fun c_264 => ?_) (fun c_264 => ?_)
          · have gc_264 : r_261.toInt ≠ 0 := i_ne (rfl : r_261.toInt = r_261.toInt) (by decide : (0 : Int32).toInt = 0) c_264
            refine lv_aload_n hx hb dX10_clause_61 rfl (lv_at hl 1 rfl) ?_
            refine gt_MD_MD_newLetter hx hb hts hown hK hP lwd_171 dX10_clause_62 ?_
            refine lv_aload_n hx hb dX10_clause_65 rfl (lv_at hl 1 rfl) ?_
            refine gt_MD_MD_clauses hx hb hts hown hK hP lwd_403 dX10_clause_66 ?_
            refine lv_iload_n hx hb dX10_clause_69 rfl (lv_at hl 0 rfl) ?_
            refine as_m_newLetter (x := r_2) hx hb hK hP hD hS (i_in (rfl : v_clauses.toInt = v_clauses.toInt) (by omega) (by omega)) dX10_clause_70 (fun f_265 ef_265 H locs hP hD hS => ?_)
            refine lv_aload_n hx hb dX10_clause_71 rfl (lv_at hl 1 rfl) ?_
            refine gt_MD_MD_newSum hx hb hts hown hK hP lwd_172 dX10_clause_72 ?_
            refine lv_aload_n hx hb dX10_clause_75 rfl (lv_at hl 1 rfl) ?_
            refine gt_MD_MD_clauses hx hb hts hown hK hP lwd_403 dX10_clause_76 ?_
            refine lv_aload_n hx hb dX10_clause_79 rfl (lv_at hl 1 rfl) ?_
            refine gt_MD_MD_codes hx hb hts hown hK hP lwd_404 dX10_clause_80 ?_
            refine as_m_newSum (x := v_codes) hx hb hK hP hD hS (i_in (rfl : v_clauses.toInt = v_clauses.toInt) (by omega) (by omega)) dX10_clause_83 (fun f_266 ef_266 H locs hP hD hS => ?_)
            refine lv_aload_n hx hb dX10_clause_84 rfl (lv_at hl 1 rfl) ?_
            refine lv_dup hx hb dX10_clause_85 rfl ?_
            refine gt_MD_MD_place hx hb hts hown hK hP lwd_400 dX10_clause_86 ?_
            refine lv_iconst (v := 1) hx hb dX10_clause_89 (by decide) ?_
            refine lv_iadd hx hb dX10_clause_90 ?_
            refine lv_topi (fun n_267 en_267 => ?_)
            have tn_267 : n_267.toInt = v_place.toInt + 1 := i_add en_267 (rfl : v_place.toInt = v_place.toInt) (by decide : (1 : Int32).toInt = 1) (by omega) (by omega)
            refine pt_MD_MD_place (x := n_267) hx hb hts hown hK hP hD hS lwd_400 dX10_clause_91 (fun H locs hP hD hS => ?_)
            refine lv_aload_n hx hb dX10_clause_94 rfl (lv_at hl 1 rfl) ?_
            refine lv_iconst (v := 0) hx hb dX10_clause_95 (by decide) ?_
            refine pt_MD_MD_stacked (x := 0) hx hb hts hown hK hP hD hS lwd_414 dX10_clause_96 (fun H locs hP hD hS => ?_)
            refine lv_aload_n hx hb dX10_clause_99 rfl (lv_at hl 1 rfl) ?_
            refine lv_iconst (v := 0) hx hb dX10_clause_100 (by decide) ?_
            refine pt_MD_MD_open (x := 0) hx hb hts hown hK hP hD hS lwd_415 dX10_clause_101 (fun H locs hP hD hS => ?_)
            refine lv_aload_n hx hb dX10_clause_104 rfl (lv_at hl 1 rfl) ?_
            have k_268 : (0 : Int32).toInt = 0 := by decide
            refine xv hD hS hA (xV (As := []) (rest := []) hx hb hml hown hts hK hP hD hS hA NT_ok hN hAe hl.1 ⟨Nat.le_refl _, Nat.le_refl _⟩ 0 rfl rfl rfl (c_X10_value l D cy hm v_taped v_walkers v_loads v_pieces v_changeCosts v_planned v_isMarch v_clauseMany n_267 v_end v_bad v_clauses v_codes 0 0 v_isOver v_isBehind v_atW v_atL v_atT v_atH v_atM v_atI v_atQ v_packing v_packed v_goPace v_goMinutes v_spentAt v_ranChanges f_m_tape f_m_knee f_m_weight f_m_isLame f_m_loadWeight f_m_owner f_m_food f_m_miles f_m_slope f_m_clauseLetter f_m_sumFrom f_m_codeFrom f_m_codeTo f_m_code f_m_codeArg f_265 f_266 f_m_newFrom f_m_newTo f_m_newCode f_m_newArg f_m_stack f_m_worth f_m_isRefused f_m_least f_m_packPounds f_m_packOwner f_m_room f_m_givenTo f_m_canBe f_m_setPounds f_m_plainTime f_m_muleTime f_m_planTo f_m_march f_m_tired f_m_ranMinutes f_m_tiredAhead f_m_isReached f_m_toEnd f_m_upTo f_m_upNext f_m_byChanges f_m_bandPaces H.size v_codes.toNatClampNeg 0 (by omega) (by omega) (by omega) (by omega) (by decide) (by omega) hr_m_tape (by omega) (by omega) ⟨Nat.le_refl _, by rw [Nat.sub_self]; rfl⟩ (Or.inl (by decide))) (gi_V lwd_424 lwd_425 lwd_426 lwd_5 lwd_427) ⟨rfl, hd_X10_value⟩ ⟨Nat.le_of_ble_eq_true rfl, Nat.le_of_ble_eq_true rfl⟩ rfl (Nat.le_of_ble_eq_true rfl) dX10_clause_105) (fun u_269 H locs hw hP hD hS => ?_)
            obtain ⟨zplace_271, zbad_272, zcodes_273, zopen_274, zstacked_275, zisBehind_276, znewCode_277, znewArg_278, zstack_279⟩ := u_269
            try dsimp only at hw hP hD
            obtain ⟨p_280, p_281, p_282, p_283, p_284, p_285, p_286, p_287⟩ := hw
            refine lv_aload_n hx hb dX10_clause_108 rfl (lv_at hl 1 rfl) ?_
            refine gt_MD_MD_newFrom hx hb hts hown hK hP lwd_173 dX10_clause_109 ?_
            refine lv_aload_n hx hb dX10_clause_112 rfl (lv_at hl 1 rfl) ?_
            refine gt_MD_MD_clauses hx hb hts hown hK hP lwd_403 dX10_clause_113 ?_
            refine lv_aload_n hx hb dX10_clause_116 rfl (lv_at hl 1 rfl) ?_
            refine gt_MD_MD_codes hx hb hts hown hK hP lwd_404 dX10_clause_117 ?_
            refine as_m_newFrom (x := zcodes_273) hx hb hK hP hD hS (i_in (rfl : v_clauses.toInt = v_clauses.toInt) (by omega) (by omega)) dX10_clause_120 (fun f_288 ef_288 H locs hP hD hS => ?_)
            refine lv_aload_n hx hb dX10_clause_121 rfl (lv_at hl 1 rfl) ?_
            refine xi hD hS hA (xV (As := []) (rest := []) hx hb hml hown hts hK hP hD hS hA NT_ok hN hAe hl.1 ⟨Nat.le_refl _, Nat.le_refl _⟩ 0 rfl rfl rfl (c_X10_isGood l D cy hm v_taped v_walkers v_loads v_pieces v_changeCosts v_planned v_isMarch v_clauseMany zplace_271 v_end zbad_272 v_clauses zcodes_273 zopen_274 zstacked_275 v_isOver zisBehind_276 v_atW v_atL v_atT v_atH v_atM v_atI v_atQ v_packing v_packed v_goPace v_goMinutes v_spentAt v_ranChanges f_m_tape f_m_knee f_m_weight f_m_isLame f_m_loadWeight f_m_owner f_m_food f_m_miles f_m_slope f_m_clauseLetter f_m_sumFrom f_m_codeFrom f_m_codeTo f_m_code f_m_codeArg f_265 f_266 f_288 f_m_newTo znewCode_277 znewArg_278 zstack_279 f_m_worth f_m_isRefused f_m_least f_m_packPounds f_m_packOwner f_m_room f_m_givenTo f_m_canBe f_m_setPounds f_m_plainTime f_m_muleTime f_m_planTo f_m_march f_m_tired f_m_ranMinutes f_m_tiredAhead f_m_isReached f_m_toEnd f_m_upTo f_m_upNext f_m_byChanges f_m_bandPaces H.size (by omega)) (gi_V lwd_406 lwd_407 lwd_408 lwd_5 lwd_409) ⟨rfl, hd_X10_isGood⟩ ⟨Nat.le_of_ble_eq_true rfl, Nat.le_of_ble_eq_true rfl⟩ rfl (Nat.le_of_ble_eq_true rfl) dX10_clause_122) (fun r_290 u_289 H locs hw hP hD hS => ?_)
            try dsimp only at hw hP hD
            obtain ⟨p_291, p_292⟩ := hw
            refine lv_if_eq (tgt := 132) hx hb dX10_clause_125 (by decide) (fun c_293 => ?_) (fun c_293 => ?_)
            · have gc_293 : r_290.toInt = 0 := i_eq (rfl : r_290.toInt = r_290.toInt) (by decide : (0 : Int32).toInt = 0) c_293
              refine lv_aload_n hx hb dX10_clause_132 rfl (lv_at hl 1 rfl) ?_
              refine gt_MD_MD_newTo hx hb hts hown hK hP lwd_174 dX10_clause_133 ?_
              refine lv_aload_n hx hb dX10_clause_136 rfl (lv_at hl 1 rfl) ?_
              refine gt_MD_MD_clauses hx hb hts hown hK hP lwd_403 dX10_clause_137 ?_
              refine lv_aload_n hx hb dX10_clause_140 rfl (lv_at hl 1 rfl) ?_
              refine gt_MD_MD_codes hx hb hts hown hK hP lwd_404 dX10_clause_141 ?_
              refine as_m_newTo (x := zcodes_273) hx hb hK hP hD hS (i_in (rfl : v_clauses.toInt = v_clauses.toInt) (by omega) (by omega)) dX10_clause_144 (fun f_294 ef_294 H locs hP hD hS => ?_)
              refine lv_aload_n hx hb dX10_clause_145 rfl (lv_at hl 1 rfl) ?_
              refine lv_dup hx hb dX10_clause_146 rfl ?_
              refine gt_MD_MD_clauses hx hb hts hown hK hP lwd_403 dX10_clause_147 ?_
              refine lv_iconst (v := 1) hx hb dX10_clause_150 (by decide) ?_
              refine lv_iadd hx hb dX10_clause_151 ?_
              refine lv_topi (fun n_295 en_295 => ?_)
              have tn_295 : n_295.toInt = v_clauses.toInt + 1 := i_add en_295 (rfl : v_clauses.toInt = v_clauses.toInt) (by decide : (1 : Int32).toInt = 1) (by omega) (by omega)
              refine pt_MD_MD_clauses (x := n_295) hx hb hts hown hK hP hD hS lwd_403 dX10_clause_152 (fun H locs hP hD hS => ?_)
              exact hrt zplace_271 zbad_272 n_295 zcodes_273 zopen_274 zstacked_275 v_isOver zisBehind_276 f_265 f_266 f_288 f_294 znewCode_277 znewArg_278 zstack_279 ⟨(by omega), (by omega), (fun h0 => absurd h0 (by omega)), (by omega), (by omega), (by omega), (by omega), (by omega), (by omega), (by omega)⟩ hP hD hS dX10_clause_155
            · have gc_293 : r_290.toInt ≠ 0 := i_ne (rfl : r_290.toInt = r_290.toInt) (by decide : (0 : Int32).toInt = 0) c_293
              refine lv_aload_n hx hb dX10_clause_128 rfl (lv_at hl 1 rfl) ?_
              refine xv hD hS hA (xV (As := []) (rest := []) hx hb hml hown hts hK hP hD hS hA NT_ok hN hAe hl.1 ⟨Nat.le_refl _, Nat.le_refl _⟩ 0 rfl rfl rfl (c_X10_condition l D cy hm v_taped v_walkers v_loads v_pieces v_changeCosts v_planned v_isMarch v_clauseMany zplace_271 v_end zbad_272 v_clauses zcodes_273 zopen_274 zstacked_275 v_isOver zisBehind_276 v_atW v_atL v_atT v_atH v_atM v_atI v_atQ v_packing v_packed v_goPace v_goMinutes v_spentAt v_ranChanges f_m_tape f_m_knee f_m_weight f_m_isLame f_m_loadWeight f_m_owner f_m_food f_m_miles f_m_slope f_m_clauseLetter f_m_sumFrom f_m_codeFrom f_m_codeTo f_m_code f_m_codeArg f_265 f_266 f_288 f_m_newTo znewCode_277 znewArg_278 zstack_279 f_m_worth f_m_isRefused f_m_least f_m_packPounds f_m_packOwner f_m_room f_m_givenTo f_m_canBe f_m_setPounds f_m_plainTime f_m_muleTime f_m_planTo f_m_march f_m_tired f_m_ranMinutes f_m_tiredAhead f_m_isReached f_m_toEnd f_m_upTo f_m_upNext f_m_byChanges f_m_bandPaces H.size zcodes_273.toNatClampNeg (by omega) (by omega) (by omega) (by omega) (by omega) (by omega) (by omega) hr_m_tape (by omega) (by omega) ⟨Nat.le_refl _, by rw [Nat.sub_self]; rfl⟩ (by have hV := p_282 (by omega); have q1 : (0 : Int32).toInt = 0 := (by decide); omega)) (gi_V lwd_476 lwd_477 lwd_478 lwd_5 lwd_479) ⟨rfl, hd_X10_condition⟩ ⟨Nat.le_of_ble_eq_true rfl, Nat.le_of_ble_eq_true rfl⟩ rfl (Nat.le_of_ble_eq_true rfl) dX10_clause_129) (fun u_296 H locs hw hP hD hS => ?_)
              obtain ⟨zplace_298, zbad_299, zcodes_300, zopen_301, zstacked_302, zisOver_303, zisBehind_304, znewCode_305, znewArg_306, zstack_307⟩ := u_296
              try dsimp only at hw hP hD
              obtain ⟨p_308, p_309, p_310, p_311, p_312, p_313, p_314, p_315, p_316⟩ := hw
              refine lv_aload_n hx hb dX10_clause_132 rfl (lv_at hl 1 rfl) ?_
              refine gt_MD_MD_newTo hx hb hts hown hK hP lwd_174 dX10_clause_133 ?_
              refine lv_aload_n hx hb dX10_clause_136 rfl (lv_at hl 1 rfl) ?_
              refine gt_MD_MD_clauses hx hb hts hown hK hP lwd_403 dX10_clause_137 ?_
              refine lv_aload_n hx hb dX10_clause_140 rfl (lv_at hl 1 rfl) ?_
              refine gt_MD_MD_codes hx hb hts hown hK hP lwd_404 dX10_clause_141 ?_
              refine as_m_newTo (x := zcodes_300) hx hb hK hP hD hS (i_in (rfl : v_clauses.toInt = v_clauses.toInt) (by omega) (by omega)) dX10_clause_144 (fun f_317 ef_317 H locs hP hD hS => ?_)
              refine lv_aload_n hx hb dX10_clause_145 rfl (lv_at hl 1 rfl) ?_
              refine lv_dup hx hb dX10_clause_146 rfl ?_
              refine gt_MD_MD_clauses hx hb hts hown hK hP lwd_403 dX10_clause_147 ?_
              refine lv_iconst (v := 1) hx hb dX10_clause_150 (by decide) ?_
              refine lv_iadd hx hb dX10_clause_151 ?_
              refine lv_topi (fun n_318 en_318 => ?_)
              have tn_318 : n_318.toInt = v_clauses.toInt + 1 := i_add en_318 (rfl : v_clauses.toInt = v_clauses.toInt) (by decide : (1 : Int32).toInt = 1) (by omega) (by omega)
              refine pt_MD_MD_clauses (x := n_318) hx hb hts hown hK hP hD hS lwd_403 dX10_clause_152 (fun H locs hP hD hS => ?_)
              exact hrt zplace_298 zbad_299 n_318 zcodes_300 zopen_301 zstacked_302 zisOver_303 zisBehind_304 f_265 f_266 f_288 f_317 znewCode_305 znewArg_306 zstack_307 ⟨(by omega), (by omega), (fun h0 => by
                have hV := p_282 (by omega)
                have hC := p_310 (by omega)
                rw [ef_266, ef_288, ef_317]
                exact wfN_add (code1 := znewCode_277) (s := v_codes) (f := zcodes_273) hwn (by omega) (by omega) (by omega) (by omega) rfl hV.2.1 hC.1 hV.2.2.2 hC.2 (by omega) (by omega)), (by omega), (by omega), (by omega), (by omega), (by omega), (by omega), (by omega)⟩ hP hD hS dX10_clause_155
          · have gc_264 : r_261.toInt = 0 := i_eq (rfl : r_261.toInt = r_261.toInt) (by decide : (0 : Int32).toInt = 0) c_264
            exact hrt v_place v_bad v_clauses v_codes v_open v_stacked v_isOver v_isBehind f_m_newLetter f_m_newSum f_m_newFrom f_m_newTo f_m_newCode f_m_newArg f_m_stack ⟨(by omega), (by omega), (fun h0 => absurd h0 (by omega)), (by omega), (by omega), (by omega), (by omega), (by omega), (by omega), (by omega)⟩ hP hD hS dX10_clause_60
        · have gc_259 : v_clauses.toInt = 14 := i_eq (rfl : v_clauses.toInt = v_clauses.toInt) (by decide : (14 : Int32).toInt = 14) c_259
          refine lv_aload_n hx hb dX10_clause_44 rfl (lv_at hl 1 rfl) ?_
          refine lv_iconst (v := 4) hx hb dX10_clause_45 (by decide) ?_
          refine lv_aload_n hx hb dX10_clause_46 rfl (lv_at hl 1 rfl) ?_
          refine gt_MD_MD_place hx hb hts hown hK hP lwd_400 dX10_clause_47 ?_
          have k_319 : (4 : Int32).toInt = 4 := by decide
          refine xv hD hS hA (xV (As := [.int 4, .int v_place]) (rest := []) hx hb hml hown hts hK hP hD hS hA NT_ok hN hAe hl.1 ⟨Nat.le_refl _, Nat.le_refl _⟩ 0 rfl rfl rfl (c_X10_wrongs l D cy hm v_taped v_walkers v_loads v_pieces v_changeCosts v_planned v_isMarch v_clauseMany v_place v_end v_bad v_clauses v_codes v_open v_stacked v_isOver v_isBehind v_atW v_atL v_atT v_atH v_atM v_atI v_atQ v_packing v_packed v_goPace v_goMinutes v_spentAt v_ranChanges f_m_tape f_m_knee f_m_weight f_m_isLame f_m_loadWeight f_m_owner f_m_food f_m_miles f_m_slope f_m_clauseLetter f_m_sumFrom f_m_codeFrom f_m_codeTo f_m_code f_m_codeArg f_m_newLetter f_m_newSum f_m_newFrom f_m_newTo f_m_newCode f_m_newArg f_m_stack f_m_worth f_m_isRefused f_m_least f_m_packPounds f_m_packOwner f_m_room f_m_givenTo f_m_canBe f_m_setPounds f_m_plainTime f_m_muleTime f_m_planTo f_m_march f_m_tired f_m_ranMinutes f_m_tiredAhead f_m_isReached f_m_toEnd f_m_upTo f_m_upNext f_m_byChanges f_m_bandPaces H.size 4 v_place (by omega) (by omega) (by omega)) (gi_V lwd_420 lwd_421 lwd_422 lwd_5 lwd_423) ⟨rfl, hd_X10_wrongs⟩ ⟨Nat.le_of_ble_eq_true rfl, Nat.le_of_ble_eq_true rfl⟩ rfl (Nat.le_of_ble_eq_true rfl) dX10_clause_50) (fun u_320 H locs hw hP hD hS => ?_)
          obtain ⟨zbad_322, rfl⟩ : ∃ z, z = u_320 := ⟨_, rfl⟩
          try dsimp only at hw hP hD
          obtain ⟨p_323, p_324⟩ := hw
          refine lv_aload_n hx hb dX10_clause_53 rfl (lv_at hl 1 rfl) ?_
          refine xi hD hS hA (xV (As := []) (rest := []) hx hb hml hown hts hK hP hD hS hA NT_ok hN hAe hl.1 ⟨Nat.le_refl _, Nat.le_refl _⟩ 0 rfl rfl rfl (c_X10_isGood l D cy hm v_taped v_walkers v_loads v_pieces v_changeCosts v_planned v_isMarch v_clauseMany v_place v_end zbad_322 v_clauses v_codes v_open v_stacked v_isOver v_isBehind v_atW v_atL v_atT v_atH v_atM v_atI v_atQ v_packing v_packed v_goPace v_goMinutes v_spentAt v_ranChanges f_m_tape f_m_knee f_m_weight f_m_isLame f_m_loadWeight f_m_owner f_m_food f_m_miles f_m_slope f_m_clauseLetter f_m_sumFrom f_m_codeFrom f_m_codeTo f_m_code f_m_codeArg f_m_newLetter f_m_newSum f_m_newFrom f_m_newTo f_m_newCode f_m_newArg f_m_stack f_m_worth f_m_isRefused f_m_least f_m_packPounds f_m_packOwner f_m_room f_m_givenTo f_m_canBe f_m_setPounds f_m_plainTime f_m_muleTime f_m_planTo f_m_march f_m_tired f_m_ranMinutes f_m_tiredAhead f_m_isReached f_m_toEnd f_m_upTo f_m_upNext f_m_byChanges f_m_bandPaces H.size (by omega)) (gi_V lwd_406 lwd_407 lwd_408 lwd_5 lwd_409) ⟨rfl, hd_X10_isGood⟩ ⟨Nat.le_of_ble_eq_true rfl, Nat.le_of_ble_eq_true rfl⟩ rfl (Nat.le_of_ble_eq_true rfl) dX10_clause_54) (fun r_326 u_325 H locs hw hP hD hS => ?_)
          try dsimp only at hw hP hD
          obtain ⟨p_327, p_328⟩ := hw
          refine lv_if_ne (tgt := 61) hx hb dX10_clause_57 (by decide) (fun c_329 => ?_) (fun c_329 => ?_)
          · have gc_329 : r_326.toInt ≠ 0 := i_ne (rfl : r_326.toInt = r_326.toInt) (by decide : (0 : Int32).toInt = 0) c_329
            refine lv_aload_n hx hb dX10_clause_61 rfl (lv_at hl 1 rfl) ?_
            refine gt_MD_MD_newLetter hx hb hts hown hK hP lwd_171 dX10_clause_62 ?_
            refine lv_aload_n hx hb dX10_clause_65 rfl (lv_at hl 1 rfl) ?_
            refine gt_MD_MD_clauses hx hb hts hown hK hP lwd_403 dX10_clause_66 ?_
            refine lv_iload_n hx hb dX10_clause_69 rfl (lv_at hl 0 rfl) ?_
            refine as_m_newLetter (x := r_2) hx hb hK hP hD hS (i_in (rfl : v_clauses.toInt = v_clauses.toInt) (by omega) (by omega)) dX10_clause_70 (fun f_330 ef_330 H locs hP hD hS => ?_)
            refine lv_aload_n hx hb dX10_clause_71 rfl (lv_at hl 1 rfl) ?_
            refine gt_MD_MD_newSum hx hb hts hown hK hP lwd_172 dX10_clause_72 ?_
            refine lv_aload_n hx hb dX10_clause_75 rfl (lv_at hl 1 rfl) ?_
            refine gt_MD_MD_clauses hx hb hts hown hK hP lwd_403 dX10_clause_76 ?_
            refine lv_aload_n hx hb dX10_clause_79 rfl (lv_at hl 1 rfl) ?_
            refine gt_MD_MD_codes hx hb hts hown hK hP lwd_404 dX10_clause_80 ?_
            refine as_m_newSum (x := v_codes) hx hb hK hP hD hS (i_in (rfl : v_clauses.toInt = v_clauses.toInt) (by omega) (by omega)) dX10_clause_83 (fun f_331 ef_331 H locs hP hD hS => ?_)
            refine lv_aload_n hx hb dX10_clause_84 rfl (lv_at hl 1 rfl) ?_
            refine lv_dup hx hb dX10_clause_85 rfl ?_
            refine gt_MD_MD_place hx hb hts hown hK hP lwd_400 dX10_clause_86 ?_
            refine lv_iconst (v := 1) hx hb dX10_clause_89 (by decide) ?_
            refine lv_iadd hx hb dX10_clause_90 ?_
            refine lv_topi (fun n_332 en_332 => ?_)
            have tn_332 : n_332.toInt = v_place.toInt + 1 := i_add en_332 (rfl : v_place.toInt = v_place.toInt) (by decide : (1 : Int32).toInt = 1) (by omega) (by omega)
            refine pt_MD_MD_place (x := n_332) hx hb hts hown hK hP hD hS lwd_400 dX10_clause_91 (fun H locs hP hD hS => ?_)
            refine lv_aload_n hx hb dX10_clause_94 rfl (lv_at hl 1 rfl) ?_
            refine lv_iconst (v := 0) hx hb dX10_clause_95 (by decide) ?_
            refine pt_MD_MD_stacked (x := 0) hx hb hts hown hK hP hD hS lwd_414 dX10_clause_96 (fun H locs hP hD hS => ?_)
            refine lv_aload_n hx hb dX10_clause_99 rfl (lv_at hl 1 rfl) ?_
            refine lv_iconst (v := 0) hx hb dX10_clause_100 (by decide) ?_
            refine pt_MD_MD_open (x := 0) hx hb hts hown hK hP hD hS lwd_415 dX10_clause_101 (fun H locs hP hD hS => ?_)
            refine lv_aload_n hx hb dX10_clause_104 rfl (lv_at hl 1 rfl) ?_
            have k_333 : (0 : Int32).toInt = 0 := by decide
            refine xv hD hS hA (xV (As := []) (rest := []) hx hb hml hown hts hK hP hD hS hA NT_ok hN hAe hl.1 ⟨Nat.le_refl _, Nat.le_refl _⟩ 0 rfl rfl rfl (c_X10_value l D cy hm v_taped v_walkers v_loads v_pieces v_changeCosts v_planned v_isMarch v_clauseMany n_332 v_end zbad_322 v_clauses v_codes 0 0 v_isOver v_isBehind v_atW v_atL v_atT v_atH v_atM v_atI v_atQ v_packing v_packed v_goPace v_goMinutes v_spentAt v_ranChanges f_m_tape f_m_knee f_m_weight f_m_isLame f_m_loadWeight f_m_owner f_m_food f_m_miles f_m_slope f_m_clauseLetter f_m_sumFrom f_m_codeFrom f_m_codeTo f_m_code f_m_codeArg f_330 f_331 f_m_newFrom f_m_newTo f_m_newCode f_m_newArg f_m_stack f_m_worth f_m_isRefused f_m_least f_m_packPounds f_m_packOwner f_m_room f_m_givenTo f_m_canBe f_m_setPounds f_m_plainTime f_m_muleTime f_m_planTo f_m_march f_m_tired f_m_ranMinutes f_m_tiredAhead f_m_isReached f_m_toEnd f_m_upTo f_m_upNext f_m_byChanges f_m_bandPaces H.size v_codes.toNatClampNeg 0 (by omega) (by omega) (by omega) (by omega) (by decide) (by omega) hr_m_tape (by omega) (by omega) ⟨Nat.le_refl _, by rw [Nat.sub_self]; rfl⟩ (Or.inl (by decide))) (gi_V lwd_424 lwd_425 lwd_426 lwd_5 lwd_427) ⟨rfl, hd_X10_value⟩ ⟨Nat.le_of_ble_eq_true rfl, Nat.le_of_ble_eq_true rfl⟩ rfl (Nat.le_of_ble_eq_true rfl) dX10_clause_105) (fun u_334 H locs hw hP hD hS => ?_)
            obtain ⟨zplace_336, zbad_337, zcodes_338, zopen_339, zstacked_340, zisBehind_341, znewCode_342, znewArg_343, zstack_344⟩ := u_334
            try dsimp only at hw hP hD
            obtain ⟨p_345, p_346, p_347, p_348, p_349, p_350, p_351, p_352⟩ := hw
            refine lv_aload_n hx hb dX10_clause_108 rfl (lv_at hl 1 rfl) ?_
            refine gt_MD_MD_newFrom hx hb hts hown hK hP lwd_173 dX10_clause_109 ?_
            refine lv_aload_n hx hb dX10_clause_112 rfl (lv_at hl 1 rfl) ?_
            refine gt_MD_MD_clauses hx hb hts hown hK hP lwd_403 dX10_clause_113 ?_
            refine lv_aload_n hx hb dX10_clause_116 rfl (lv_at hl 1 rfl) ?_
            refine gt_MD_MD_codes hx hb hts hown hK hP lwd_404 dX10_clause_117 ?_
            refine as_m_newFrom (x := zcodes_338) hx hb hK hP hD hS (i_in (rfl : v_clauses.toInt = v_clauses.toInt) (by omega) (by omega)) dX10_clause_120 (fun f_353 ef_353 H locs hP hD hS => ?_)
            refine lv_aload_n hx hb dX10_clause_121 rfl (lv_at hl 1 rfl) ?_
            refine xi hD hS hA (xV (As := []) (rest := []) hx hb hml hown hts hK hP hD hS hA NT_ok hN hAe hl.1 ⟨Nat.le_refl _, Nat.le_refl _⟩ 0 rfl rfl rfl (c_X10_isGood l D cy hm v_taped v_walkers v_loads v_pieces v_changeCosts v_planned v_isMarch v_clauseMany zplace_336 v_end zbad_337 v_clauses zcodes_338 zopen_339 zstacked_340 v_isOver zisBehind_341 v_atW v_atL v_atT v_atH v_atM v_atI v_atQ v_packing v_packed v_goPace v_goMinutes v_spentAt v_ranChanges f_m_tape f_m_knee f_m_weight f_m_isLame f_m_loadWeight f_m_owner f_m_food f_m_miles f_m_slope f_m_clauseLetter f_m_sumFrom f_m_codeFrom f_m_codeTo f_m_code f_m_codeArg f_330 f_331 f_353 f_m_newTo znewCode_342 znewArg_343 zstack_344 f_m_worth f_m_isRefused f_m_least f_m_packPounds f_m_packOwner f_m_room f_m_givenTo f_m_canBe f_m_setPounds f_m_plainTime f_m_muleTime f_m_planTo f_m_march f_m_tired f_m_ranMinutes f_m_tiredAhead f_m_isReached f_m_toEnd f_m_upTo f_m_upNext f_m_byChanges f_m_bandPaces H.size (by omega)) (gi_V lwd_406 lwd_407 lwd_408 lwd_5 lwd_409) ⟨rfl, hd_X10_isGood⟩ ⟨Nat.le_of_ble_eq_true rfl, Nat.le_of_ble_eq_true rfl⟩ rfl (Nat.le_of_ble_eq_true rfl) dX10_clause_122) (fun r_355 u_354 H locs hw hP hD hS => ?_)
            try dsimp only at hw hP hD
            obtain ⟨p_356, p_357⟩ := hw
            refine lv_if_eq (tgt := 132) hx hb dX10_clause_125 (by decide) (fun c_358 => ?_) (fun c_358 => ?_)
            · have gc_358 : r_355.toInt = 0 := i_eq (rfl : r_355.toInt = r_355.toInt) (by decide : (0 : Int32).toInt = 0) c_358
              refine lv_aload_n hx hb dX10_clause_132 rfl (lv_at hl 1 rfl) ?_
              refine gt_MD_MD_newTo hx hb hts hown hK hP lwd_174 dX10_clause_133 ?_
              refine lv_aload_n hx hb dX10_clause_136 rfl (lv_at hl 1 rfl) ?_
              refine gt_MD_MD_clauses hx hb hts hown hK hP lwd_403 dX10_clause_137 ?_
              refine lv_aload_n hx hb dX10_clause_140 rfl (lv_at hl 1 rfl) ?_
              refine gt_MD_MD_codes hx hb hts hown hK hP lwd_404 dX10_clause_141 ?_
              refine as_m_newTo (x := zcodes_338) hx hb hK hP hD hS (i_in (rfl : v_clauses.toInt = v_clauses.toInt) (by omega) (by omega)) dX10_clause_144 (fun f_359 ef_359 H locs hP hD hS => ?_)
              refine lv_aload_n hx hb dX10_clause_145 rfl (lv_at hl 1 rfl) ?_
              refine lv_dup hx hb dX10_clause_146 rfl ?_
              refine gt_MD_MD_clauses hx hb hts hown hK hP lwd_403 dX10_clause_147 ?_
              refine lv_iconst (v := 1) hx hb dX10_clause_150 (by decide) ?_
              refine lv_iadd hx hb dX10_clause_151 ?_
              refine lv_topi (fun n_360 en_360 => ?_)
              have tn_360 : n_360.toInt = v_clauses.toInt + 1 := i_add en_360 (rfl : v_clauses.toInt = v_clauses.toInt) (by decide : (1 : Int32).toInt = 1) (by omega) (by omega)
              refine pt_MD_MD_clauses (x := n_360) hx hb hts hown hK hP hD hS lwd_403 dX10_clause_152 (fun H locs hP hD hS => ?_)
              exact hrt zplace_336 zbad_337 n_360 zcodes_338 zopen_339 zstacked_340 v_isOver zisBehind_341 f_330 f_331 f_353 f_359 znewCode_342 znewArg_343 zstack_344 ⟨(by omega), (by omega), (fun h0 => absurd h0 (by omega)), (by omega), (by omega), (by omega), (by omega), (by omega), (by omega), (by omega)⟩ hP hD hS dX10_clause_155
            · have gc_358 : r_355.toInt ≠ 0 := i_ne (rfl : r_355.toInt = r_355.toInt) (by decide : (0 : Int32).toInt = 0) c_358
              refine lv_aload_n hx hb dX10_clause_128 rfl (lv_at hl 1 rfl) ?_
              refine xv hD hS hA (xV (As := []) (rest := []) hx hb hml hown hts hK hP hD hS hA NT_ok hN hAe hl.1 ⟨Nat.le_refl _, Nat.le_refl _⟩ 0 rfl rfl rfl (c_X10_condition l D cy hm v_taped v_walkers v_loads v_pieces v_changeCosts v_planned v_isMarch v_clauseMany zplace_336 v_end zbad_337 v_clauses zcodes_338 zopen_339 zstacked_340 v_isOver zisBehind_341 v_atW v_atL v_atT v_atH v_atM v_atI v_atQ v_packing v_packed v_goPace v_goMinutes v_spentAt v_ranChanges f_m_tape f_m_knee f_m_weight f_m_isLame f_m_loadWeight f_m_owner f_m_food f_m_miles f_m_slope f_m_clauseLetter f_m_sumFrom f_m_codeFrom f_m_codeTo f_m_code f_m_codeArg f_330 f_331 f_353 f_m_newTo znewCode_342 znewArg_343 zstack_344 f_m_worth f_m_isRefused f_m_least f_m_packPounds f_m_packOwner f_m_room f_m_givenTo f_m_canBe f_m_setPounds f_m_plainTime f_m_muleTime f_m_planTo f_m_march f_m_tired f_m_ranMinutes f_m_tiredAhead f_m_isReached f_m_toEnd f_m_upTo f_m_upNext f_m_byChanges f_m_bandPaces H.size zcodes_338.toNatClampNeg (by omega) (by omega) (by omega) (by omega) (by omega) (by omega) (by omega) hr_m_tape (by omega) (by omega) ⟨Nat.le_refl _, by rw [Nat.sub_self]; rfl⟩ (by have hV := p_347 (by omega); have q1 : (0 : Int32).toInt = 0 := (by decide); omega)) (gi_V lwd_476 lwd_477 lwd_478 lwd_5 lwd_479) ⟨rfl, hd_X10_condition⟩ ⟨Nat.le_of_ble_eq_true rfl, Nat.le_of_ble_eq_true rfl⟩ rfl (Nat.le_of_ble_eq_true rfl) dX10_clause_129) (fun u_361 H locs hw hP hD hS => ?_)
              obtain ⟨zplace_363, zbad_364, zcodes_365, zopen_366, zstacked_367, zisOver_368, zisBehind_369, znewCode_370, znewArg_371, zstack_372⟩ := u_361
              try dsimp only at hw hP hD
              obtain ⟨p_373, p_374, p_375, p_376, p_377, p_378, p_379, p_380, p_381⟩ := hw
              refine lv_aload_n hx hb dX10_clause_132 rfl (lv_at hl 1 rfl) ?_
              refine gt_MD_MD_newTo hx hb hts hown hK hP lwd_174 dX10_clause_133 ?_
              refine lv_aload_n hx hb dX10_clause_136 rfl (lv_at hl 1 rfl) ?_
              refine gt_MD_MD_clauses hx hb hts hown hK hP lwd_403 dX10_clause_137 ?_
              refine lv_aload_n hx hb dX10_clause_140 rfl (lv_at hl 1 rfl) ?_
              refine gt_MD_MD_codes hx hb hts hown hK hP lwd_404 dX10_clause_141 ?_
              refine as_m_newTo (x := zcodes_365) hx hb hK hP hD hS (i_in (rfl : v_clauses.toInt = v_clauses.toInt) (by omega) (by omega)) dX10_clause_144 (fun f_382 ef_382 H locs hP hD hS => ?_)
              refine lv_aload_n hx hb dX10_clause_145 rfl (lv_at hl 1 rfl) ?_
              refine lv_dup hx hb dX10_clause_146 rfl ?_
              refine gt_MD_MD_clauses hx hb hts hown hK hP lwd_403 dX10_clause_147 ?_
              refine lv_iconst (v := 1) hx hb dX10_clause_150 (by decide) ?_
              refine lv_iadd hx hb dX10_clause_151 ?_
              refine lv_topi (fun n_383 en_383 => ?_)
              have tn_383 : n_383.toInt = v_clauses.toInt + 1 := i_add en_383 (rfl : v_clauses.toInt = v_clauses.toInt) (by decide : (1 : Int32).toInt = 1) (by omega) (by omega)
              refine pt_MD_MD_clauses (x := n_383) hx hb hts hown hK hP hD hS lwd_403 dX10_clause_152 (fun H locs hP hD hS => ?_)
              exact hrt zplace_363 zbad_364 n_383 zcodes_365 zopen_366 zstacked_367 zisOver_368 zisBehind_369 f_330 f_331 f_353 f_382 znewCode_370 znewArg_371 zstack_372 ⟨(by omega), (by omega), (fun h0 => by
                have hV := p_347 (by omega)
                have hC := p_375 (by omega)
                rw [ef_331, ef_353, ef_382]
                exact wfN_add (code1 := znewCode_342) (s := v_codes) (f := zcodes_338) hwn (by omega) (by omega) (by omega) (by omega) rfl hV.2.1 hC.1 hV.2.2.2 hC.2 (by omega) (by omega)), (by omega), (by omega), (by omega), (by omega), (by omega), (by omega), (by omega)⟩ hP hD hS dX10_clause_155
          · have gc_329 : r_326.toInt = 0 := i_eq (rfl : r_326.toInt = r_326.toInt) (by decide : (0 : Int32).toInt = 0) c_329
            exact hrt v_place zbad_322 v_clauses v_codes v_open v_stacked v_isOver v_isBehind f_m_newLetter f_m_newSum f_m_newFrom f_m_newTo f_m_newCode f_m_newArg f_m_stack ⟨(by omega), (by omega), (fun h0 => absurd h0 (by omega)), (by omega), (by omega), (by omega), (by omega), (by omega), (by omega), (by omega)⟩ hP hD hS dX10_clause_60
      · have gc_258 : r_2.toInt ≠ 114 := i_ne (rfl : r_2.toInt = r_2.toInt) (by decide : (114 : Int32).toInt = 114) c_258
        refine lv_aload_n hx hb dX10_clause_23 rfl (lv_at hl 1 rfl) ?_
        refine lv_iconst (v := 1) hx hb dX10_clause_24 (by decide) ?_
        refine lv_aload_n hx hb dX10_clause_25 rfl (lv_at hl 1 rfl) ?_
        refine gt_MD_MD_place hx hb hts hown hK hP lwd_400 dX10_clause_26 ?_
        have k_384 : (1 : Int32).toInt = 1 := by decide
        refine xv hD hS hA (xV (As := [.int 1, .int v_place]) (rest := []) hx hb hml hown hts hK hP hD hS hA NT_ok hN hAe hl.1 ⟨Nat.le_refl _, Nat.le_refl _⟩ 0 rfl rfl rfl (c_X10_wrongs l D cy hm v_taped v_walkers v_loads v_pieces v_changeCosts v_planned v_isMarch v_clauseMany v_place v_end v_bad v_clauses v_codes v_open v_stacked v_isOver v_isBehind v_atW v_atL v_atT v_atH v_atM v_atI v_atQ v_packing v_packed v_goPace v_goMinutes v_spentAt v_ranChanges f_m_tape f_m_knee f_m_weight f_m_isLame f_m_loadWeight f_m_owner f_m_food f_m_miles f_m_slope f_m_clauseLetter f_m_sumFrom f_m_codeFrom f_m_codeTo f_m_code f_m_codeArg f_m_newLetter f_m_newSum f_m_newFrom f_m_newTo f_m_newCode f_m_newArg f_m_stack f_m_worth f_m_isRefused f_m_least f_m_packPounds f_m_packOwner f_m_room f_m_givenTo f_m_canBe f_m_setPounds f_m_plainTime f_m_muleTime f_m_planTo f_m_march f_m_tired f_m_ranMinutes f_m_tiredAhead f_m_isReached f_m_toEnd f_m_upTo f_m_upNext f_m_byChanges f_m_bandPaces H.size 1 v_place (by omega) (by omega) (by omega)) (gi_V lwd_420 lwd_421 lwd_422 lwd_5 lwd_423) ⟨rfl, hd_X10_wrongs⟩ ⟨Nat.le_of_ble_eq_true rfl, Nat.le_of_ble_eq_true rfl⟩ rfl (Nat.le_of_ble_eq_true rfl) dX10_clause_29) (fun u_385 H locs hw hP hD hS => ?_)
        obtain ⟨zbad_387, rfl⟩ : ∃ z, z = u_385 := ⟨_, rfl⟩
        try dsimp only at hw hP hD
        obtain ⟨p_388, p_389⟩ := hw
        refine lv_goto (tgt := 53) hx hb dX10_clause_32 (by decide) ?_
        refine lv_aload_n hx hb dX10_clause_53 rfl (lv_at hl 1 rfl) ?_
        refine xi hD hS hA (xV (As := []) (rest := []) hx hb hml hown hts hK hP hD hS hA NT_ok hN hAe hl.1 ⟨Nat.le_refl _, Nat.le_refl _⟩ 0 rfl rfl rfl (c_X10_isGood l D cy hm v_taped v_walkers v_loads v_pieces v_changeCosts v_planned v_isMarch v_clauseMany v_place v_end zbad_387 v_clauses v_codes v_open v_stacked v_isOver v_isBehind v_atW v_atL v_atT v_atH v_atM v_atI v_atQ v_packing v_packed v_goPace v_goMinutes v_spentAt v_ranChanges f_m_tape f_m_knee f_m_weight f_m_isLame f_m_loadWeight f_m_owner f_m_food f_m_miles f_m_slope f_m_clauseLetter f_m_sumFrom f_m_codeFrom f_m_codeTo f_m_code f_m_codeArg f_m_newLetter f_m_newSum f_m_newFrom f_m_newTo f_m_newCode f_m_newArg f_m_stack f_m_worth f_m_isRefused f_m_least f_m_packPounds f_m_packOwner f_m_room f_m_givenTo f_m_canBe f_m_setPounds f_m_plainTime f_m_muleTime f_m_planTo f_m_march f_m_tired f_m_ranMinutes f_m_tiredAhead f_m_isReached f_m_toEnd f_m_upTo f_m_upNext f_m_byChanges f_m_bandPaces H.size (by omega)) (gi_V lwd_406 lwd_407 lwd_408 lwd_5 lwd_409) ⟨rfl, hd_X10_isGood⟩ ⟨Nat.le_of_ble_eq_true rfl, Nat.le_of_ble_eq_true rfl⟩ rfl (Nat.le_of_ble_eq_true rfl) dX10_clause_54) (fun r_391 u_390 H locs hw hP hD hS => ?_)
        try dsimp only at hw hP hD
        obtain ⟨p_392, p_393⟩ := hw
        refine lv_if_ne (tgt := 61) hx hb dX10_clause_57 (by decide) (fun c_394 => ?_) (fun c_394 => ?_)
        · have gc_394 : r_391.toInt ≠ 0 := i_ne (rfl : r_391.toInt = r_391.toInt) (by decide : (0 : Int32).toInt = 0) c_394
          refine lv_aload_n hx hb dX10_clause_61 rfl (lv_at hl 1 rfl) ?_
          refine gt_MD_MD_newLetter hx hb hts hown hK hP lwd_171 dX10_clause_62 ?_
          refine lv_aload_n hx hb dX10_clause_65 rfl (lv_at hl 1 rfl) ?_
          refine gt_MD_MD_clauses hx hb hts hown hK hP lwd_403 dX10_clause_66 ?_
          refine lv_iload_n hx hb dX10_clause_69 rfl (lv_at hl 0 rfl) ?_
          refine as_m_newLetter (x := r_2) hx hb hK hP hD hS (i_in (rfl : v_clauses.toInt = v_clauses.toInt) (by omega) (by omega)) dX10_clause_70 (fun f_395 ef_395 H locs hP hD hS => ?_)
          refine lv_aload_n hx hb dX10_clause_71 rfl (lv_at hl 1 rfl) ?_
          refine gt_MD_MD_newSum hx hb hts hown hK hP lwd_172 dX10_clause_72 ?_
          refine lv_aload_n hx hb dX10_clause_75 rfl (lv_at hl 1 rfl) ?_
          refine gt_MD_MD_clauses hx hb hts hown hK hP lwd_403 dX10_clause_76 ?_
          refine lv_aload_n hx hb dX10_clause_79 rfl (lv_at hl 1 rfl) ?_
          refine gt_MD_MD_codes hx hb hts hown hK hP lwd_404 dX10_clause_80 ?_
          refine as_m_newSum (x := v_codes) hx hb hK hP hD hS (i_in (rfl : v_clauses.toInt = v_clauses.toInt) (by omega) (by omega)) dX10_clause_83 (fun f_396 ef_396 H locs hP hD hS => ?_)
          refine lv_aload_n hx hb dX10_clause_84 rfl (lv_at hl 1 rfl) ?_
          refine lv_dup hx hb dX10_clause_85 rfl ?_
          refine gt_MD_MD_place hx hb hts hown hK hP lwd_400 dX10_clause_86 ?_
          refine lv_iconst (v := 1) hx hb dX10_clause_89 (by decide) ?_
          refine lv_iadd hx hb dX10_clause_90 ?_
          refine lv_topi (fun n_397 en_397 => ?_)
          have tn_397 : n_397.toInt = v_place.toInt + 1 := i_add en_397 (rfl : v_place.toInt = v_place.toInt) (by decide : (1 : Int32).toInt = 1) (by omega) (by omega)
          refine pt_MD_MD_place (x := n_397) hx hb hts hown hK hP hD hS lwd_400 dX10_clause_91 (fun H locs hP hD hS => ?_)
          refine lv_aload_n hx hb dX10_clause_94 rfl (lv_at hl 1 rfl) ?_
          refine lv_iconst (v := 0) hx hb dX10_clause_95 (by decide) ?_
          refine pt_MD_MD_stacked (x := 0) hx hb hts hown hK hP hD hS lwd_414 dX10_clause_96 (fun H locs hP hD hS => ?_)
          refine lv_aload_n hx hb dX10_clause_99 rfl (lv_at hl 1 rfl) ?_
          refine lv_iconst (v := 0) hx hb dX10_clause_100 (by decide) ?_
          refine pt_MD_MD_open (x := 0) hx hb hts hown hK hP hD hS lwd_415 dX10_clause_101 (fun H locs hP hD hS => ?_)
          refine lv_aload_n hx hb dX10_clause_104 rfl (lv_at hl 1 rfl) ?_
          have k_398 : (0 : Int32).toInt = 0 := by decide
          refine xv hD hS hA (xV (As := []) (rest := []) hx hb hml hown hts hK hP hD hS hA NT_ok hN hAe hl.1 ⟨Nat.le_refl _, Nat.le_refl _⟩ 0 rfl rfl rfl (c_X10_value l D cy hm v_taped v_walkers v_loads v_pieces v_changeCosts v_planned v_isMarch v_clauseMany n_397 v_end zbad_387 v_clauses v_codes 0 0 v_isOver v_isBehind v_atW v_atL v_atT v_atH v_atM v_atI v_atQ v_packing v_packed v_goPace v_goMinutes v_spentAt v_ranChanges f_m_tape f_m_knee f_m_weight f_m_isLame f_m_loadWeight f_m_owner f_m_food f_m_miles f_m_slope f_m_clauseLetter f_m_sumFrom f_m_codeFrom f_m_codeTo f_m_code f_m_codeArg f_395 f_396 f_m_newFrom f_m_newTo f_m_newCode f_m_newArg f_m_stack f_m_worth f_m_isRefused f_m_least f_m_packPounds f_m_packOwner f_m_room f_m_givenTo f_m_canBe f_m_setPounds f_m_plainTime f_m_muleTime f_m_planTo f_m_march f_m_tired f_m_ranMinutes f_m_tiredAhead f_m_isReached f_m_toEnd f_m_upTo f_m_upNext f_m_byChanges f_m_bandPaces H.size v_codes.toNatClampNeg 0 (by omega) (by omega) (by omega) (by omega) (by decide) (by omega) hr_m_tape (by omega) (by omega) ⟨Nat.le_refl _, by rw [Nat.sub_self]; rfl⟩ (Or.inl (by decide))) (gi_V lwd_424 lwd_425 lwd_426 lwd_5 lwd_427) ⟨rfl, hd_X10_value⟩ ⟨Nat.le_of_ble_eq_true rfl, Nat.le_of_ble_eq_true rfl⟩ rfl (Nat.le_of_ble_eq_true rfl) dX10_clause_105) (fun u_399 H locs hw hP hD hS => ?_)
          obtain ⟨zplace_401, zbad_402, zcodes_403, zopen_404, zstacked_405, zisBehind_406, znewCode_407, znewArg_408, zstack_409⟩ := u_399
          try dsimp only at hw hP hD
          obtain ⟨p_410, p_411, p_412, p_413, p_414, p_415, p_416, p_417⟩ := hw
          refine lv_aload_n hx hb dX10_clause_108 rfl (lv_at hl 1 rfl) ?_
          refine gt_MD_MD_newFrom hx hb hts hown hK hP lwd_173 dX10_clause_109 ?_
          refine lv_aload_n hx hb dX10_clause_112 rfl (lv_at hl 1 rfl) ?_
          refine gt_MD_MD_clauses hx hb hts hown hK hP lwd_403 dX10_clause_113 ?_
          refine lv_aload_n hx hb dX10_clause_116 rfl (lv_at hl 1 rfl) ?_
          refine gt_MD_MD_codes hx hb hts hown hK hP lwd_404 dX10_clause_117 ?_
          refine as_m_newFrom (x := zcodes_403) hx hb hK hP hD hS (i_in (rfl : v_clauses.toInt = v_clauses.toInt) (by omega) (by omega)) dX10_clause_120 (fun f_418 ef_418 H locs hP hD hS => ?_)
          refine lv_aload_n hx hb dX10_clause_121 rfl (lv_at hl 1 rfl) ?_
          refine xi hD hS hA (xV (As := []) (rest := []) hx hb hml hown hts hK hP hD hS hA NT_ok hN hAe hl.1 ⟨Nat.le_refl _, Nat.le_refl _⟩ 0 rfl rfl rfl (c_X10_isGood l D cy hm v_taped v_walkers v_loads v_pieces v_changeCosts v_planned v_isMarch v_clauseMany zplace_401 v_end zbad_402 v_clauses zcodes_403 zopen_404 zstacked_405 v_isOver zisBehind_406 v_atW v_atL v_atT v_atH v_atM v_atI v_atQ v_packing v_packed v_goPace v_goMinutes v_spentAt v_ranChanges f_m_tape f_m_knee f_m_weight f_m_isLame f_m_loadWeight f_m_owner f_m_food f_m_miles f_m_slope f_m_clauseLetter f_m_sumFrom f_m_codeFrom f_m_codeTo f_m_code f_m_codeArg f_395 f_396 f_418 f_m_newTo znewCode_407 znewArg_408 zstack_409 f_m_worth f_m_isRefused f_m_least f_m_packPounds f_m_packOwner f_m_room f_m_givenTo f_m_canBe f_m_setPounds f_m_plainTime f_m_muleTime f_m_planTo f_m_march f_m_tired f_m_ranMinutes f_m_tiredAhead f_m_isReached f_m_toEnd f_m_upTo f_m_upNext f_m_byChanges f_m_bandPaces H.size (by omega)) (gi_V lwd_406 lwd_407 lwd_408 lwd_5 lwd_409) ⟨rfl, hd_X10_isGood⟩ ⟨Nat.le_of_ble_eq_true rfl, Nat.le_of_ble_eq_true rfl⟩ rfl (Nat.le_of_ble_eq_true rfl) dX10_clause_122) (fun r_420 u_419 H locs hw hP hD hS => ?_)
          try dsimp only at hw hP hD
          obtain ⟨p_421, p_422⟩ := hw
          refine lv_if_eq (tgt := 132) hx hb dX10_clause_125 (by decide) (fun c_423 => ?_) (fun c_423 => ?_)
          · have gc_423 : r_420.toInt = 0 := i_eq (rfl : r_420.toInt = r_420.toInt) (by decide : (0 : Int32).toInt = 0) c_423
            refine lv_aload_n hx hb dX10_clause_132 rfl (lv_at hl 1 rfl) ?_
            refine gt_MD_MD_newTo hx hb hts hown hK hP lwd_174 dX10_clause_133 ?_
            refine lv_aload_n hx hb dX10_clause_136 rfl (lv_at hl 1 rfl) ?_
            refine gt_MD_MD_clauses hx hb hts hown hK hP lwd_403 dX10_clause_137 ?_
            refine lv_aload_n hx hb dX10_clause_140 rfl (lv_at hl 1 rfl) ?_
            refine gt_MD_MD_codes hx hb hts hown hK hP lwd_404 dX10_clause_141 ?_
            refine as_m_newTo (x := zcodes_403) hx hb hK hP hD hS (i_in (rfl : v_clauses.toInt = v_clauses.toInt) (by omega) (by omega)) dX10_clause_144 (fun f_424 ef_424 H locs hP hD hS => ?_)
            refine lv_aload_n hx hb dX10_clause_145 rfl (lv_at hl 1 rfl) ?_
            refine lv_dup hx hb dX10_clause_146 rfl ?_
            refine gt_MD_MD_clauses hx hb hts hown hK hP lwd_403 dX10_clause_147 ?_
            refine lv_iconst (v := 1) hx hb dX10_clause_150 (by decide) ?_
            refine lv_iadd hx hb dX10_clause_151 ?_
            refine lv_topi (fun n_425 en_425 => ?_)
            have tn_425 : n_425.toInt = v_clauses.toInt + 1 := i_add en_425 (rfl : v_clauses.toInt = v_clauses.toInt) (by decide : (1 : Int32).toInt = 1) (by omega) (by omega)
            refine pt_MD_MD_clauses (x := n_425) hx hb hts hown hK hP hD hS lwd_403 dX10_clause_152 (fun H locs hP hD hS => ?_)
            exact hrt zplace_401 zbad_402 n_425 zcodes_403 zopen_404 zstacked_405 v_isOver zisBehind_406 f_395 f_396 f_418 f_424 znewCode_407 znewArg_408 zstack_409 ⟨(by omega), (by omega), (fun h0 => absurd h0 (by omega)), (by omega), (by omega), (by omega), (by omega), (by omega), (by omega), (by omega)⟩ hP hD hS dX10_clause_155
          · have gc_423 : r_420.toInt ≠ 0 := i_ne (rfl : r_420.toInt = r_420.toInt) (by decide : (0 : Int32).toInt = 0) c_423
            refine lv_aload_n hx hb dX10_clause_128 rfl (lv_at hl 1 rfl) ?_
            refine xv hD hS hA (xV (As := []) (rest := []) hx hb hml hown hts hK hP hD hS hA NT_ok hN hAe hl.1 ⟨Nat.le_refl _, Nat.le_refl _⟩ 0 rfl rfl rfl (c_X10_condition l D cy hm v_taped v_walkers v_loads v_pieces v_changeCosts v_planned v_isMarch v_clauseMany zplace_401 v_end zbad_402 v_clauses zcodes_403 zopen_404 zstacked_405 v_isOver zisBehind_406 v_atW v_atL v_atT v_atH v_atM v_atI v_atQ v_packing v_packed v_goPace v_goMinutes v_spentAt v_ranChanges f_m_tape f_m_knee f_m_weight f_m_isLame f_m_loadWeight f_m_owner f_m_food f_m_miles f_m_slope f_m_clauseLetter f_m_sumFrom f_m_codeFrom f_m_codeTo f_m_code f_m_codeArg f_395 f_396 f_418 f_m_newTo znewCode_407 znewArg_408 zstack_409 f_m_worth f_m_isRefused f_m_least f_m_packPounds f_m_packOwner f_m_room f_m_givenTo f_m_canBe f_m_setPounds f_m_plainTime f_m_muleTime f_m_planTo f_m_march f_m_tired f_m_ranMinutes f_m_tiredAhead f_m_isReached f_m_toEnd f_m_upTo f_m_upNext f_m_byChanges f_m_bandPaces H.size zcodes_403.toNatClampNeg (by omega) (by omega) (by omega) (by omega) (by omega) (by omega) (by omega) hr_m_tape (by omega) (by omega) ⟨Nat.le_refl _, by rw [Nat.sub_self]; rfl⟩ (by have hV := p_412 (by omega); have q1 : (0 : Int32).toInt = 0 := (by decide); omega)) (gi_V lwd_476 lwd_477 lwd_478 lwd_5 lwd_479) ⟨rfl, hd_X10_condition⟩ ⟨Nat.le_of_ble_eq_true rfl, Nat.le_of_ble_eq_true rfl⟩ rfl (Nat.le_of_ble_eq_true rfl) dX10_clause_129) (fun u_426 H locs hw hP hD hS => ?_)
            obtain ⟨zplace_428, zbad_429, zcodes_430, zopen_431, zstacked_432, zisOver_433, zisBehind_434, znewCode_435, znewArg_436, zstack_437⟩ := u_426
            try dsimp only at hw hP hD
            obtain ⟨p_438, p_439, p_440, p_441, p_442, p_443, p_444, p_445, p_446⟩ := hw
            refine lv_aload_n hx hb dX10_clause_132 rfl (lv_at hl 1 rfl) ?_
            refine gt_MD_MD_newTo hx hb hts hown hK hP lwd_174 dX10_clause_133 ?_
            refine lv_aload_n hx hb dX10_clause_136 rfl (lv_at hl 1 rfl) ?_
            refine gt_MD_MD_clauses hx hb hts hown hK hP lwd_403 dX10_clause_137 ?_
            refine lv_aload_n hx hb dX10_clause_140 rfl (lv_at hl 1 rfl) ?_
            refine gt_MD_MD_codes hx hb hts hown hK hP lwd_404 dX10_clause_141 ?_
            refine as_m_newTo (x := zcodes_430) hx hb hK hP hD hS (i_in (rfl : v_clauses.toInt = v_clauses.toInt) (by omega) (by omega)) dX10_clause_144 (fun f_447 ef_447 H locs hP hD hS => ?_)
            refine lv_aload_n hx hb dX10_clause_145 rfl (lv_at hl 1 rfl) ?_
            refine lv_dup hx hb dX10_clause_146 rfl ?_
            refine gt_MD_MD_clauses hx hb hts hown hK hP lwd_403 dX10_clause_147 ?_
            refine lv_iconst (v := 1) hx hb dX10_clause_150 (by decide) ?_
            refine lv_iadd hx hb dX10_clause_151 ?_
            refine lv_topi (fun n_448 en_448 => ?_)
            have tn_448 : n_448.toInt = v_clauses.toInt + 1 := i_add en_448 (rfl : v_clauses.toInt = v_clauses.toInt) (by decide : (1 : Int32).toInt = 1) (by omega) (by omega)
            refine pt_MD_MD_clauses (x := n_448) hx hb hts hown hK hP hD hS lwd_403 dX10_clause_152 (fun H locs hP hD hS => ?_)
            exact hrt zplace_428 zbad_429 n_448 zcodes_430 zopen_431 zstacked_432 zisOver_433 zisBehind_434 f_395 f_396 f_418 f_447 znewCode_435 znewArg_436 zstack_437 ⟨(by omega), (by omega), (fun h0 => by
              have hV := p_412 (by omega)
              have hC := p_440 (by omega)
              rw [ef_396, ef_418, ef_447]
              exact wfN_add (code1 := znewCode_407) (s := v_codes) (f := zcodes_403) hwn (by omega) (by omega) (by omega) (by omega) rfl hV.2.1 hC.1 hV.2.2.2 hC.2 (by omega) (by omega)), (by omega), (by omega), (by omega), (by omega), (by omega), (by omega), (by omega)⟩ hP hD hS dX10_clause_155
        · have gc_394 : r_391.toInt = 0 := i_eq (rfl : r_391.toInt = r_391.toInt) (by decide : (0 : Int32).toInt = 0) c_394
          exact hrt v_place zbad_387 v_clauses v_codes v_open v_stacked v_isOver v_isBehind f_m_newLetter f_m_newSum f_m_newFrom f_m_newTo f_m_newCode f_m_newArg f_m_stack ⟨(by omega), (by omega), (fun h0 => absurd h0 (by omega)), (by omega), (by omega), (by omega), (by omega), (by omega), (by omega), (by omega)⟩ hP hD hS dX10_clause_60
