set_option maxHeartbeats 16000000 in
set_option maxRecDepth 100000 in
theorem c_X10_here (l : Launch) (D : va_G) (cy : Nat → ClassId) (hm : Nat → Nat) (v_taped v_walkers v_loads v_pieces v_changeCosts v_planned v_isMarch v_clauseMany v_place v_end v_bad v_clauses v_codes v_open v_stacked v_isOver v_isBehind v_atW v_atL v_atT v_atH v_atM v_atI v_atQ v_packing v_packed v_goPace v_goMinutes v_spentAt v_ranChanges : Int32) (f_m_tape f_m_knee f_m_weight f_m_isLame f_m_loadWeight f_m_owner f_m_food f_m_miles f_m_slope f_m_clauseLetter f_m_sumFrom f_m_codeFrom f_m_codeTo f_m_code f_m_codeArg f_m_newLetter f_m_newSum f_m_newFrom f_m_newTo f_m_newCode f_m_newArg f_m_stack f_m_worth f_m_isRefused f_m_least f_m_packPounds f_m_packOwner f_m_room f_m_givenTo f_m_canBe f_m_setPounds f_m_plainTime f_m_muleTime f_m_planTo f_m_march f_m_tired f_m_ranMinutes f_m_tiredAhead f_m_isReached f_m_toEnd f_m_upTo f_m_upNext f_m_byChanges f_m_bandPaces : Nat → Int32) (sz : Nat) (hb_v_place : 0 ≤ v_place.toInt ∧ v_place.toInt ≤ 200) (hb_v_end : 0 ≤ v_end.toInt ∧ v_end.toInt ≤ 200) (hr_m_tape : rg (-128) 127 f_m_tape) : gMi l yX10_here cX10_here 1 .int 1 [.ref (hm 0)] D cy (wMD cy hm v_taped v_walkers v_loads v_pieces v_changeCosts v_planned v_isMarch v_clauseMany v_place v_end v_bad v_clauses v_codes v_open v_stacked v_isOver v_isBehind v_atW v_atL v_atT v_atH v_atM v_atI v_atQ v_packing v_packed v_goPace v_goMinutes v_spentAt v_ranChanges f_m_tape f_m_knee f_m_weight f_m_isLame f_m_loadWeight f_m_owner f_m_food f_m_miles f_m_slope f_m_clauseLetter f_m_sumFrom f_m_codeFrom f_m_codeTo f_m_code f_m_codeArg f_m_newLetter f_m_newSum f_m_newFrom f_m_newTo f_m_newCode f_m_newArg f_m_stack f_m_worth f_m_isRefused f_m_least f_m_packPounds f_m_packOwner f_m_room f_m_givenTo f_m_canBe f_m_setPounds f_m_plainTime f_m_muleTime f_m_planTo f_m_march f_m_tired f_m_ranMinutes f_m_tiredAhead f_m_isReached f_m_toEnd f_m_upTo f_m_upNext f_m_byChanges f_m_bandPaces) NT sz (fun (r : Int32) (u : Unit) => (0 ≤ r.toInt ∧ r.toInt ≤ 255) ∧ (r.toInt = 0 ∨ v_place.toInt < v_end.toInt) ∧ (v_end.toInt ≤ v_place.toInt ∨ r.toInt = (f_m_tape v_place.toNatClampNeg &&& 255).toInt)) (fun u => wMD cy hm v_taped v_walkers v_loads v_pieces v_changeCosts v_planned v_isMarch v_clauseMany v_place v_end v_bad v_clauses v_codes v_open v_stacked v_isOver v_isBehind v_atW v_atL v_atT v_atH v_atM v_atI v_atQ v_packing v_packed v_goPace v_goMinutes v_spentAt v_ranChanges f_m_tape f_m_knee f_m_weight f_m_isLame f_m_loadWeight f_m_owner f_m_food f_m_miles f_m_slope f_m_clauseLetter f_m_sumFrom f_m_codeFrom f_m_codeTo f_m_code f_m_codeArg f_m_newLetter f_m_newSum f_m_newFrom f_m_newTo f_m_newCode f_m_newArg f_m_stack f_m_worth f_m_isRefused f_m_least f_m_packPounds f_m_packOwner f_m_room f_m_givenTo f_m_canBe f_m_setPounds f_m_plainTime f_m_muleTime f_m_planTo f_m_march f_m_tired f_m_ranMinutes f_m_tiredAhead f_m_isReached f_m_toEnd f_m_upTo f_m_upNext f_m_byChanges f_m_bandPaces) := by
  refine gMi_in (by decide) (Nat.le_of_ble_eq_true rfl) ?_
  intro p e s m args below meth c A ls Q hx hb hml hts hown hsz hP hK hD hN hAe hA hS hl hret
  subst hsz
  have hl : lv_has ls 1 [(0, .ref (hm 0))] := hl
  have hrt := fun (r : Int32)  (hp : (0 ≤ r.toInt ∧ r.toInt ≤ 255) ∧ (r.toInt = 0 ∨ v_place.toInt < v_end.toInt) ∧ (v_end.toInt ≤ v_place.toInt ∨ r.toInt = (f_m_tape v_place.toNatClampNeg &&& 255).toInt)) {H : Heap} {locs : List Loc} {pc : Nat} {ls : Array Slot} => hret r () (H := H) (locs := locs) (pc := pc) (ls := ls) hp
  clear hret
  refine lv_aload_n hx hb dX10_here_0 rfl (lv_at hl 0 rfl) ?_
  refine gt_MD_MD_place hx hb hts hown hK hP lwd_400 dX10_here_1 ?_
  refine lv_aload_n hx hb dX10_here_4 rfl (lv_at hl 0 rfl) ?_
  refine gt_MD_MD_end hx hb hts hown hK hP lwd_401 dX10_here_5 ?_
  refine lv_icmp_ge (tgt := 27) hx hb dX10_here_8 (by decide) (fun c_1 => ?_) (fun c_1 => ?_)
  · have gc_1 : v_end.toInt ≤ v_place.toInt := i_le (rfl : v_end.toInt = v_end.toInt) (rfl : v_place.toInt = v_place.toInt) c_1
    refine lv_iconst (v := 0) hx hb dX10_here_27 (by decide) ?_
    have k_2 : (0 : Int32).toInt = 0 := by decide
    exact hrt 0  ⟨(by omega), (by omega), (Or.inl (by omega))⟩ hP hD hS rfl dX10_here_28
  · have gc_1 : v_place.toInt < v_end.toInt := i_nle (rfl : v_end.toInt = v_end.toInt) (rfl : v_place.toInt = v_place.toInt) c_1
    refine lv_aload_n hx hb dX10_here_11 rfl (lv_at hl 0 rfl) ?_
    refine gt_MD_MD_tape hx hb hts hown hK hP lwd_155 dX10_here_12 ?_
    refine lv_aload_n hx hb dX10_here_15 rfl (lv_at hl 0 rfl) ?_
    refine gt_MD_MD_place hx hb hts hown hK hP lwd_400 dX10_here_16 ?_
    refine al_m_tape hx hb hK hP hr_m_tape (i_in (rfl : v_place.toInt = v_place.toInt) (by omega) (by omega)) dX10_here_19 (fun n_3 en_3 bn_3 => ?_)
    refine lv_sipush (v := 255) hx hb dX10_here_20 (by decide) ?_
    refine lv_iand hx hb dX10_here_23 ?_
    refine lv_topi (fun n_4 en_4 => ?_)
    have bn_4 : 0 ≤ n_4.toInt ∧ n_4.toInt ≤ 255 := i_msk 8 en_4 (by decide) (by decide) (by decide)
    refine lv_goto (tgt := 28) hx hb dX10_here_24 (by decide) ?_
    exact hrt n_4  ⟨(by omega), (by omega), (Or.inr (by rw [en_4, en_3]))⟩ hP hD hS rfl dX10_here_28
set_option maxHeartbeats 16000000 in
set_option maxRecDepth 100000 in
theorem c_X10_wrongs (l : Launch) (D : va_G) (cy : Nat → ClassId) (hm : Nat → Nat) (v_taped v_walkers v_loads v_pieces v_changeCosts v_planned v_isMarch v_clauseMany v_place v_end v_bad v_clauses v_codes v_open v_stacked v_isOver v_isBehind v_atW v_atL v_atT v_atH v_atM v_atI v_atQ v_packing v_packed v_goPace v_goMinutes v_spentAt v_ranChanges : Int32) (f_m_tape f_m_knee f_m_weight f_m_isLame f_m_loadWeight f_m_owner f_m_food f_m_miles f_m_slope f_m_clauseLetter f_m_sumFrom f_m_codeFrom f_m_codeTo f_m_code f_m_codeArg f_m_newLetter f_m_newSum f_m_newFrom f_m_newTo f_m_newCode f_m_newArg f_m_stack f_m_worth f_m_isRefused f_m_least f_m_packPounds f_m_packOwner f_m_room f_m_givenTo f_m_canBe f_m_setPounds f_m_plainTime f_m_muleTime f_m_planTo f_m_march f_m_tired f_m_ranMinutes f_m_tiredAhead f_m_isReached f_m_toEnd f_m_upTo f_m_upNext f_m_byChanges f_m_bandPaces : Nat → Int32) (sz : Nat) (q : Int32) (at0 : Int32) (hb_v_bad : -6000 ≤ v_bad.toInt ∧ v_bad.toInt ≤ 0) (ha_q : 1 ≤ q.toInt ∧ q.toInt ≤ 5) (ha_at0 : 0 ≤ at0.toInt ∧ at0.toInt ≤ 200) : gMv l yX10_wrongs cX10_wrongs 3 1 [.ref (hm 0), .int q, .int at0] D cy (wMD cy hm v_taped v_walkers v_loads v_pieces v_changeCosts v_planned v_isMarch v_clauseMany v_place v_end v_bad v_clauses v_codes v_open v_stacked v_isOver v_isBehind v_atW v_atL v_atT v_atH v_atM v_atI v_atQ v_packing v_packed v_goPace v_goMinutes v_spentAt v_ranChanges f_m_tape f_m_knee f_m_weight f_m_isLame f_m_loadWeight f_m_owner f_m_food f_m_miles f_m_slope f_m_clauseLetter f_m_sumFrom f_m_codeFrom f_m_codeTo f_m_code f_m_codeArg f_m_newLetter f_m_newSum f_m_newFrom f_m_newTo f_m_newCode f_m_newArg f_m_stack f_m_worth f_m_isRefused f_m_least f_m_packPounds f_m_packOwner f_m_room f_m_givenTo f_m_canBe f_m_setPounds f_m_plainTime f_m_muleTime f_m_planTo f_m_march f_m_tired f_m_ranMinutes f_m_tiredAhead f_m_isReached f_m_toEnd f_m_upTo f_m_upNext f_m_byChanges f_m_bandPaces) NT sz (fun (u : Int32) => (u.toInt < 0 ∧ u.toInt ≤ v_bad.toInt) ∧ (-6000 ≤ u.toInt ∧ u.toInt ≤ 0)) (fun u => wMD cy hm v_taped v_walkers v_loads v_pieces v_changeCosts v_planned v_isMarch v_clauseMany v_place v_end u v_clauses v_codes v_open v_stacked v_isOver v_isBehind v_atW v_atL v_atT v_atH v_atM v_atI v_atQ v_packing v_packed v_goPace v_goMinutes v_spentAt v_ranChanges f_m_tape f_m_knee f_m_weight f_m_isLame f_m_loadWeight f_m_owner f_m_food f_m_miles f_m_slope f_m_clauseLetter f_m_sumFrom f_m_codeFrom f_m_codeTo f_m_code f_m_codeArg f_m_newLetter f_m_newSum f_m_newFrom f_m_newTo f_m_newCode f_m_newArg f_m_stack f_m_worth f_m_isRefused f_m_least f_m_packPounds f_m_packOwner f_m_room f_m_givenTo f_m_canBe f_m_setPounds f_m_plainTime f_m_muleTime f_m_planTo f_m_march f_m_tired f_m_ranMinutes f_m_tiredAhead f_m_isReached f_m_toEnd f_m_upTo f_m_upNext f_m_byChanges f_m_bandPaces) := by
  refine gMv_in (by decide) (Nat.le_of_ble_eq_true rfl) ?_
  intro p e s m args below meth c A ls Q hx hb hml hts hown hsz hP hK hD hN hAe hA hS hl hret
  subst hsz
  have hl : lv_has ls 3 [(0, .ref (hm 0)), (1, .int q), (2, .int at0)] := hl
  have hrt := fun (v_bad' : Int32) (hp : (v_bad'.toInt < 0 ∧ v_bad'.toInt ≤ v_bad.toInt) ∧ (-6000 ≤ v_bad'.toInt ∧ v_bad'.toInt ≤ 0)) {H : Heap} {locs : List Loc} {pc : Nat} {ls : Array Slot} => hret v_bad' (H := H) (locs := locs) (pc := pc) (ls := ls) hp
  clear hret
  refine lv_aload_n hx hb dX10_wrongs_0 rfl (lv_at hl 0 rfl) ?_
  refine lv_aload_n hx hb dX10_wrongs_1 rfl (lv_at hl 0 rfl) ?_
  refine gt_MD_MD_bad hx hb hts hown hK hP lwd_402 dX10_wrongs_2 ?_
  refine lv_if_ge (tgt := 15) hx hb dX10_wrongs_5 (by decide) (fun c_1 => ?_) (fun c_1 => ?_)
  · have gc_1 : 0 ≤ v_bad.toInt := i_le (by decide : (0 : Int32).toInt = 0) (rfl : v_bad.toInt = v_bad.toInt) c_1
    refine lv_sipush (v := (-1000)) hx hb dX10_wrongs_15 (by decide) ?_
    refine lv_iload_n hx hb dX10_wrongs_18 rfl (lv_at hl 1 rfl) ?_
    refine lv_imul hx hb dX10_wrongs_19 ?_
    refine lv_topi (fun n_2 en_2 => ?_)
    have tn_2 : n_2.toInt = (-1000) * q.toInt := i_mul en_2 (by decide : ((-1000) : Int32).toInt = (-1000)) (rfl : q.toInt = q.toInt) (by omega) (by omega)
    refine lv_iload_n hx hb dX10_wrongs_20 rfl (lv_at hl 2 rfl) ?_
    refine lv_isub hx hb dX10_wrongs_21 ?_
    refine lv_topi (fun n_3 en_3 => ?_)
    have tn_3 : n_3.toInt = ((-1000) * q.toInt) - at0.toInt := i_sub en_3 tn_2 (rfl : at0.toInt = at0.toInt) (by omega) (by omega)
    refine pt_MD_MD_bad (x := n_3) hx hb hts hown hK hP hD hS lwd_402 dX10_wrongs_22 (fun H locs hP hD hS => ?_)
    exact hrt n_3 ⟨(by omega), (by omega)⟩ hP hD hS dX10_wrongs_25
  · have gc_1 : v_bad.toInt < 0 := i_nle (by decide : (0 : Int32).toInt = 0) (rfl : v_bad.toInt = v_bad.toInt) c_1
    refine lv_aload_n hx hb dX10_wrongs_8 rfl (lv_at hl 0 rfl) ?_
    refine gt_MD_MD_bad hx hb hts hown hK hP lwd_402 dX10_wrongs_9 ?_
    refine lv_goto (tgt := 22) hx hb dX10_wrongs_12 (by decide) ?_
    refine pt_MD_MD_bad (x := v_bad) hx hb hts hown hK hP hD hS lwd_402 dX10_wrongs_22 (fun H locs hP hD hS => ?_)
    exact hrt v_bad ⟨(by omega), (by omega)⟩ hP hD hS dX10_wrongs_25
set_option maxHeartbeats 16000000 in
set_option maxRecDepth 100000 in
theorem c_X10_emit (l : Launch) (D : va_G) (cy : Nat → ClassId) (hm : Nat → Nat) (v_taped v_walkers v_loads v_pieces v_changeCosts v_planned v_isMarch v_clauseMany v_place v_end v_bad v_clauses v_codes v_open v_stacked v_isOver v_isBehind v_atW v_atL v_atT v_atH v_atM v_atI v_atQ v_packing v_packed v_goPace v_goMinutes v_spentAt v_ranChanges : Int32) (f_m_tape f_m_knee f_m_weight f_m_isLame f_m_loadWeight f_m_owner f_m_food f_m_miles f_m_slope f_m_clauseLetter f_m_sumFrom f_m_codeFrom f_m_codeTo f_m_code f_m_codeArg f_m_newLetter f_m_newSum f_m_newFrom f_m_newTo f_m_newCode f_m_newArg f_m_stack f_m_worth f_m_isRefused f_m_least f_m_packPounds f_m_packOwner f_m_room f_m_givenTo f_m_canBe f_m_setPounds f_m_plainTime f_m_muleTime f_m_planTo f_m_march f_m_tired f_m_ranMinutes f_m_tiredAhead f_m_isReached f_m_toEnd f_m_upTo f_m_upNext f_m_byChanges f_m_bandPaces : Nat → Int32) (sz : Nat) (o : Int32) (arg : Int32) (hb_v_bad : -6000 ≤ v_bad.toInt ∧ v_bad.toInt ≤ 0) (hb_v_codes : 0 ≤ v_codes.toInt ∧ v_codes.toInt ≤ 200) (hc : v_bad.toInt = 0 → v_codes.toInt ≤ 199) : gMv l yX10_emit cX10_emit 3 2 [.ref (hm 0), .int o, .int arg] D cy (wMD cy hm v_taped v_walkers v_loads v_pieces v_changeCosts v_planned v_isMarch v_clauseMany v_place v_end v_bad v_clauses v_codes v_open v_stacked v_isOver v_isBehind v_atW v_atL v_atT v_atH v_atM v_atI v_atQ v_packing v_packed v_goPace v_goMinutes v_spentAt v_ranChanges f_m_tape f_m_knee f_m_weight f_m_isLame f_m_loadWeight f_m_owner f_m_food f_m_miles f_m_slope f_m_clauseLetter f_m_sumFrom f_m_codeFrom f_m_codeTo f_m_code f_m_codeArg f_m_newLetter f_m_newSum f_m_newFrom f_m_newTo f_m_newCode f_m_newArg f_m_stack f_m_worth f_m_isRefused f_m_least f_m_packPounds f_m_packOwner f_m_room f_m_givenTo f_m_canBe f_m_setPounds f_m_plainTime f_m_muleTime f_m_planTo f_m_march f_m_tired f_m_ranMinutes f_m_tiredAhead f_m_isReached f_m_toEnd f_m_upTo f_m_upNext f_m_byChanges f_m_bandPaces) NT sz (fun (u : Int32 × (Nat → Int32) × (Nat → Int32)) => ((v_bad.toInt = 0 ∧ (u.2.1) = upd f_m_newCode v_codes.toNatClampNeg o ∧ (u.1).toInt = v_codes.toInt + 1) ∨ (v_bad.toInt ≠ 0 ∧ (u.2.1) = f_m_newCode ∧ (u.1).toInt = v_codes.toInt)) ∧ (0 ≤ (u.1).toInt ∧ (u.1).toInt ≤ 200)) (fun u => wMD cy hm v_taped v_walkers v_loads v_pieces v_changeCosts v_planned v_isMarch v_clauseMany v_place v_end v_bad v_clauses (u.1) v_open v_stacked v_isOver v_isBehind v_atW v_atL v_atT v_atH v_atM v_atI v_atQ v_packing v_packed v_goPace v_goMinutes v_spentAt v_ranChanges f_m_tape f_m_knee f_m_weight f_m_isLame f_m_loadWeight f_m_owner f_m_food f_m_miles f_m_slope f_m_clauseLetter f_m_sumFrom f_m_codeFrom f_m_codeTo f_m_code f_m_codeArg f_m_newLetter f_m_newSum f_m_newFrom f_m_newTo (u.2.1) (u.2.2) f_m_stack f_m_worth f_m_isRefused f_m_least f_m_packPounds f_m_packOwner f_m_room f_m_givenTo f_m_canBe f_m_setPounds f_m_plainTime f_m_muleTime f_m_planTo f_m_march f_m_tired f_m_ranMinutes f_m_tiredAhead f_m_isReached f_m_toEnd f_m_upTo f_m_upNext f_m_byChanges f_m_bandPaces) := by
  refine gMv_in (by decide) (Nat.le_of_ble_eq_true rfl) ?_
  intro p e s m args below meth c A ls Q hx hb hml hts hown hsz hP hK hD hN hAe hA hS hl hret
  subst hsz
  have hl : lv_has ls 3 [(0, .ref (hm 0)), (1, .int o), (2, .int arg)] := hl
  have hrt := fun (v_codes' : Int32) (f_m_newCode' : Nat → Int32) (f_m_newArg' : Nat → Int32) (hp : ((v_bad.toInt = 0 ∧ f_m_newCode' = upd f_m_newCode v_codes.toNatClampNeg o ∧ v_codes'.toInt = v_codes.toInt + 1) ∨ (v_bad.toInt ≠ 0 ∧ f_m_newCode' = f_m_newCode ∧ v_codes'.toInt = v_codes.toInt)) ∧ (0 ≤ v_codes'.toInt ∧ v_codes'.toInt ≤ 200)) {H : Heap} {locs : List Loc} {pc : Nat} {ls : Array Slot} => hret (v_codes', f_m_newCode', f_m_newArg') (H := H) (locs := locs) (pc := pc) (ls := ls) hp
  clear hret
  refine lv_aload_n hx hb dX10_emit_0 rfl (lv_at hl 0 rfl) ?_
  refine xi hD hS hA (xV (As := []) (rest := []) hx hb hml hown hts hK hP hD hS hA NT_ok hN hAe hl.1 ⟨Nat.le_refl _, Nat.le_refl _⟩ 0 rfl rfl rfl (c_X10_isGood l D cy hm v_taped v_walkers v_loads v_pieces v_changeCosts v_planned v_isMarch v_clauseMany v_place v_end v_bad v_clauses v_codes v_open v_stacked v_isOver v_isBehind v_atW v_atL v_atT v_atH v_atM v_atI v_atQ v_packing v_packed v_goPace v_goMinutes v_spentAt v_ranChanges f_m_tape f_m_knee f_m_weight f_m_isLame f_m_loadWeight f_m_owner f_m_food f_m_miles f_m_slope f_m_clauseLetter f_m_sumFrom f_m_codeFrom f_m_codeTo f_m_code f_m_codeArg f_m_newLetter f_m_newSum f_m_newFrom f_m_newTo f_m_newCode f_m_newArg f_m_stack f_m_worth f_m_isRefused f_m_least f_m_packPounds f_m_packOwner f_m_room f_m_givenTo f_m_canBe f_m_setPounds f_m_plainTime f_m_muleTime f_m_planTo f_m_march f_m_tired f_m_ranMinutes f_m_tiredAhead f_m_isReached f_m_toEnd f_m_upTo f_m_upNext f_m_byChanges f_m_bandPaces s.heap.size (by omega)) (gi_V lwd_406 lwd_407 lwd_408 lwd_5 lwd_409) ⟨rfl, hd_X10_isGood⟩ ⟨Nat.le_of_ble_eq_true rfl, Nat.le_of_ble_eq_true rfl⟩ rfl (Nat.le_of_ble_eq_true rfl) dX10_emit_1) (fun r_2 u_1 H locs hw hP hD hS => ?_)
  try dsimp only at hw hP hD
  obtain ⟨p_3, p_4⟩ := hw
  refine lv_if_ne (tgt := 8) hx hb dX10_emit_4 (by decide) (fun c_5 => ?_) (fun c_5 => ?_)
  · have gc_5 : r_2.toInt ≠ 0 := i_ne (rfl : r_2.toInt = r_2.toInt) (by decide : (0 : Int32).toInt = 0) c_5
    have hc9 := hc (by omega)
    refine lv_aload_n hx hb dX10_emit_8 rfl (lv_at hl 0 rfl) ?_
    refine gt_MD_MD_newCode hx hb hts hown hK hP lwd_175 dX10_emit_9 ?_
    refine lv_aload_n hx hb dX10_emit_12 rfl (lv_at hl 0 rfl) ?_
    refine gt_MD_MD_codes hx hb hts hown hK hP lwd_404 dX10_emit_13 ?_
    refine lv_iload_n hx hb dX10_emit_16 rfl (lv_at hl 1 rfl) ?_
    refine as_m_newCode (x := o) hx hb hK hP hD hS (i_in (rfl : v_codes.toInt = v_codes.toInt) (by omega) (by omega)) dX10_emit_17 (fun f_6 ef_6 H locs hP hD hS => ?_)
    refine lv_aload_n hx hb dX10_emit_18 rfl (lv_at hl 0 rfl) ?_
    refine gt_MD_MD_newArg hx hb hts hown hK hP lwd_176 dX10_emit_19 ?_
    refine lv_aload_n hx hb dX10_emit_22 rfl (lv_at hl 0 rfl) ?_
    refine gt_MD_MD_codes hx hb hts hown hK hP lwd_404 dX10_emit_23 ?_
    refine lv_iload_n hx hb dX10_emit_26 rfl (lv_at hl 2 rfl) ?_
    refine as_m_newArg (x := arg) hx hb hK hP hD hS (i_in (rfl : v_codes.toInt = v_codes.toInt) (by omega) (by omega)) dX10_emit_27 (fun f_7 ef_7 H locs hP hD hS => ?_)
    refine lv_aload_n hx hb dX10_emit_28 rfl (lv_at hl 0 rfl) ?_
    refine lv_dup hx hb dX10_emit_29 rfl ?_
    refine gt_MD_MD_codes hx hb hts hown hK hP lwd_404 dX10_emit_30 ?_
    refine lv_iconst (v := 1) hx hb dX10_emit_33 (by decide) ?_
    refine lv_iadd hx hb dX10_emit_34 ?_
    refine lv_topi (fun n_8 en_8 => ?_)
    have tn_8 : n_8.toInt = v_codes.toInt + 1 := i_add en_8 (rfl : v_codes.toInt = v_codes.toInt) (by decide : (1 : Int32).toInt = 1) (by omega) (by omega)
    refine pt_MD_MD_codes (x := n_8) hx hb hts hown hK hP hD hS lwd_404 dX10_emit_35 (fun H locs hP hD hS => ?_)
    exact hrt n_8 f_6 f_7 ⟨(Or.inl ⟨by omega, ef_6, by omega⟩), (by omega)⟩ hP hD hS dX10_emit_38
  · have gc_5 : r_2.toInt = 0 := i_eq (rfl : r_2.toInt = r_2.toInt) (by decide : (0 : Int32).toInt = 0) c_5
    exact hrt v_codes f_m_newCode f_m_newArg ⟨(Or.inr ⟨by omega, rfl, rfl⟩), (by omega)⟩ hP hD hS dX10_emit_7
set_option maxHeartbeats 16000000 in
set_option maxRecDepth 100000 in
theorem c_X10_top (l : Launch) (D : va_G) (cy : Nat → ClassId) (hm : Nat → Nat) (v_taped v_walkers v_loads v_pieces v_changeCosts v_planned v_isMarch v_clauseMany v_place v_end v_bad v_clauses v_codes v_open v_stacked v_isOver v_isBehind v_atW v_atL v_atT v_atH v_atM v_atI v_atQ v_packing v_packed v_goPace v_goMinutes v_spentAt v_ranChanges : Int32) (f_m_tape f_m_knee f_m_weight f_m_isLame f_m_loadWeight f_m_owner f_m_food f_m_miles f_m_slope f_m_clauseLetter f_m_sumFrom f_m_codeFrom f_m_codeTo f_m_code f_m_codeArg f_m_newLetter f_m_newSum f_m_newFrom f_m_newTo f_m_newCode f_m_newArg f_m_stack f_m_worth f_m_isRefused f_m_least f_m_packPounds f_m_packOwner f_m_room f_m_givenTo f_m_canBe f_m_setPounds f_m_plainTime f_m_muleTime f_m_planTo f_m_march f_m_tired f_m_ranMinutes f_m_tiredAhead f_m_isReached f_m_toEnd f_m_upTo f_m_upNext f_m_byChanges f_m_bandPaces : Nat → Int32) (sz : Nat) (hb_v_stacked : 0 ≤ v_stacked.toInt ∧ v_stacked.toInt ≤ 200) : gMi l yX10_top cX10_top 1 .int 1 [.ref (hm 0)] D cy (wMD cy hm v_taped v_walkers v_loads v_pieces v_changeCosts v_planned v_isMarch v_clauseMany v_place v_end v_bad v_clauses v_codes v_open v_stacked v_isOver v_isBehind v_atW v_atL v_atT v_atH v_atM v_atI v_atQ v_packing v_packed v_goPace v_goMinutes v_spentAt v_ranChanges f_m_tape f_m_knee f_m_weight f_m_isLame f_m_loadWeight f_m_owner f_m_food f_m_miles f_m_slope f_m_clauseLetter f_m_sumFrom f_m_codeFrom f_m_codeTo f_m_code f_m_codeArg f_m_newLetter f_m_newSum f_m_newFrom f_m_newTo f_m_newCode f_m_newArg f_m_stack f_m_worth f_m_isRefused f_m_least f_m_packPounds f_m_packOwner f_m_room f_m_givenTo f_m_canBe f_m_setPounds f_m_plainTime f_m_muleTime f_m_planTo f_m_march f_m_tired f_m_ranMinutes f_m_tiredAhead f_m_isReached f_m_toEnd f_m_upTo f_m_upNext f_m_byChanges f_m_bandPaces) NT sz (fun (r : Int32) (u : Unit) => (r.toInt = topF f_m_stack v_stacked)) (fun u => wMD cy hm v_taped v_walkers v_loads v_pieces v_changeCosts v_planned v_isMarch v_clauseMany v_place v_end v_bad v_clauses v_codes v_open v_stacked v_isOver v_isBehind v_atW v_atL v_atT v_atH v_atM v_atI v_atQ v_packing v_packed v_goPace v_goMinutes v_spentAt v_ranChanges f_m_tape f_m_knee f_m_weight f_m_isLame f_m_loadWeight f_m_owner f_m_food f_m_miles f_m_slope f_m_clauseLetter f_m_sumFrom f_m_codeFrom f_m_codeTo f_m_code f_m_codeArg f_m_newLetter f_m_newSum f_m_newFrom f_m_newTo f_m_newCode f_m_newArg f_m_stack f_m_worth f_m_isRefused f_m_least f_m_packPounds f_m_packOwner f_m_room f_m_givenTo f_m_canBe f_m_setPounds f_m_plainTime f_m_muleTime f_m_planTo f_m_march f_m_tired f_m_ranMinutes f_m_tiredAhead f_m_isReached f_m_toEnd f_m_upTo f_m_upNext f_m_byChanges f_m_bandPaces) := by
  refine gMi_in (by decide) (Nat.le_of_ble_eq_true rfl) ?_
  intro p e s m args below meth c A ls Q hx hb hml hts hown hsz hP hK hD hN hAe hA hS hl hret
  subst hsz
  have hl : lv_has ls 1 [(0, .ref (hm 0))] := hl
  have hrt := fun (r : Int32)  (hp : (r.toInt = topF f_m_stack v_stacked)) {H : Heap} {locs : List Loc} {pc : Nat} {ls : Array Slot} => hret r () (H := H) (locs := locs) (pc := pc) (ls := ls) hp
  clear hret
  refine lv_aload_n hx hb dX10_top_0 rfl (lv_at hl 0 rfl) ?_
  refine gt_MD_MD_stacked hx hb hts hown hK hP lwd_414 dX10_top_1 ?_
  refine lv_if_le (tgt := 21) hx hb dX10_top_4 (by decide) (fun c_1 => ?_) (fun c_1 => ?_)
  · have gc_1 : v_stacked.toInt ≤ 0 := i_le (rfl : v_stacked.toInt = v_stacked.toInt) (by decide : (0 : Int32).toInt = 0) c_1
    refine lv_iconst (v := 0) hx hb dX10_top_21 (by decide) ?_
    have k_2 : (0 : Int32).toInt = 0 := by decide
    exact hrt 0  (by rw [topF_0 (by omega)]; decide) hP hD hS rfl dX10_top_22
  · have gc_1 : 0 < v_stacked.toInt := i_nle (rfl : v_stacked.toInt = v_stacked.toInt) (by decide : (0 : Int32).toInt = 0) c_1
    refine lv_aload_n hx hb dX10_top_7 rfl (lv_at hl 0 rfl) ?_
    refine gt_MD_MD_stack hx hb hts hown hK hP lwd_177 dX10_top_8 ?_
    refine lv_aload_n hx hb dX10_top_11 rfl (lv_at hl 0 rfl) ?_
    refine gt_MD_MD_stacked hx hb hts hown hK hP lwd_414 dX10_top_12 ?_
    refine lv_iconst (v := 1) hx hb dX10_top_15 (by decide) ?_
    refine lv_isub hx hb dX10_top_16 ?_
    refine lv_topi (fun n_3 en_3 => ?_)
    have tn_3 : n_3.toInt = v_stacked.toInt - 1 := i_sub en_3 (rfl : v_stacked.toInt = v_stacked.toInt) (by decide : (1 : Int32).toInt = 1) (by omega) (by omega)
    refine al_m_stack hx hb hK hP (i_in tn_3 (by omega) (by omega)) dX10_top_17 (fun n_4 en_4 => ?_)
    refine lv_goto (tgt := 22) hx hb dX10_top_18 (by decide) ?_
    exact hrt n_4  (by rw [topF_pos (by omega), en_4]; congr 2; rw [i_ix tn_3, i_ix (rfl : v_stacked.toInt = v_stacked.toInt)]; omega) hP hD hS rfl dX10_top_22
set_option maxHeartbeats 16000000 in
set_option maxRecDepth 100000 in
theorem c_X10_puts (l : Launch) (D : va_G) (cy : Nat → ClassId) (hm : Nat → Nat) (v_taped v_walkers v_loads v_pieces v_changeCosts v_planned v_isMarch v_clauseMany v_place v_end v_bad v_clauses v_codes v_open v_stacked v_isOver v_isBehind v_atW v_atL v_atT v_atH v_atM v_atI v_atQ v_packing v_packed v_goPace v_goMinutes v_spentAt v_ranChanges : Int32) (f_m_tape f_m_knee f_m_weight f_m_isLame f_m_loadWeight f_m_owner f_m_food f_m_miles f_m_slope f_m_clauseLetter f_m_sumFrom f_m_codeFrom f_m_codeTo f_m_code f_m_codeArg f_m_newLetter f_m_newSum f_m_newFrom f_m_newTo f_m_newCode f_m_newArg f_m_stack f_m_worth f_m_isRefused f_m_least f_m_packPounds f_m_packOwner f_m_room f_m_givenTo f_m_canBe f_m_setPounds f_m_plainTime f_m_muleTime f_m_planTo f_m_march f_m_tired f_m_ranMinutes f_m_tiredAhead f_m_isReached f_m_toEnd f_m_upTo f_m_upNext f_m_byChanges f_m_bandPaces : Nat → Int32) (sz : Nat) (x1 : Int32) (hb_v_place : 0 ≤ v_place.toInt ∧ v_place.toInt ≤ 200) (hb_v_stacked : 0 ≤ v_stacked.toInt ∧ v_stacked.toInt ≤ 200) (hp : v_place.toInt ≤ 199 ∧ v_stacked.toInt ≤ v_place.toInt) : gMv l yX10_puts cX10_puts 2 1 [.ref (hm 0), .int x1] D cy (wMD cy hm v_taped v_walkers v_loads v_pieces v_changeCosts v_planned v_isMarch v_clauseMany v_place v_end v_bad v_clauses v_codes v_open v_stacked v_isOver v_isBehind v_atW v_atL v_atT v_atH v_atM v_atI v_atQ v_packing v_packed v_goPace v_goMinutes v_spentAt v_ranChanges f_m_tape f_m_knee f_m_weight f_m_isLame f_m_loadWeight f_m_owner f_m_food f_m_miles f_m_slope f_m_clauseLetter f_m_sumFrom f_m_codeFrom f_m_codeTo f_m_code f_m_codeArg f_m_newLetter f_m_newSum f_m_newFrom f_m_newTo f_m_newCode f_m_newArg f_m_stack f_m_worth f_m_isRefused f_m_least f_m_packPounds f_m_packOwner f_m_room f_m_givenTo f_m_canBe f_m_setPounds f_m_plainTime f_m_muleTime f_m_planTo f_m_march f_m_tired f_m_ranMinutes f_m_tiredAhead f_m_isReached f_m_toEnd f_m_upTo f_m_upNext f_m_byChanges f_m_bandPaces) NT sz (fun (u : Int32 × Int32 × (Nat → Int32)) => ((u.2.2) = upd f_m_stack v_stacked.toNatClampNeg x1) ∧ ((u.2.1).toInt = v_stacked.toInt + 1 ∧ (u.1).toInt = v_place.toInt + 1) ∧ (0 ≤ (u.1).toInt ∧ (u.1).toInt ≤ 200) ∧ (0 ≤ (u.2.1).toInt ∧ (u.2.1).toInt ≤ 200)) (fun u => wMD cy hm v_taped v_walkers v_loads v_pieces v_changeCosts v_planned v_isMarch v_clauseMany (u.1) v_end v_bad v_clauses v_codes v_open (u.2.1) v_isOver v_isBehind v_atW v_atL v_atT v_atH v_atM v_atI v_atQ v_packing v_packed v_goPace v_goMinutes v_spentAt v_ranChanges f_m_tape f_m_knee f_m_weight f_m_isLame f_m_loadWeight f_m_owner f_m_food f_m_miles f_m_slope f_m_clauseLetter f_m_sumFrom f_m_codeFrom f_m_codeTo f_m_code f_m_codeArg f_m_newLetter f_m_newSum f_m_newFrom f_m_newTo f_m_newCode f_m_newArg (u.2.2) f_m_worth f_m_isRefused f_m_least f_m_packPounds f_m_packOwner f_m_room f_m_givenTo f_m_canBe f_m_setPounds f_m_plainTime f_m_muleTime f_m_planTo f_m_march f_m_tired f_m_ranMinutes f_m_tiredAhead f_m_isReached f_m_toEnd f_m_upTo f_m_upNext f_m_byChanges f_m_bandPaces) := by
  refine gMv_in (by decide) (Nat.le_of_ble_eq_true rfl) ?_
  intro p e s m args below meth c A ls Q hx hb hml hts hown hsz hP hK hD hN hAe hA hS hl hret
  subst hsz
  have hl : lv_has ls 2 [(0, .ref (hm 0)), (1, .int x1)] := hl
  have hrt := fun (v_place' : Int32) (v_stacked' : Int32) (f_m_stack' : Nat → Int32) (hp : (f_m_stack' = upd f_m_stack v_stacked.toNatClampNeg x1) ∧ (v_stacked'.toInt = v_stacked.toInt + 1 ∧ v_place'.toInt = v_place.toInt + 1) ∧ (0 ≤ v_place'.toInt ∧ v_place'.toInt ≤ 200) ∧ (0 ≤ v_stacked'.toInt ∧ v_stacked'.toInt ≤ 200)) {H : Heap} {locs : List Loc} {pc : Nat} {ls : Array Slot} => hret (v_place', v_stacked', f_m_stack') (H := H) (locs := locs) (pc := pc) (ls := ls) hp
  clear hret
  refine lv_aload_n hx hb dX10_puts_0 rfl (lv_at hl 0 rfl) ?_
  refine gt_MD_MD_stack hx hb hts hown hK hP lwd_177 dX10_puts_1 ?_
  refine lv_aload_n hx hb dX10_puts_4 rfl (lv_at hl 0 rfl) ?_
  refine gt_MD_MD_stacked hx hb hts hown hK hP lwd_414 dX10_puts_5 ?_
  refine lv_iload_n hx hb dX10_puts_8 rfl (lv_at hl 1 rfl) ?_
  refine as_m_stack (x := x1) hx hb hK hP hD hS (i_in (rfl : v_stacked.toInt = v_stacked.toInt) (by omega) (by omega)) dX10_puts_9 (fun f_1 ef_1 H locs hP hD hS => ?_)
  refine lv_aload_n hx hb dX10_puts_10 rfl (lv_at hl 0 rfl) ?_
  refine lv_dup hx hb dX10_puts_11 rfl ?_
  refine gt_MD_MD_stacked hx hb hts hown hK hP lwd_414 dX10_puts_12 ?_
  refine lv_iconst (v := 1) hx hb dX10_puts_15 (by decide) ?_
  refine lv_iadd hx hb dX10_puts_16 ?_
  refine lv_topi (fun n_2 en_2 => ?_)
  have tn_2 : n_2.toInt = v_stacked.toInt + 1 := i_add en_2 (rfl : v_stacked.toInt = v_stacked.toInt) (by decide : (1 : Int32).toInt = 1) (by omega) (by omega)
  refine pt_MD_MD_stacked (x := n_2) hx hb hts hown hK hP hD hS lwd_414 dX10_puts_17 (fun H locs hP hD hS => ?_)
  refine lv_aload_n hx hb dX10_puts_20 rfl (lv_at hl 0 rfl) ?_
  refine lv_dup hx hb dX10_puts_21 rfl ?_
  refine gt_MD_MD_place hx hb hts hown hK hP lwd_400 dX10_puts_22 ?_
  refine lv_iconst (v := 1) hx hb dX10_puts_25 (by decide) ?_
  refine lv_iadd hx hb dX10_puts_26 ?_
  refine lv_topi (fun n_3 en_3 => ?_)
  have tn_3 : n_3.toInt = v_place.toInt + 1 := i_add en_3 (rfl : v_place.toInt = v_place.toInt) (by decide : (1 : Int32).toInt = 1) (by omega) (by omega)
  refine pt_MD_MD_place (x := n_3) hx hb hts hown hK hP hD hS lwd_400 dX10_puts_27 (fun H locs hP hD hS => ?_)
  exact hrt n_3 n_2 f_1 ⟨ef_1, (by omega), (by omega), (by omega)⟩ hP hD hS dX10_puts_30
set_option maxHeartbeats 16000000 in
set_option maxRecDepth 100000 in
theorem c_X10_opens (l : Launch) (D : va_G) (cy : Nat → ClassId) (hm : Nat → Nat) (v_taped v_walkers v_loads v_pieces v_changeCosts v_planned v_isMarch v_clauseMany v_place v_end v_bad v_clauses v_codes v_open v_stacked v_isOver v_isBehind v_atW v_atL v_atT v_atH v_atM v_atI v_atQ v_packing v_packed v_goPace v_goMinutes v_spentAt v_ranChanges : Int32) (f_m_tape f_m_knee f_m_weight f_m_isLame f_m_loadWeight f_m_owner f_m_food f_m_miles f_m_slope f_m_clauseLetter f_m_sumFrom f_m_codeFrom f_m_codeTo f_m_code f_m_codeArg f_m_newLetter f_m_newSum f_m_newFrom f_m_newTo f_m_newCode f_m_newArg f_m_stack f_m_worth f_m_isRefused f_m_least f_m_packPounds f_m_packOwner f_m_room f_m_givenTo f_m_canBe f_m_setPounds f_m_plainTime f_m_muleTime f_m_planTo f_m_march f_m_tired f_m_ranMinutes f_m_tiredAhead f_m_isReached f_m_toEnd f_m_upTo f_m_upNext f_m_byChanges f_m_bandPaces : Nat → Int32) (sz : Nat) (hb_v_place : 0 ≤ v_place.toInt ∧ v_place.toInt ≤ 200) (hb_v_end : 0 ≤ v_end.toInt ∧ v_end.toInt ≤ 200) (hb_v_bad : -6000 ≤ v_bad.toInt ∧ v_bad.toInt ≤ 0) (hb_v_stacked : 0 ≤ v_stacked.toInt ∧ v_stacked.toInt ≤ 200) (hr_m_tape : rg (-128) 127 f_m_tape) (hp : v_place.toInt < v_end.toInt ∧ v_stacked.toInt ≤ v_place.toInt) : gMv l yX10_opens cX10_opens 1 2 [.ref (hm 0)] D cy (wMD cy hm v_taped v_walkers v_loads v_pieces v_changeCosts v_planned v_isMarch v_clauseMany v_place v_end v_bad v_clauses v_codes v_open v_stacked v_isOver v_isBehind v_atW v_atL v_atT v_atH v_atM v_atI v_atQ v_packing v_packed v_goPace v_goMinutes v_spentAt v_ranChanges f_m_tape f_m_knee f_m_weight f_m_isLame f_m_loadWeight f_m_owner f_m_food f_m_miles f_m_slope f_m_clauseLetter f_m_sumFrom f_m_codeFrom f_m_codeTo f_m_code f_m_codeArg f_m_newLetter f_m_newSum f_m_newFrom f_m_newTo f_m_newCode f_m_newArg f_m_stack f_m_worth f_m_isRefused f_m_least f_m_packPounds f_m_packOwner f_m_room f_m_givenTo f_m_canBe f_m_setPounds f_m_plainTime f_m_muleTime f_m_planTo f_m_march f_m_tired f_m_ranMinutes f_m_tiredAhead f_m_isReached f_m_toEnd f_m_upTo f_m_upNext f_m_byChanges f_m_bandPaces) NT sz (fun (u : Int32 × Int32 × Int32 × Int32 × (Nat → Int32)) => ((u.2.2.2.2) = upd f_m_stack v_stacked.toNatClampNeg (f_m_tape v_place.toNatClampNeg &&& 255)) ∧ ((u.2.2.2.1).toInt = v_stacked.toInt + 1 ∧ (u.1).toInt = v_place.toInt + 1 ∧ (u.2.1).toInt ≤ v_bad.toInt) ∧ (0 ≤ (u.1).toInt ∧ (u.1).toInt ≤ 200) ∧ (-6000 ≤ (u.2.1).toInt ∧ (u.2.1).toInt ≤ 0) ∧ (0 ≤ (u.2.2.2.1).toInt ∧ (u.2.2.2.1).toInt ≤ 200)) (fun u => wMD cy hm v_taped v_walkers v_loads v_pieces v_changeCosts v_planned v_isMarch v_clauseMany (u.1) v_end (u.2.1) v_clauses v_codes (u.2.2.1) (u.2.2.2.1) v_isOver v_isBehind v_atW v_atL v_atT v_atH v_atM v_atI v_atQ v_packing v_packed v_goPace v_goMinutes v_spentAt v_ranChanges f_m_tape f_m_knee f_m_weight f_m_isLame f_m_loadWeight f_m_owner f_m_food f_m_miles f_m_slope f_m_clauseLetter f_m_sumFrom f_m_codeFrom f_m_codeTo f_m_code f_m_codeArg f_m_newLetter f_m_newSum f_m_newFrom f_m_newTo f_m_newCode f_m_newArg (u.2.2.2.2) f_m_worth f_m_isRefused f_m_least f_m_packPounds f_m_packOwner f_m_room f_m_givenTo f_m_canBe f_m_setPounds f_m_plainTime f_m_muleTime f_m_planTo f_m_march f_m_tired f_m_ranMinutes f_m_tiredAhead f_m_isReached f_m_toEnd f_m_upTo f_m_upNext f_m_byChanges f_m_bandPaces) := by
  refine gMv_in (by decide) (Nat.le_of_ble_eq_true rfl) ?_
  intro p e s m args below meth c A ls Q hx hb hml hts hown hsz hP hK hD hN hAe hA hS hl hret
  subst hsz
  have hl : lv_has ls 1 [(0, .ref (hm 0))] := hl
  have hrt := fun (v_place' : Int32) (v_bad' : Int32) (v_open' : Int32) (v_stacked' : Int32) (f_m_stack' : Nat → Int32) (hp : (f_m_stack' = upd f_m_stack v_stacked.toNatClampNeg (f_m_tape v_place.toNatClampNeg &&& 255)) ∧ (v_stacked'.toInt = v_stacked.toInt + 1 ∧ v_place'.toInt = v_place.toInt + 1 ∧ v_bad'.toInt ≤ v_bad.toInt) ∧ (0 ≤ v_place'.toInt ∧ v_place'.toInt ≤ 200) ∧ (-6000 ≤ v_bad'.toInt ∧ v_bad'.toInt ≤ 0) ∧ (0 ≤ v_stacked'.toInt ∧ v_stacked'.toInt ≤ 200)) {H : Heap} {locs : List Loc} {pc : Nat} {ls : Array Slot} => hret (v_place', v_bad', v_open', v_stacked', f_m_stack') (H := H) (locs := locs) (pc := pc) (ls := ls) hp
  clear hret
  refine lv_aload_n hx hb dX10_opens_0 rfl (lv_at hl 0 rfl) ?_
  refine gt_MD_MD_open hx hb hts hown hK hP lwd_415 dX10_opens_1 ?_
  refine lv_bipush (v := 6) hx hb dX10_opens_4 (by decide) ?_
  refine lv_icmp_ne (tgt := 18) hx hb dX10_opens_6 (by decide) (fun c_1 => ?_) (fun c_1 => ?_)
  · have gc_1 : v_open.toInt ≠ 6 := i_ne (rfl : v_open.toInt = v_open.toInt) (by decide : (6 : Int32).toInt = 6) c_1
    refine lv_aload_n hx hb dX10_opens_18 rfl (lv_at hl 0 rfl) ?_
    refine lv_dup hx hb dX10_opens_19 rfl ?_
    refine gt_MD_MD_open hx hb hts hown hK hP lwd_415 dX10_opens_20 ?_
    refine lv_iconst (v := 1) hx hb dX10_opens_23 (by decide) ?_
    refine lv_iadd hx hb dX10_opens_24 ?_
    refine lv_topi (fun n_2 en_2 => ?_)
    refine pt_MD_MD_open (x := n_2) hx hb hts hown hK hP hD hS lwd_415 dX10_opens_25 (fun H locs hP hD hS => ?_)
    refine lv_aload_n hx hb dX10_opens_28 rfl (lv_at hl 0 rfl) ?_
    refine lv_aload_n hx hb dX10_opens_29 rfl (lv_at hl 0 rfl) ?_
    refine xi hD hS hA (xV (As := []) (rest := [.ref (hm 0)]) hx hb hml hown hts hK hP hD hS hA NT_ok hN hAe hl.1 ⟨Nat.le_refl _, Nat.le_refl _⟩ 0 rfl rfl rfl (c_X10_here l D cy hm v_taped v_walkers v_loads v_pieces v_changeCosts v_planned v_isMarch v_clauseMany v_place v_end v_bad v_clauses v_codes n_2 v_stacked v_isOver v_isBehind v_atW v_atL v_atT v_atH v_atM v_atI v_atQ v_packing v_packed v_goPace v_goMinutes v_spentAt v_ranChanges f_m_tape f_m_knee f_m_weight f_m_isLame f_m_loadWeight f_m_owner f_m_food f_m_miles f_m_slope f_m_clauseLetter f_m_sumFrom f_m_codeFrom f_m_codeTo f_m_code f_m_codeArg f_m_newLetter f_m_newSum f_m_newFrom f_m_newTo f_m_newCode f_m_newArg f_m_stack f_m_worth f_m_isRefused f_m_least f_m_packPounds f_m_packOwner f_m_room f_m_givenTo f_m_canBe f_m_setPounds f_m_plainTime f_m_muleTime f_m_planTo f_m_march f_m_tired f_m_ranMinutes f_m_tiredAhead f_m_isReached f_m_toEnd f_m_upTo f_m_upNext f_m_byChanges f_m_bandPaces H.size (by omega) (by omega) hr_m_tape) (gi_V lwd_416 lwd_417 lwd_418 lwd_5 lwd_419) ⟨rfl, hd_X10_here⟩ ⟨Nat.le_of_ble_eq_true rfl, Nat.le_of_ble_eq_true rfl⟩ rfl (Nat.le_of_ble_eq_true rfl) dX10_opens_30) (fun r_4 u_3 H locs hw hP hD hS => ?_)
    try dsimp only at hw hP hD
    obtain ⟨p_5, p_6, p_7⟩ := hw
    refine xv hD hS hA (xV (As := [.int r_4]) (rest := []) hx hb hml hown hts hK hP hD hS hA NT_ok hN hAe hl.1 ⟨Nat.le_refl _, Nat.le_refl _⟩ 0 rfl rfl rfl (c_X10_puts l D cy hm v_taped v_walkers v_loads v_pieces v_changeCosts v_planned v_isMarch v_clauseMany v_place v_end v_bad v_clauses v_codes n_2 v_stacked v_isOver v_isBehind v_atW v_atL v_atT v_atH v_atM v_atI v_atQ v_packing v_packed v_goPace v_goMinutes v_spentAt v_ranChanges f_m_tape f_m_knee f_m_weight f_m_isLame f_m_loadWeight f_m_owner f_m_food f_m_miles f_m_slope f_m_clauseLetter f_m_sumFrom f_m_codeFrom f_m_codeTo f_m_code f_m_codeArg f_m_newLetter f_m_newSum f_m_newFrom f_m_newTo f_m_newCode f_m_newArg f_m_stack f_m_worth f_m_isRefused f_m_least f_m_packPounds f_m_packOwner f_m_room f_m_givenTo f_m_canBe f_m_setPounds f_m_plainTime f_m_muleTime f_m_planTo f_m_march f_m_tired f_m_ranMinutes f_m_tiredAhead f_m_isReached f_m_toEnd f_m_upTo f_m_upNext f_m_byChanges f_m_bandPaces H.size r_4 (by omega) (by omega) (by omega)) (gi_V lwd_437 lwd_438 lwd_439 lwd_5 lwd_440) ⟨rfl, hd_X10_puts⟩ ⟨Nat.le_of_ble_eq_true rfl, Nat.le_of_ble_eq_true rfl⟩ rfl (Nat.le_of_ble_eq_true rfl) dX10_opens_33) (fun u_8 H locs hw hP hD hS => ?_)
    obtain ⟨zplace_10, zstacked_11, zstack_12⟩ := u_8
    try dsimp only at hw hP hD
    obtain ⟨p_13, p_14, p_15, p_16⟩ := hw
    exact hrt zplace_10 v_bad n_2 zstacked_11 zstack_12 ⟨(by rw [p_13]; congr 1; exact i_same (by have q := p_7; omega)), (by omega), (by omega), (by omega), (by omega)⟩ hP hD hS dX10_opens_36
  · have gc_1 : v_open.toInt = 6 := i_eq (rfl : v_open.toInt = v_open.toInt) (by decide : (6 : Int32).toInt = 6) c_1
    refine lv_aload_n hx hb dX10_opens_9 rfl (lv_at hl 0 rfl) ?_
    refine lv_iconst (v := 5) hx hb dX10_opens_10 (by decide) ?_
    refine lv_aload_n hx hb dX10_opens_11 rfl (lv_at hl 0 rfl) ?_
    refine gt_MD_MD_place hx hb hts hown hK hP lwd_400 dX10_opens_12 ?_
    have k_17 : (5 : Int32).toInt = 5 := by decide
    refine xv hD hS hA (xV (As := [.int 5, .int v_place]) (rest := []) hx hb hml hown hts hK hP hD hS hA NT_ok hN hAe hl.1 ⟨Nat.le_refl _, Nat.le_refl _⟩ 0 rfl rfl rfl (c_X10_wrongs l D cy hm v_taped v_walkers v_loads v_pieces v_changeCosts v_planned v_isMarch v_clauseMany v_place v_end v_bad v_clauses v_codes v_open v_stacked v_isOver v_isBehind v_atW v_atL v_atT v_atH v_atM v_atI v_atQ v_packing v_packed v_goPace v_goMinutes v_spentAt v_ranChanges f_m_tape f_m_knee f_m_weight f_m_isLame f_m_loadWeight f_m_owner f_m_food f_m_miles f_m_slope f_m_clauseLetter f_m_sumFrom f_m_codeFrom f_m_codeTo f_m_code f_m_codeArg f_m_newLetter f_m_newSum f_m_newFrom f_m_newTo f_m_newCode f_m_newArg f_m_stack f_m_worth f_m_isRefused f_m_least f_m_packPounds f_m_packOwner f_m_room f_m_givenTo f_m_canBe f_m_setPounds f_m_plainTime f_m_muleTime f_m_planTo f_m_march f_m_tired f_m_ranMinutes f_m_tiredAhead f_m_isReached f_m_toEnd f_m_upTo f_m_upNext f_m_byChanges f_m_bandPaces s.heap.size 5 v_place (by omega) (by omega) (by omega)) (gi_V lwd_420 lwd_421 lwd_422 lwd_5 lwd_423) ⟨rfl, hd_X10_wrongs⟩ ⟨Nat.le_of_ble_eq_true rfl, Nat.le_of_ble_eq_true rfl⟩ rfl (Nat.le_of_ble_eq_true rfl) dX10_opens_15) (fun u_18 H locs hw hP hD hS => ?_)
    obtain ⟨zbad_20, rfl⟩ : ∃ z, z = u_18 := ⟨_, rfl⟩
    try dsimp only at hw hP hD
    obtain ⟨p_21, p_22⟩ := hw
    refine lv_aload_n hx hb dX10_opens_18 rfl (lv_at hl 0 rfl) ?_
    refine lv_dup hx hb dX10_opens_19 rfl ?_
    refine gt_MD_MD_open hx hb hts hown hK hP lwd_415 dX10_opens_20 ?_
    refine lv_iconst (v := 1) hx hb dX10_opens_23 (by decide) ?_
    refine lv_iadd hx hb dX10_opens_24 ?_
    refine lv_topi (fun n_23 en_23 => ?_)
    have tn_23 : n_23.toInt = v_open.toInt + 1 := i_add en_23 (rfl : v_open.toInt = v_open.toInt) (by decide : (1 : Int32).toInt = 1) (by omega) (by omega)
    refine pt_MD_MD_open (x := n_23) hx hb hts hown hK hP hD hS lwd_415 dX10_opens_25 (fun H locs hP hD hS => ?_)
    refine lv_aload_n hx hb dX10_opens_28 rfl (lv_at hl 0 rfl) ?_
    refine lv_aload_n hx hb dX10_opens_29 rfl (lv_at hl 0 rfl) ?_
    refine xi hD hS hA (xV (As := []) (rest := [.ref (hm 0)]) hx hb hml hown hts hK hP hD hS hA NT_ok hN hAe hl.1 ⟨Nat.le_refl _, Nat.le_refl _⟩ 0 rfl rfl rfl (c_X10_here l D cy hm v_taped v_walkers v_loads v_pieces v_changeCosts v_planned v_isMarch v_clauseMany v_place v_end zbad_20 v_clauses v_codes n_23 v_stacked v_isOver v_isBehind v_atW v_atL v_atT v_atH v_atM v_atI v_atQ v_packing v_packed v_goPace v_goMinutes v_spentAt v_ranChanges f_m_tape f_m_knee f_m_weight f_m_isLame f_m_loadWeight f_m_owner f_m_food f_m_miles f_m_slope f_m_clauseLetter f_m_sumFrom f_m_codeFrom f_m_codeTo f_m_code f_m_codeArg f_m_newLetter f_m_newSum f_m_newFrom f_m_newTo f_m_newCode f_m_newArg f_m_stack f_m_worth f_m_isRefused f_m_least f_m_packPounds f_m_packOwner f_m_room f_m_givenTo f_m_canBe f_m_setPounds f_m_plainTime f_m_muleTime f_m_planTo f_m_march f_m_tired f_m_ranMinutes f_m_tiredAhead f_m_isReached f_m_toEnd f_m_upTo f_m_upNext f_m_byChanges f_m_bandPaces H.size (by omega) (by omega) hr_m_tape) (gi_V lwd_416 lwd_417 lwd_418 lwd_5 lwd_419) ⟨rfl, hd_X10_here⟩ ⟨Nat.le_of_ble_eq_true rfl, Nat.le_of_ble_eq_true rfl⟩ rfl (Nat.le_of_ble_eq_true rfl) dX10_opens_30) (fun r_25 u_24 H locs hw hP hD hS => ?_)
    try dsimp only at hw hP hD
    obtain ⟨p_26, p_27, p_28⟩ := hw
    refine xv hD hS hA (xV (As := [.int r_25]) (rest := []) hx hb hml hown hts hK hP hD hS hA NT_ok hN hAe hl.1 ⟨Nat.le_refl _, Nat.le_refl _⟩ 0 rfl rfl rfl (c_X10_puts l D cy hm v_taped v_walkers v_loads v_pieces v_changeCosts v_planned v_isMarch v_clauseMany v_place v_end zbad_20 v_clauses v_codes n_23 v_stacked v_isOver v_isBehind v_atW v_atL v_atT v_atH v_atM v_atI v_atQ v_packing v_packed v_goPace v_goMinutes v_spentAt v_ranChanges f_m_tape f_m_knee f_m_weight f_m_isLame f_m_loadWeight f_m_owner f_m_food f_m_miles f_m_slope f_m_clauseLetter f_m_sumFrom f_m_codeFrom f_m_codeTo f_m_code f_m_codeArg f_m_newLetter f_m_newSum f_m_newFrom f_m_newTo f_m_newCode f_m_newArg f_m_stack f_m_worth f_m_isRefused f_m_least f_m_packPounds f_m_packOwner f_m_room f_m_givenTo f_m_canBe f_m_setPounds f_m_plainTime f_m_muleTime f_m_planTo f_m_march f_m_tired f_m_ranMinutes f_m_tiredAhead f_m_isReached f_m_toEnd f_m_upTo f_m_upNext f_m_byChanges f_m_bandPaces H.size r_25 (by omega) (by omega) (by omega)) (gi_V lwd_437 lwd_438 lwd_439 lwd_5 lwd_440) ⟨rfl, hd_X10_puts⟩ ⟨Nat.le_of_ble_eq_true rfl, Nat.le_of_ble_eq_true rfl⟩ rfl (Nat.le_of_ble_eq_true rfl) dX10_opens_33) (fun u_29 H locs hw hP hD hS => ?_)
    obtain ⟨zplace_31, zstacked_32, zstack_33⟩ := u_29
    try dsimp only at hw hP hD
    obtain ⟨p_34, p_35, p_36, p_37⟩ := hw
    exact hrt zplace_31 zbad_20 n_23 zstacked_32 zstack_33 ⟨(by rw [p_34]; congr 1; exact i_same (by have q := p_28; omega)), (by omega), (by omega), (by omega), (by omega)⟩ hP hD hS dX10_opens_36
set_option maxHeartbeats 16000000 in
set_option maxRecDepth 100000 in
theorem c_X10_seesDigit (l : Launch) (D : va_G) (cy : Nat → ClassId) (hm : Nat → Nat) (v_taped v_walkers v_loads v_pieces v_changeCosts v_planned v_isMarch v_clauseMany v_place v_end v_bad v_clauses v_codes v_open v_stacked v_isOver v_isBehind v_atW v_atL v_atT v_atH v_atM v_atI v_atQ v_packing v_packed v_goPace v_goMinutes v_spentAt v_ranChanges : Int32) (f_m_tape f_m_knee f_m_weight f_m_isLame f_m_loadWeight f_m_owner f_m_food f_m_miles f_m_slope f_m_clauseLetter f_m_sumFrom f_m_codeFrom f_m_codeTo f_m_code f_m_codeArg f_m_newLetter f_m_newSum f_m_newFrom f_m_newTo f_m_newCode f_m_newArg f_m_stack f_m_worth f_m_isRefused f_m_least f_m_packPounds f_m_packOwner f_m_room f_m_givenTo f_m_canBe f_m_setPounds f_m_plainTime f_m_muleTime f_m_planTo f_m_march f_m_tired f_m_ranMinutes f_m_tiredAhead f_m_isReached f_m_toEnd f_m_upTo f_m_upNext f_m_byChanges f_m_bandPaces : Nat → Int32) (sz : Nat) (hb_v_place : 0 ≤ v_place.toInt ∧ v_place.toInt ≤ 200) (hb_v_end : 0 ≤ v_end.toInt ∧ v_end.toInt ≤ 200) (hr_m_tape : rg (-128) 127 f_m_tape) : gMi l yX10_seesDigit cX10_seesDigit 1 .boolean 2 [.ref (hm 0)] D cy (wMD cy hm v_taped v_walkers v_loads v_pieces v_changeCosts v_planned v_isMarch v_clauseMany v_place v_end v_bad v_clauses v_codes v_open v_stacked v_isOver v_isBehind v_atW v_atL v_atT v_atH v_atM v_atI v_atQ v_packing v_packed v_goPace v_goMinutes v_spentAt v_ranChanges f_m_tape f_m_knee f_m_weight f_m_isLame f_m_loadWeight f_m_owner f_m_food f_m_miles f_m_slope f_m_clauseLetter f_m_sumFrom f_m_codeFrom f_m_codeTo f_m_code f_m_codeArg f_m_newLetter f_m_newSum f_m_newFrom f_m_newTo f_m_newCode f_m_newArg f_m_stack f_m_worth f_m_isRefused f_m_least f_m_packPounds f_m_packOwner f_m_room f_m_givenTo f_m_canBe f_m_setPounds f_m_plainTime f_m_muleTime f_m_planTo f_m_march f_m_tired f_m_ranMinutes f_m_tiredAhead f_m_isReached f_m_toEnd f_m_upTo f_m_upNext f_m_byChanges f_m_bandPaces) NT sz (fun (r : Int32) (u : Unit) => (0 ≤ r.toInt ∧ r.toInt ≤ 1) ∧ ((r.toInt = 1 ∧ v_place.toInt < v_end.toInt ∧ 48 ≤ (f_m_tape v_place.toNatClampNeg &&& 255).toInt ∧ (f_m_tape v_place.toNatClampNeg &&& 255).toInt ≤ 57) ∨ (r.toInt = 0 ∧ ¬ (v_place.toInt < v_end.toInt ∧ 48 ≤ (f_m_tape v_place.toNatClampNeg &&& 255).toInt ∧ (f_m_tape v_place.toNatClampNeg &&& 255).toInt ≤ 57)))) (fun u => wMD cy hm v_taped v_walkers v_loads v_pieces v_changeCosts v_planned v_isMarch v_clauseMany v_place v_end v_bad v_clauses v_codes v_open v_stacked v_isOver v_isBehind v_atW v_atL v_atT v_atH v_atM v_atI v_atQ v_packing v_packed v_goPace v_goMinutes v_spentAt v_ranChanges f_m_tape f_m_knee f_m_weight f_m_isLame f_m_loadWeight f_m_owner f_m_food f_m_miles f_m_slope f_m_clauseLetter f_m_sumFrom f_m_codeFrom f_m_codeTo f_m_code f_m_codeArg f_m_newLetter f_m_newSum f_m_newFrom f_m_newTo f_m_newCode f_m_newArg f_m_stack f_m_worth f_m_isRefused f_m_least f_m_packPounds f_m_packOwner f_m_room f_m_givenTo f_m_canBe f_m_setPounds f_m_plainTime f_m_muleTime f_m_planTo f_m_march f_m_tired f_m_ranMinutes f_m_tiredAhead f_m_isReached f_m_toEnd f_m_upTo f_m_upNext f_m_byChanges f_m_bandPaces) := by
  refine gMi_in (by decide) (Nat.le_of_ble_eq_true rfl) ?_
  intro p e s m args below meth c A ls Q hx hb hml hts hown hsz hP hK hD hN hAe hA hS hl hret
  subst hsz
  have hl : lv_has ls 1 [(0, .ref (hm 0))] := hl
  have hrt := fun (r : Int32)  (hp : (0 ≤ r.toInt ∧ r.toInt ≤ 1) ∧ ((r.toInt = 1 ∧ v_place.toInt < v_end.toInt ∧ 48 ≤ (f_m_tape v_place.toNatClampNeg &&& 255).toInt ∧ (f_m_tape v_place.toNatClampNeg &&& 255).toInt ≤ 57) ∨ (r.toInt = 0 ∧ ¬ (v_place.toInt < v_end.toInt ∧ 48 ≤ (f_m_tape v_place.toNatClampNeg &&& 255).toInt ∧ (f_m_tape v_place.toNatClampNeg &&& 255).toInt ≤ 57)))) {H : Heap} {locs : List Loc} {pc : Nat} {ls : Array Slot} => hret r () (H := H) (locs := locs) (pc := pc) (ls := ls) hp
  clear hret
  refine lv_aload_n hx hb dX10_seesDigit_0 rfl (lv_at hl 0 rfl) ?_
  refine xi hD hS hA (xV (As := []) (rest := []) hx hb hml hown hts hK hP hD hS hA NT_ok hN hAe hl.1 ⟨Nat.le_refl _, Nat.le_refl _⟩ 0 rfl rfl rfl (c_X10_here l D cy hm v_taped v_walkers v_loads v_pieces v_changeCosts v_planned v_isMarch v_clauseMany v_place v_end v_bad v_clauses v_codes v_open v_stacked v_isOver v_isBehind v_atW v_atL v_atT v_atH v_atM v_atI v_atQ v_packing v_packed v_goPace v_goMinutes v_spentAt v_ranChanges f_m_tape f_m_knee f_m_weight f_m_isLame f_m_loadWeight f_m_owner f_m_food f_m_miles f_m_slope f_m_clauseLetter f_m_sumFrom f_m_codeFrom f_m_codeTo f_m_code f_m_codeArg f_m_newLetter f_m_newSum f_m_newFrom f_m_newTo f_m_newCode f_m_newArg f_m_stack f_m_worth f_m_isRefused f_m_least f_m_packPounds f_m_packOwner f_m_room f_m_givenTo f_m_canBe f_m_setPounds f_m_plainTime f_m_muleTime f_m_planTo f_m_march f_m_tired f_m_ranMinutes f_m_tiredAhead f_m_isReached f_m_toEnd f_m_upTo f_m_upNext f_m_byChanges f_m_bandPaces s.heap.size (by omega) (by omega) hr_m_tape) (gi_V lwd_416 lwd_417 lwd_418 lwd_5 lwd_419) ⟨rfl, hd_X10_here⟩ ⟨Nat.le_of_ble_eq_true rfl, Nat.le_of_ble_eq_true rfl⟩ rfl (Nat.le_of_ble_eq_true rfl) dX10_seesDigit_1) (fun r_2 u_1 H locs hw hP hD hS => ?_)
  try dsimp only at hw hP hD
  obtain ⟨p_3, p_4, p_5⟩ := hw
  refine lv_i2l (v := r_2.toInt64) hx hb dX10_seesDigit_4 rfl ?_
  have hl_6 : r_2.toInt64.toInt = r_2.toInt := i_l (rfl : r_2.toInt = r_2.toInt)
  refine lv_ldc2 hx hb hown (hts _ lwd_445) dX10_seesDigit_5 ?_
  refine lv_ldc2 hx hb hown (hts _ lwd_446) dX10_seesDigit_8 ?_
  have k_7 : (48 : Int64).toInt = 48 := by decide
  have k_8 : (57 : Int64).toInt = 57 := by decide
  refine xi hD hS hA (xS (As := [.long r_2.toInt64, .long 48, .long 57]) (rest := []) hx hb hml hown hts hK hP hD hS hA NT_ok hN hAe hl.1 ⟨Nat.le_refl _, Nat.le_refl _⟩ (c_X10_lies l D cy hm v_taped v_walkers v_loads v_pieces v_changeCosts v_planned v_isMarch v_clauseMany v_place v_end v_bad v_clauses v_codes v_open v_stacked v_isOver v_isBehind v_atW v_atL v_atT v_atH v_atM v_atI v_atQ v_packing v_packed v_goPace v_goMinutes v_spentAt v_ranChanges f_m_tape f_m_knee f_m_weight f_m_isLame f_m_loadWeight f_m_owner f_m_food f_m_miles f_m_slope f_m_clauseLetter f_m_sumFrom f_m_codeFrom f_m_codeTo f_m_code f_m_codeArg f_m_newLetter f_m_newSum f_m_newFrom f_m_newTo f_m_newCode f_m_newArg f_m_stack f_m_worth f_m_isRefused f_m_least f_m_packPounds f_m_packOwner f_m_room f_m_givenTo f_m_canBe f_m_setPounds f_m_plainTime f_m_muleTime f_m_planTo f_m_march f_m_tired f_m_ranMinutes f_m_tiredAhead f_m_isReached f_m_toEnd f_m_upTo f_m_upNext f_m_byChanges f_m_bandPaces H.size r_2.toInt64 48 57) (gi_S lwd_226 lwd_227 lwd_5 lwd_228) hd_X10_lies ⟨Nat.le_of_ble_eq_true rfl, Nat.le_of_ble_eq_true rfl⟩ rfl (Nat.le_of_ble_eq_true rfl) dX10_seesDigit_11) (fun r_10 u_9 H locs hw hP hD hS => ?_)
  try dsimp only at hw hP hD
  obtain ⟨p_11, p_12⟩ := hw
  exact hrt r_10  ⟨(by omega), (by omega)⟩ hP hD hS (nar_b (i_01' (by omega))) dX10_seesDigit_14
set_option maxHeartbeats 16000000 in
set_option maxRecDepth 100000 in
theorem c_X10_reads (l : Launch) (D : va_G) (cy : Nat → ClassId) (hm : Nat → Nat) (v_taped v_walkers v_loads v_pieces v_changeCosts v_planned v_isMarch v_clauseMany v_place v_end v_bad v_clauses v_codes v_open v_stacked v_isOver v_isBehind v_atW v_atL v_atT v_atH v_atM v_atI v_atQ v_packing v_packed v_goPace v_goMinutes v_spentAt v_ranChanges : Int32) (f_m_tape f_m_knee f_m_weight f_m_isLame f_m_loadWeight f_m_owner f_m_food f_m_miles f_m_slope f_m_clauseLetter f_m_sumFrom f_m_codeFrom f_m_codeTo f_m_code f_m_codeArg f_m_newLetter f_m_newSum f_m_newFrom f_m_newTo f_m_newCode f_m_newArg f_m_stack f_m_worth f_m_isRefused f_m_least f_m_packPounds f_m_packOwner f_m_room f_m_givenTo f_m_canBe f_m_setPounds f_m_plainTime f_m_muleTime f_m_planTo f_m_march f_m_tired f_m_ranMinutes f_m_tiredAhead f_m_isReached f_m_toEnd f_m_upTo f_m_upNext f_m_byChanges f_m_bandPaces : Nat → Int32) (sz : Nat) (hb_v_place : 0 ≤ v_place.toInt ∧ v_place.toInt ≤ 200) (hb_v_end : 0 ≤ v_end.toInt ∧ v_end.toInt ≤ 200) (hb_v_bad : -6000 ≤ v_bad.toInt ∧ v_bad.toInt ≤ 0) (hr_m_tape : rg (-128) 127 f_m_tape) (hd : v_place.toInt < v_end.toInt ∧ 48 ≤ (f_m_tape v_place.toNatClampNeg &&& 255).toInt ∧ (f_m_tape v_place.toNatClampNeg &&& 255).toInt ≤ 57) : gMi l yX10_reads cX10_reads 3 .int 3 [.ref (hm 0)] D cy (wMD cy hm v_taped v_walkers v_loads v_pieces v_changeCosts v_planned v_isMarch v_clauseMany v_place v_end v_bad v_clauses v_codes v_open v_stacked v_isOver v_isBehind v_atW v_atL v_atT v_atH v_atM v_atI v_atQ v_packing v_packed v_goPace v_goMinutes v_spentAt v_ranChanges f_m_tape f_m_knee f_m_weight f_m_isLame f_m_loadWeight f_m_owner f_m_food f_m_miles f_m_slope f_m_clauseLetter f_m_sumFrom f_m_codeFrom f_m_codeTo f_m_code f_m_codeArg f_m_newLetter f_m_newSum f_m_newFrom f_m_newTo f_m_newCode f_m_newArg f_m_stack f_m_worth f_m_isRefused f_m_least f_m_packPounds f_m_packOwner f_m_room f_m_givenTo f_m_canBe f_m_setPounds f_m_plainTime f_m_muleTime f_m_planTo f_m_march f_m_tired f_m_ranMinutes f_m_tiredAhead f_m_isReached f_m_toEnd f_m_upTo f_m_upNext f_m_byChanges f_m_bandPaces) NT sz (fun (r : Int32) (u : Int32 × Int32) => ((u.2).toInt = 0 → v_place.toInt < (u.1).toInt) ∧ (v_place.toInt ≤ (u.1).toInt ∧ (u.1).toInt ≤ v_end.toInt ∧ (u.2).toInt ≤ v_bad.toInt) ∧ (0 ≤ (u.1).toInt ∧ (u.1).toInt ≤ 200) ∧ (-6000 ≤ (u.2).toInt ∧ (u.2).toInt ≤ 0)) (fun u => wMD cy hm v_taped v_walkers v_loads v_pieces v_changeCosts v_planned v_isMarch v_clauseMany (u.1) v_end (u.2) v_clauses v_codes v_open v_stacked v_isOver v_isBehind v_atW v_atL v_atT v_atH v_atM v_atI v_atQ v_packing v_packed v_goPace v_goMinutes v_spentAt v_ranChanges f_m_tape f_m_knee f_m_weight f_m_isLame f_m_loadWeight f_m_owner f_m_food f_m_miles f_m_slope f_m_clauseLetter f_m_sumFrom f_m_codeFrom f_m_codeTo f_m_code f_m_codeArg f_m_newLetter f_m_newSum f_m_newFrom f_m_newTo f_m_newCode f_m_newArg f_m_stack f_m_worth f_m_isRefused f_m_least f_m_packPounds f_m_packOwner f_m_room f_m_givenTo f_m_canBe f_m_setPounds f_m_plainTime f_m_muleTime f_m_planTo f_m_march f_m_tired f_m_ranMinutes f_m_tiredAhead f_m_isReached f_m_toEnd f_m_upTo f_m_upNext f_m_byChanges f_m_bandPaces) := by
  refine gMi_in (by decide) (Nat.le_of_ble_eq_true rfl) ?_
  intro p e s m args below meth c A ls Q hx hb hml hts hown hsz hP hK hD hN hAe hA hS hl hret
  subst hsz
  have hl : lv_has ls 3 [(0, .ref (hm 0))] := hl
  have hrt := fun (r : Int32) (v_place' : Int32) (v_bad' : Int32) (hp : (v_bad'.toInt = 0 → v_place.toInt < v_place'.toInt) ∧ (v_place.toInt ≤ v_place'.toInt ∧ v_place'.toInt ≤ v_end.toInt ∧ v_bad'.toInt ≤ v_bad.toInt) ∧ (0 ≤ v_place'.toInt ∧ v_place'.toInt ≤ 200) ∧ (-6000 ≤ v_bad'.toInt ∧ v_bad'.toInt ≤ 0)) {H : Heap} {locs : List Loc} {pc : Nat} {ls : Array Slot} => hret r (v_place', v_bad') (H := H) (locs := locs) (pc := pc) (ls := ls) hp
  clear hret
  refine lv_aload_n hx hb dX10_reads_0 rfl (lv_at hl 0 rfl) ?_
  refine gt_MD_MD_place hx hb hts hown hK hP lwd_400 dX10_reads_1 ?_
  refine lv_istore_n (lv' := [(1, .int v_place), (0, .ref (hm 0))]) hx hb dX10_reads_4 rfl hl (by decide) rfl (fun ls hl => ?_)
  refine lv_iconst (v := 0) hx hb dX10_reads_5 (by decide) ?_
  refine lv_istore_n (lv' := [(2, .int 0), (1, .int v_place), (0, .ref (hm 0))]) hx hb dX10_reads_6 rfl hl (by decide) rfl (fun ls hl => ?_)
  have L7_7 : ∀ (n : Nat) (l_4 : Int32) (w_5 : Int32) (w_6 : Int32), (-6000 ≤ w_5.toInt ∧ w_5.toInt ≤ 0) → (0 ≤ w_6.toInt ∧ w_6.toInt ≤ 200) → (v_place.toInt ≤ w_6.toInt ∧ w_6.toInt ≤ v_end.toInt ∧ w_5.toInt ≤ v_bad.toInt) → 201 - w_6.toInt < n → ∀ (H : Heap) (locs : List Loc) (ls : Array Slot), va_P D vwCl (wMD cy hm v_taped v_walkers v_loads v_pieces v_changeCosts v_planned v_isMarch v_clauseMany w_6 v_end w_5 v_clauses v_codes v_open v_stacked v_isOver v_isBehind v_atW v_atL v_atT v_atH v_atM v_atI v_atQ v_packing v_packed v_goPace v_goMinutes v_spentAt v_ranChanges f_m_tape f_m_knee f_m_weight f_m_isLame f_m_loadWeight f_m_owner f_m_food f_m_miles f_m_slope f_m_clauseLetter f_m_sumFrom f_m_codeFrom f_m_codeTo f_m_code f_m_codeArg f_m_newLetter f_m_newSum f_m_newFrom f_m_newTo f_m_newCode f_m_newArg f_m_stack f_m_worth f_m_isRefused f_m_least f_m_packPounds f_m_packOwner f_m_room f_m_givenTo f_m_canBe f_m_setPounds f_m_plainTime f_m_muleTime f_m_planTo f_m_march f_m_tired f_m_ranMinutes f_m_tiredAhead f_m_isReached f_m_toEnd f_m_upTo f_m_upNext f_m_byChanges f_m_bandPaces) H → va_D A (wMD cy hm v_taped v_walkers v_loads v_pieces v_changeCosts v_planned v_isMarch v_clauseMany w_6 v_end w_5 v_clauses v_codes v_open v_stacked v_isOver v_isBehind v_atW v_atL v_atT v_atH v_atM v_atI v_atQ v_packing v_packed v_goPace v_goMinutes v_spentAt v_ranChanges f_m_tape f_m_knee f_m_weight f_m_isLame f_m_loadWeight f_m_owner f_m_food f_m_miles f_m_slope f_m_clauseLetter f_m_sumFrom f_m_codeFrom f_m_codeTo f_m_code f_m_codeArg f_m_newLetter f_m_newSum f_m_newFrom f_m_newTo f_m_newCode f_m_newArg f_m_stack f_m_worth f_m_isRefused f_m_least f_m_packPounds f_m_packOwner f_m_room f_m_givenTo f_m_canBe f_m_setPounds f_m_plainTime f_m_muleTime f_m_planTo f_m_march f_m_tired f_m_ranMinutes f_m_tiredAhead f_m_isReached f_m_toEnd f_m_upTo f_m_upNext f_m_byChanges f_m_bandPaces) → va_S A s.heap H locs → lv_has ls 3 [(2, .int l_4), (1, .int v_place), (0, .ref (hm 0))] → W p l e (gRm 3) s m args below meth c H locs 0 0 Q (F0 m 7 ls []) := by
    intro n
    induction n with
    | zero => intro l_4 w_5 w_6 hL7_7_0 hL7_7_1 hL7_7_2 hm; exact absurd hm (by omega)
    | succ n ih7_7 =>
      intro l_4 w_5 w_6 hL7_7_0 hL7_7_1 hL7_7_2 hmL7_7 H locs ls hP hD hS hl
      refine lv_aload_n hx hb dX10_reads_7 rfl (lv_at hl 2 rfl) ?_
      refine xi hD hS hA (xV (As := []) (rest := []) hx hb hml hown hts hK hP hD hS hA NT_ok hN hAe hl.1 ⟨Nat.le_refl _, Nat.le_refl _⟩ 0 rfl rfl rfl (c_X10_isGood l D cy hm v_taped v_walkers v_loads v_pieces v_changeCosts v_planned v_isMarch v_clauseMany w_6 v_end w_5 v_clauses v_codes v_open v_stacked v_isOver v_isBehind v_atW v_atL v_atT v_atH v_atM v_atI v_atQ v_packing v_packed v_goPace v_goMinutes v_spentAt v_ranChanges f_m_tape f_m_knee f_m_weight f_m_isLame f_m_loadWeight f_m_owner f_m_food f_m_miles f_m_slope f_m_clauseLetter f_m_sumFrom f_m_codeFrom f_m_codeTo f_m_code f_m_codeArg f_m_newLetter f_m_newSum f_m_newFrom f_m_newTo f_m_newCode f_m_newArg f_m_stack f_m_worth f_m_isRefused f_m_least f_m_packPounds f_m_packOwner f_m_room f_m_givenTo f_m_canBe f_m_setPounds f_m_plainTime f_m_muleTime f_m_planTo f_m_march f_m_tired f_m_ranMinutes f_m_tiredAhead f_m_isReached f_m_toEnd f_m_upTo f_m_upNext f_m_byChanges f_m_bandPaces H.size (by omega)) (gi_V lwd_406 lwd_407 lwd_408 lwd_5 lwd_409) ⟨rfl, hd_X10_isGood⟩ ⟨Nat.le_of_ble_eq_true rfl, Nat.le_of_ble_eq_true rfl⟩ rfl (Nat.le_of_ble_eq_true rfl) dX10_reads_8) (fun r_9 u_8 H locs hw hP hD hS => ?_)
      try dsimp only at hw hP hD
      obtain ⟨p_10, p_11⟩ := hw
      refine lv_if_eq (tgt := 66) hx hb dX10_reads_11 (by decide) (fun c_12 => ?_) (fun c_12 => ?_)
      · have gc_12 : r_9.toInt = 0 := i_eq (rfl : r_9.toInt = r_9.toInt) (by decide : (0 : Int32).toInt = 0) c_12
        refine lv_iload_n hx hb dX10_reads_66 rfl (lv_at hl 0 rfl) ?_
        exact hrt l_4 w_6 w_5 ⟨(fun h0 => by
          by_cases q : w_6.toInt = v_place.toInt
          · have q2 := i_same q
            subst q2
            omega
          · omega), (by omega), (by omega), (by omega)⟩ hP hD hS rfl dX10_reads_67
      · have gc_12 : r_9.toInt ≠ 0 := i_ne (rfl : r_9.toInt = r_9.toInt) (by decide : (0 : Int32).toInt = 0) c_12
        refine lv_aload_n hx hb dX10_reads_14 rfl (lv_at hl 2 rfl) ?_
        refine xi hD hS hA (xV (As := []) (rest := []) hx hb hml hown hts hK hP hD hS hA NT_ok hN hAe hl.1 ⟨Nat.le_refl _, Nat.le_refl _⟩ 0 rfl rfl rfl (c_X10_seesDigit l D cy hm v_taped v_walkers v_loads v_pieces v_changeCosts v_planned v_isMarch v_clauseMany w_6 v_end w_5 v_clauses v_codes v_open v_stacked v_isOver v_isBehind v_atW v_atL v_atT v_atH v_atM v_atI v_atQ v_packing v_packed v_goPace v_goMinutes v_spentAt v_ranChanges f_m_tape f_m_knee f_m_weight f_m_isLame f_m_loadWeight f_m_owner f_m_food f_m_miles f_m_slope f_m_clauseLetter f_m_sumFrom f_m_codeFrom f_m_codeTo f_m_code f_m_codeArg f_m_newLetter f_m_newSum f_m_newFrom f_m_newTo f_m_newCode f_m_newArg f_m_stack f_m_worth f_m_isRefused f_m_least f_m_packPounds f_m_packOwner f_m_room f_m_givenTo f_m_canBe f_m_setPounds f_m_plainTime f_m_muleTime f_m_planTo f_m_march f_m_tired f_m_ranMinutes f_m_tiredAhead f_m_isReached f_m_toEnd f_m_upTo f_m_upNext f_m_byChanges f_m_bandPaces H.size (by omega) (by omega) hr_m_tape) (gi_V lwd_441 lwd_442 lwd_443 lwd_5 lwd_444) ⟨rfl, hd_X10_seesDigit⟩ ⟨Nat.le_of_ble_eq_true rfl, Nat.le_of_ble_eq_true rfl⟩ rfl (Nat.le_of_ble_eq_true rfl) dX10_reads_15) (fun r_14 u_13 H locs hw hP hD hS => ?_)
        try dsimp only at hw hP hD
        obtain ⟨p_15, p_16⟩ := hw
        refine lv_if_eq (tgt := 66) hx hb dX10_reads_18 (by decide) (fun c_17 => ?_) (fun c_17 => ?_)
        · have gc_17 : r_14.toInt = 0 := i_eq (rfl : r_14.toInt = r_14.toInt) (by decide : (0 : Int32).toInt = 0) c_17
          refine lv_iload_n hx hb dX10_reads_66 rfl (lv_at hl 0 rfl) ?_
          exact hrt l_4 w_6 w_5 ⟨(fun h0 => by
            by_cases q : w_6.toInt = v_place.toInt
            · have q2 := i_same q
              subst q2
              omega
            · omega), (by omega), (by omega), (by omega)⟩ hP hD hS rfl dX10_reads_67
        · have gc_17 : r_14.toInt ≠ 0 := i_ne (rfl : r_14.toInt = r_14.toInt) (by decide : (0 : Int32).toInt = 0) c_17
          refine lv_aload_n hx hb dX10_reads_21 rfl (lv_at hl 2 rfl) ?_
          refine gt_MD_MD_place hx hb hts hown hK hP lwd_400 dX10_reads_22 ?_
          refine lv_iload_n hx hb dX10_reads_25 rfl (lv_at hl 1 rfl) ?_
          refine lv_iconst (v := 5) hx hb dX10_reads_26 (by decide) ?_
          refine lv_iadd hx hb dX10_reads_27 ?_
          refine lv_topi (fun n_18 en_18 => ?_)
          have tn_18 : n_18.toInt = v_place.toInt + 5 := i_add en_18 (rfl : v_place.toInt = v_place.toInt) (by decide : (5 : Int32).toInt = 5) (by omega) (by omega)
          refine lv_icmp_ne (tgt := 40) hx hb dX10_reads_28 (by decide) (fun c_19 => ?_) (fun c_19 => ?_)
          · have gc_19 : w_6.toInt ≠ v_place.toInt + 5 := i_ne (rfl : w_6.toInt = w_6.toInt) tn_18 c_19
            refine lv_bipush (v := 10) hx hb dX10_reads_40 (by decide) ?_
            refine lv_iload_n hx hb dX10_reads_42 rfl (lv_at hl 0 rfl) ?_
            refine lv_imul hx hb dX10_reads_43 ?_
            refine lv_topi (fun n_20 en_20 => ?_)
            refine lv_aload_n hx hb dX10_reads_44 rfl (lv_at hl 2 rfl) ?_
            refine xi hD hS hA (xV (As := []) (rest := [.int n_20]) hx hb hml hown hts hK hP hD hS hA NT_ok hN hAe hl.1 ⟨Nat.le_refl _, Nat.le_refl _⟩ 0 rfl rfl rfl (c_X10_here l D cy hm v_taped v_walkers v_loads v_pieces v_changeCosts v_planned v_isMarch v_clauseMany w_6 v_end w_5 v_clauses v_codes v_open v_stacked v_isOver v_isBehind v_atW v_atL v_atT v_atH v_atM v_atI v_atQ v_packing v_packed v_goPace v_goMinutes v_spentAt v_ranChanges f_m_tape f_m_knee f_m_weight f_m_isLame f_m_loadWeight f_m_owner f_m_food f_m_miles f_m_slope f_m_clauseLetter f_m_sumFrom f_m_codeFrom f_m_codeTo f_m_code f_m_codeArg f_m_newLetter f_m_newSum f_m_newFrom f_m_newTo f_m_newCode f_m_newArg f_m_stack f_m_worth f_m_isRefused f_m_least f_m_packPounds f_m_packOwner f_m_room f_m_givenTo f_m_canBe f_m_setPounds f_m_plainTime f_m_muleTime f_m_planTo f_m_march f_m_tired f_m_ranMinutes f_m_tiredAhead f_m_isReached f_m_toEnd f_m_upTo f_m_upNext f_m_byChanges f_m_bandPaces H.size (by omega) (by omega) hr_m_tape) (gi_V lwd_416 lwd_417 lwd_418 lwd_5 lwd_419) ⟨rfl, hd_X10_here⟩ ⟨Nat.le_of_ble_eq_true rfl, Nat.le_of_ble_eq_true rfl⟩ rfl (Nat.le_of_ble_eq_true rfl) dX10_reads_45) (fun r_22 u_21 H locs hw hP hD hS => ?_)
            try dsimp only at hw hP hD
            obtain ⟨p_23, p_24, p_25⟩ := hw
            refine lv_iadd hx hb dX10_reads_48 ?_
            refine lv_topi (fun n_26 en_26 => ?_)
            refine lv_bipush (v := 48) hx hb dX10_reads_49 (by decide) ?_
            refine lv_isub hx hb dX10_reads_51 ?_
            refine lv_topi (fun n_27 en_27 => ?_)
            refine lv_istore_n (lv' := [(2, .int n_27), (1, .int v_place), (0, .ref (hm 0))]) hx hb dX10_reads_52 rfl hl (by decide) rfl (fun ls hl => ?_)
            refine lv_aload_n hx hb dX10_reads_53 rfl (lv_at hl 2 rfl) ?_
            refine lv_dup hx hb dX10_reads_54 rfl ?_
            refine gt_MD_MD_place hx hb hts hown hK hP lwd_400 dX10_reads_55 ?_
            refine lv_iconst (v := 1) hx hb dX10_reads_58 (by decide) ?_
            refine lv_iadd hx hb dX10_reads_59 ?_
            refine lv_topi (fun n_28 en_28 => ?_)
            have tn_28 : n_28.toInt = w_6.toInt + 1 := i_add en_28 (rfl : w_6.toInt = w_6.toInt) (by decide : (1 : Int32).toInt = 1) (by omega) (by omega)
            refine pt_MD_MD_place (x := n_28) hx hb hts hown hK hP hD hS lwd_400 dX10_reads_60 (fun H locs hP hD hS => ?_)
            refine lv_goto (tgt := 7) hx hb dX10_reads_63 (by decide) ?_
            exact ih7_7 n_27 w_5 n_28 (by omega) (by omega) (by omega) (by omega) _ _ _ hP hD hS (lv_sub hl [0, 1, 2] rfl)
          · have gc_19 : w_6.toInt = v_place.toInt + 5 := i_eq (rfl : w_6.toInt = w_6.toInt) tn_18 c_19
            refine lv_aload_n hx hb dX10_reads_31 rfl (lv_at hl 2 rfl) ?_
            refine lv_iconst (v := 2) hx hb dX10_reads_32 (by decide) ?_
            refine lv_aload_n hx hb dX10_reads_33 rfl (lv_at hl 2 rfl) ?_
            refine gt_MD_MD_place hx hb hts hown hK hP lwd_400 dX10_reads_34 ?_
            have k_29 : (2 : Int32).toInt = 2 := by decide
            refine xv hD hS hA (xV (As := [.int 2, .int w_6]) (rest := []) hx hb hml hown hts hK hP hD hS hA NT_ok hN hAe hl.1 ⟨Nat.le_refl _, Nat.le_refl _⟩ 0 rfl rfl rfl (c_X10_wrongs l D cy hm v_taped v_walkers v_loads v_pieces v_changeCosts v_planned v_isMarch v_clauseMany w_6 v_end w_5 v_clauses v_codes v_open v_stacked v_isOver v_isBehind v_atW v_atL v_atT v_atH v_atM v_atI v_atQ v_packing v_packed v_goPace v_goMinutes v_spentAt v_ranChanges f_m_tape f_m_knee f_m_weight f_m_isLame f_m_loadWeight f_m_owner f_m_food f_m_miles f_m_slope f_m_clauseLetter f_m_sumFrom f_m_codeFrom f_m_codeTo f_m_code f_m_codeArg f_m_newLetter f_m_newSum f_m_newFrom f_m_newTo f_m_newCode f_m_newArg f_m_stack f_m_worth f_m_isRefused f_m_least f_m_packPounds f_m_packOwner f_m_room f_m_givenTo f_m_canBe f_m_setPounds f_m_plainTime f_m_muleTime f_m_planTo f_m_march f_m_tired f_m_ranMinutes f_m_tiredAhead f_m_isReached f_m_toEnd f_m_upTo f_m_upNext f_m_byChanges f_m_bandPaces H.size 2 w_6 (by omega) (by omega) (by omega)) (gi_V lwd_420 lwd_421 lwd_422 lwd_5 lwd_423) ⟨rfl, hd_X10_wrongs⟩ ⟨Nat.le_of_ble_eq_true rfl, Nat.le_of_ble_eq_true rfl⟩ rfl (Nat.le_of_ble_eq_true rfl) dX10_reads_37) (fun u_30 H locs hw hP hD hS => ?_)
            obtain ⟨zbad_32, rfl⟩ : ∃ z, z = u_30 := ⟨_, rfl⟩
            try dsimp only at hw hP hD
            obtain ⟨p_33, p_34⟩ := hw
            refine lv_bipush (v := 10) hx hb dX10_reads_40 (by decide) ?_
            refine lv_iload_n hx hb dX10_reads_42 rfl (lv_at hl 0 rfl) ?_
            refine lv_imul hx hb dX10_reads_43 ?_
            refine lv_topi (fun n_35 en_35 => ?_)
            refine lv_aload_n hx hb dX10_reads_44 rfl (lv_at hl 2 rfl) ?_
            refine xi hD hS hA (xV (As := []) (rest := [.int n_35]) hx hb hml hown hts hK hP hD hS hA NT_ok hN hAe hl.1 ⟨Nat.le_refl _, Nat.le_refl _⟩ 0 rfl rfl rfl (c_X10_here l D cy hm v_taped v_walkers v_loads v_pieces v_changeCosts v_planned v_isMarch v_clauseMany w_6 v_end zbad_32 v_clauses v_codes v_open v_stacked v_isOver v_isBehind v_atW v_atL v_atT v_atH v_atM v_atI v_atQ v_packing v_packed v_goPace v_goMinutes v_spentAt v_ranChanges f_m_tape f_m_knee f_m_weight f_m_isLame f_m_loadWeight f_m_owner f_m_food f_m_miles f_m_slope f_m_clauseLetter f_m_sumFrom f_m_codeFrom f_m_codeTo f_m_code f_m_codeArg f_m_newLetter f_m_newSum f_m_newFrom f_m_newTo f_m_newCode f_m_newArg f_m_stack f_m_worth f_m_isRefused f_m_least f_m_packPounds f_m_packOwner f_m_room f_m_givenTo f_m_canBe f_m_setPounds f_m_plainTime f_m_muleTime f_m_planTo f_m_march f_m_tired f_m_ranMinutes f_m_tiredAhead f_m_isReached f_m_toEnd f_m_upTo f_m_upNext f_m_byChanges f_m_bandPaces H.size (by omega) (by omega) hr_m_tape) (gi_V lwd_416 lwd_417 lwd_418 lwd_5 lwd_419) ⟨rfl, hd_X10_here⟩ ⟨Nat.le_of_ble_eq_true rfl, Nat.le_of_ble_eq_true rfl⟩ rfl (Nat.le_of_ble_eq_true rfl) dX10_reads_45) (fun r_37 u_36 H locs hw hP hD hS => ?_)
            try dsimp only at hw hP hD
            obtain ⟨p_38, p_39, p_40⟩ := hw
            refine lv_iadd hx hb dX10_reads_48 ?_
            refine lv_topi (fun n_41 en_41 => ?_)
            refine lv_bipush (v := 48) hx hb dX10_reads_49 (by decide) ?_
            refine lv_isub hx hb dX10_reads_51 ?_
            refine lv_topi (fun n_42 en_42 => ?_)
            refine lv_istore_n (lv' := [(2, .int n_42), (1, .int v_place), (0, .ref (hm 0))]) hx hb dX10_reads_52 rfl hl (by decide) rfl (fun ls hl => ?_)
            refine lv_aload_n hx hb dX10_reads_53 rfl (lv_at hl 2 rfl) ?_
            refine lv_dup hx hb dX10_reads_54 rfl ?_
            refine gt_MD_MD_place hx hb hts hown hK hP lwd_400 dX10_reads_55 ?_
            refine lv_iconst (v := 1) hx hb dX10_reads_58 (by decide) ?_
            refine lv_iadd hx hb dX10_reads_59 ?_
            refine lv_topi (fun n_43 en_43 => ?_)
            have tn_43 : n_43.toInt = w_6.toInt + 1 := i_add en_43 (rfl : w_6.toInt = w_6.toInt) (by decide : (1 : Int32).toInt = 1) (by omega) (by omega)
            refine pt_MD_MD_place (x := n_43) hx hb hts hown hK hP hD hS lwd_400 dX10_reads_60 (fun H locs hP hD hS => ?_)
            refine lv_goto (tgt := 7) hx hb dX10_reads_63 (by decide) ?_
            exact ih7_7 n_42 zbad_32 n_43 (by omega) (by omega) (by omega) (by omega) _ _ _ hP hD hS (lv_sub hl [0, 1, 2] rfl)
  have k_44 : (0 : Int32).toInt = 0 := by decide
  exact L7_7 8589934592 0 v_bad v_place (by omega) (by omega) (by omega) (by omega) _ _ _ hP hD hS (lv_sub hl [0, 1, 2] rfl)
