set_option maxHeartbeats 16000000 in
set_option maxRecDepth 100000 in
theorem c_X10_isGood (l : Launch) (D : va_G) (cy : Nat → ClassId) (hm : Nat → Nat) (v_taped v_walkers v_loads v_pieces v_changeCosts v_planned v_isMarch v_clauseMany v_place v_end v_bad v_clauses v_codes v_open v_stacked v_isOver v_isBehind v_atW v_atL v_atT v_atH v_atM v_atI v_atQ v_packing v_packed v_goPace v_goMinutes v_spentAt v_ranChanges : Int32) (f_m_tape f_m_knee f_m_weight f_m_isLame f_m_loadWeight f_m_owner f_m_food f_m_miles f_m_slope f_m_clauseLetter f_m_sumFrom f_m_codeFrom f_m_codeTo f_m_code f_m_codeArg f_m_newLetter f_m_newSum f_m_newFrom f_m_newTo f_m_newCode f_m_newArg f_m_stack f_m_worth f_m_isRefused f_m_least f_m_packPounds f_m_packOwner f_m_room f_m_givenTo f_m_canBe f_m_setPounds f_m_plainTime f_m_muleTime f_m_planTo f_m_march f_m_tired f_m_ranMinutes f_m_tiredAhead f_m_isReached f_m_toEnd f_m_upTo f_m_upNext f_m_byChanges f_m_bandPaces : Nat → Int32) (sz : Nat) (hb_v_bad : -6000 ≤ v_bad.toInt ∧ v_bad.toInt ≤ 0) : gMi l yX10_isGood cX10_isGood 1 .boolean 1 [.ref (hm 0)] D cy (wMD cy hm v_taped v_walkers v_loads v_pieces v_changeCosts v_planned v_isMarch v_clauseMany v_place v_end v_bad v_clauses v_codes v_open v_stacked v_isOver v_isBehind v_atW v_atL v_atT v_atH v_atM v_atI v_atQ v_packing v_packed v_goPace v_goMinutes v_spentAt v_ranChanges f_m_tape f_m_knee f_m_weight f_m_isLame f_m_loadWeight f_m_owner f_m_food f_m_miles f_m_slope f_m_clauseLetter f_m_sumFrom f_m_codeFrom f_m_codeTo f_m_code f_m_codeArg f_m_newLetter f_m_newSum f_m_newFrom f_m_newTo f_m_newCode f_m_newArg f_m_stack f_m_worth f_m_isRefused f_m_least f_m_packPounds f_m_packOwner f_m_room f_m_givenTo f_m_canBe f_m_setPounds f_m_plainTime f_m_muleTime f_m_planTo f_m_march f_m_tired f_m_ranMinutes f_m_tiredAhead f_m_isReached f_m_toEnd f_m_upTo f_m_upNext f_m_byChanges f_m_bandPaces) NT sz (fun (r : Int32) (u : Unit) => (0 ≤ r.toInt ∧ r.toInt ≤ 1) ∧ ((r.toInt = 1 ∧ v_bad.toInt = 0) ∨ (r.toInt = 0 ∧ v_bad.toInt ≠ 0))) (fun u => wMD cy hm v_taped v_walkers v_loads v_pieces v_changeCosts v_planned v_isMarch v_clauseMany v_place v_end v_bad v_clauses v_codes v_open v_stacked v_isOver v_isBehind v_atW v_atL v_atT v_atH v_atM v_atI v_atQ v_packing v_packed v_goPace v_goMinutes v_spentAt v_ranChanges f_m_tape f_m_knee f_m_weight f_m_isLame f_m_loadWeight f_m_owner f_m_food f_m_miles f_m_slope f_m_clauseLetter f_m_sumFrom f_m_codeFrom f_m_codeTo f_m_code f_m_codeArg f_m_newLetter f_m_newSum f_m_newFrom f_m_newTo f_m_newCode f_m_newArg f_m_stack f_m_worth f_m_isRefused f_m_least f_m_packPounds f_m_packOwner f_m_room f_m_givenTo f_m_canBe f_m_setPounds f_m_plainTime f_m_muleTime f_m_planTo f_m_march f_m_tired f_m_ranMinutes f_m_tiredAhead f_m_isReached f_m_toEnd f_m_upTo f_m_upNext f_m_byChanges f_m_bandPaces) := by
  refine gMi_in (by decide) (Nat.le_of_ble_eq_true rfl) ?_
  intro p e s m args below meth c A ls Q hx hb hml hts hown hsz hP hK hD hN hAe hA hS hl hret
  subst hsz
  have hl : lv_has ls 1 [(0, .ref (hm 0))] := hl
  have hrt := fun (r : Int32)  (hp : (0 ≤ r.toInt ∧ r.toInt ≤ 1) ∧ ((r.toInt = 1 ∧ v_bad.toInt = 0) ∨ (r.toInt = 0 ∧ v_bad.toInt ≠ 0))) {H : Heap} {locs : List Loc} {pc : Nat} {ls : Array Slot} => hret r () (H := H) (locs := locs) (pc := pc) (ls := ls) hp
  clear hret
  refine lv_aload_n hx hb dX10_isGood_0 rfl (lv_at hl 0 rfl) ?_
  refine gt_MD_MD_bad hx hb hts hown hK hP lwd_402 dX10_isGood_1 ?_
  refine lv_if_ne (tgt := 11) hx hb dX10_isGood_4 (by decide) (fun c_1 => ?_) (fun c_1 => ?_)
  · have gc_1 : v_bad.toInt ≠ 0 := i_ne (rfl : v_bad.toInt = v_bad.toInt) (by decide : (0 : Int32).toInt = 0) c_1
    refine lv_iconst (v := 0) hx hb dX10_isGood_11 (by decide) ?_
    have k_2 : (0 : Int32).toInt = 0 := by decide
    exact hrt 0  ⟨(by omega), (by omega)⟩ hP hD hS rfl dX10_isGood_12
  · have gc_1 : v_bad.toInt = 0 := i_eq (rfl : v_bad.toInt = v_bad.toInt) (by decide : (0 : Int32).toInt = 0) c_1
    refine lv_iconst (v := 1) hx hb dX10_isGood_7 (by decide) ?_
    refine lv_goto (tgt := 12) hx hb dX10_isGood_8 (by decide) ?_
    have k_3 : (1 : Int32).toInt = 1 := by decide
    exact hrt 1  ⟨(by omega), (by omega)⟩ hP hD hS rfl dX10_isGood_12
set_option maxHeartbeats 16000000 in
set_option maxRecDepth 100000 in
theorem c_X10_valueOf (l : Launch) (D : va_G) (cy : Nat → ClassId) (hm : Nat → Nat) (v_taped v_walkers v_loads v_pieces v_changeCosts v_planned v_isMarch v_clauseMany v_place v_end v_bad v_clauses v_codes v_open v_stacked v_isOver v_isBehind v_atW v_atL v_atT v_atH v_atM v_atI v_atQ v_packing v_packed v_goPace v_goMinutes v_spentAt v_ranChanges : Int32) (f_m_tape f_m_knee f_m_weight f_m_isLame f_m_loadWeight f_m_owner f_m_food f_m_miles f_m_slope f_m_clauseLetter f_m_sumFrom f_m_codeFrom f_m_codeTo f_m_code f_m_codeArg f_m_newLetter f_m_newSum f_m_newFrom f_m_newTo f_m_newCode f_m_newArg f_m_stack f_m_worth f_m_isRefused f_m_least f_m_packPounds f_m_packOwner f_m_room f_m_givenTo f_m_canBe f_m_setPounds f_m_plainTime f_m_muleTime f_m_planTo f_m_march f_m_tired f_m_ranMinutes f_m_tiredAhead f_m_isReached f_m_toEnd f_m_upTo f_m_upNext f_m_byChanges f_m_bandPaces : Nat → Int32) (sz : Nat) (o : Int32) (hb_v_walkers : 0 ≤ v_walkers.toInt ∧ v_walkers.toInt ≤ 6) (hb_v_atW : 0 ≤ v_atW.toInt ∧ v_atW.toInt ≤ 5) (hr_m_weight : rg (0) 250 f_m_weight) : gMi l yX10_valueOf cX10_valueOf 2 .int 1 [.ref (hm 0), .int o] D cy (wMD cy hm v_taped v_walkers v_loads v_pieces v_changeCosts v_planned v_isMarch v_clauseMany v_place v_end v_bad v_clauses v_codes v_open v_stacked v_isOver v_isBehind v_atW v_atL v_atT v_atH v_atM v_atI v_atQ v_packing v_packed v_goPace v_goMinutes v_spentAt v_ranChanges f_m_tape f_m_knee f_m_weight f_m_isLame f_m_loadWeight f_m_owner f_m_food f_m_miles f_m_slope f_m_clauseLetter f_m_sumFrom f_m_codeFrom f_m_codeTo f_m_code f_m_codeArg f_m_newLetter f_m_newSum f_m_newFrom f_m_newTo f_m_newCode f_m_newArg f_m_stack f_m_worth f_m_isRefused f_m_least f_m_packPounds f_m_packOwner f_m_room f_m_givenTo f_m_canBe f_m_setPounds f_m_plainTime f_m_muleTime f_m_planTo f_m_march f_m_tired f_m_ranMinutes f_m_tiredAhead f_m_isReached f_m_toEnd f_m_upTo f_m_upNext f_m_byChanges f_m_bandPaces) NT sz (fun (r : Int32) (u : Unit) => (r = valF f_m_knee f_m_weight v_walkers v_atW v_atL v_atT v_atH v_atM v_atI v_atQ o)) (fun u => wMD cy hm v_taped v_walkers v_loads v_pieces v_changeCosts v_planned v_isMarch v_clauseMany v_place v_end v_bad v_clauses v_codes v_open v_stacked v_isOver v_isBehind v_atW v_atL v_atT v_atH v_atM v_atI v_atQ v_packing v_packed v_goPace v_goMinutes v_spentAt v_ranChanges f_m_tape f_m_knee f_m_weight f_m_isLame f_m_loadWeight f_m_owner f_m_food f_m_miles f_m_slope f_m_clauseLetter f_m_sumFrom f_m_codeFrom f_m_codeTo f_m_code f_m_codeArg f_m_newLetter f_m_newSum f_m_newFrom f_m_newTo f_m_newCode f_m_newArg f_m_stack f_m_worth f_m_isRefused f_m_least f_m_packPounds f_m_packOwner f_m_room f_m_givenTo f_m_canBe f_m_setPounds f_m_plainTime f_m_muleTime f_m_planTo f_m_march f_m_tired f_m_ranMinutes f_m_tiredAhead f_m_isReached f_m_toEnd f_m_upTo f_m_upNext f_m_byChanges f_m_bandPaces) := by
  refine gMi_in (by decide) (Nat.le_of_ble_eq_true rfl) ?_
  intro p e s m args below meth c A ls Q hx hb hml hts hown hsz hP hK hD hN hAe hA hS hl hret
  subst hsz
  have hl : lv_has ls 2 [(0, .ref (hm 0)), (1, .int o)] := hl
  have hrt := fun (r : Int32)  (hp : (r = valF f_m_knee f_m_weight v_walkers v_atW v_atL v_atT v_atH v_atM v_atI v_atQ o)) {H : Heap} {locs : List Loc} {pc : Nat} {ls : Array Slot} => hret r () (H := H) (locs := locs) (pc := pc) (ls := ls) hp
  clear hret
  refine lv_iload_n hx hb dX10_valueOf_0 rfl (lv_at hl 1 rfl) ?_
  rcases (show o.toInt < 98 ∨ 119 < o.toInt ∨ o.toInt = 98 ∨ o.toInt = 99 ∨ o.toInt = 100 ∨ o.toInt = 101 ∨ o.toInt = 102 ∨ o.toInt = 103 ∨ o.toInt = 104 ∨ o.toInt = 105 ∨ o.toInt = 106 ∨ o.toInt = 107 ∨ o.toInt = 108 ∨ o.toInt = 109 ∨ o.toInt = 110 ∨ o.toInt = 111 ∨ o.toInt = 112 ∨ o.toInt = 113 ∨ o.toInt = 114 ∨ o.toInt = 115 ∨ o.toInt = 116 ∨ o.toInt = 117 ∨ o.toInt = 118 ∨ o.toInt = 119 by omega) with c_1 | c_1 | c_1 | c_1 | c_1 | c_1 | c_1 | c_1 | c_1 | c_1 | c_1 | c_1 | c_1 | c_1 | c_1 | c_1 | c_1 | c_1 | c_1 | c_1 | c_1 | c_1 | c_1 | c_1
  · refine lv_tableOut (tgt := 159) hx hb dX10_valueOf_1 (Or.inl c_1) (by decide) ?_
    refine lv_aload_n hx hb dX10_valueOf_159 rfl (lv_at hl 0 rfl) ?_
    refine gt_MD_MD_atQ hx hb hts hown hK hP lwd_563 dX10_valueOf_160 ?_
    exact hrt v_atQ  (by unfold valF; first | (rw [if_pos (by omega)]) | (rw [if_neg (by omega), if_pos (by omega)]) | (rw [if_neg (by omega), if_neg (by omega), if_pos (by omega)]) | (rw [if_neg (by omega), if_neg (by omega), if_neg (by omega), if_pos (by omega)]) | (rw [if_neg (by omega), if_neg (by omega), if_neg (by omega), if_neg (by omega), if_pos (by omega)]) | (rw [if_neg (by omega), if_neg (by omega), if_neg (by omega), if_neg (by omega), if_neg (by omega), if_pos (by omega)]) | (rw [if_neg (by omega), if_neg (by omega), if_neg (by omega), if_neg (by omega), if_neg (by omega), if_neg (by omega), if_pos (by omega)]) | (rw [if_neg (by omega), if_neg (by omega), if_neg (by omega), if_neg (by omega), if_neg (by omega), if_neg (by omega), if_neg (by omega), if_pos (by omega)]) | (rw [if_neg (by omega), if_neg (by omega), if_neg (by omega), if_neg (by omega), if_neg (by omega), if_neg (by omega), if_neg (by omega), if_neg (by omega), if_pos (by omega)]) | (rw [if_neg (by omega), if_neg (by omega), if_neg (by omega), if_neg (by omega), if_neg (by omega), if_neg (by omega), if_neg (by omega), if_neg (by omega), if_neg (by omega)])) hP hD hS rfl dX10_valueOf_163
  · refine lv_tableOut (tgt := 159) hx hb dX10_valueOf_1 (Or.inr c_1) (by decide) ?_
    refine lv_aload_n hx hb dX10_valueOf_159 rfl (lv_at hl 0 rfl) ?_
    refine gt_MD_MD_atQ hx hb hts hown hK hP lwd_563 dX10_valueOf_160 ?_
    exact hrt v_atQ  (by unfold valF; first | (rw [if_pos (by omega)]) | (rw [if_neg (by omega), if_pos (by omega)]) | (rw [if_neg (by omega), if_neg (by omega), if_pos (by omega)]) | (rw [if_neg (by omega), if_neg (by omega), if_neg (by omega), if_pos (by omega)]) | (rw [if_neg (by omega), if_neg (by omega), if_neg (by omega), if_neg (by omega), if_pos (by omega)]) | (rw [if_neg (by omega), if_neg (by omega), if_neg (by omega), if_neg (by omega), if_neg (by omega), if_pos (by omega)]) | (rw [if_neg (by omega), if_neg (by omega), if_neg (by omega), if_neg (by omega), if_neg (by omega), if_neg (by omega), if_pos (by omega)]) | (rw [if_neg (by omega), if_neg (by omega), if_neg (by omega), if_neg (by omega), if_neg (by omega), if_neg (by omega), if_neg (by omega), if_pos (by omega)]) | (rw [if_neg (by omega), if_neg (by omega), if_neg (by omega), if_neg (by omega), if_neg (by omega), if_neg (by omega), if_neg (by omega), if_neg (by omega), if_pos (by omega)]) | (rw [if_neg (by omega), if_neg (by omega), if_neg (by omega), if_neg (by omega), if_neg (by omega), if_neg (by omega), if_neg (by omega), if_neg (by omega), if_neg (by omega)])) hP hD hS rfl dX10_valueOf_163
  · refine lv_tableIn (tgt := 119) (off := 118) hx hb dX10_valueOf_1 (by omega) (by omega) (by rw [c_1]; rfl) (by decide) ?_
    refine lv_aload_n hx hb dX10_valueOf_119 rfl (lv_at hl 0 rfl) ?_
    refine gt_MD_MD_weight hx hb hts hown hK hP lwd_158 dX10_valueOf_120 ?_
    refine lv_aload_n hx hb dX10_valueOf_123 rfl (lv_at hl 0 rfl) ?_
    refine gt_MD_MD_atW hx hb hts hown hK hP lwd_557 dX10_valueOf_124 ?_
    refine al_m_weight hx hb hK hP hr_m_weight (i_in (rfl : v_atW.toInt = v_atW.toInt) (by omega) (by omega)) dX10_valueOf_127 (fun n_2 en_2 bn_2 => ?_)
    exact hrt n_2  (by unfold valF; first | (rw [if_pos (by omega)]; exact en_2) | (rw [if_neg (by omega), if_pos (by omega)]; exact en_2) | (rw [if_neg (by omega), if_neg (by omega), if_pos (by omega)]; exact en_2) | (rw [if_neg (by omega), if_neg (by omega), if_neg (by omega), if_pos (by omega)]; exact en_2) | (rw [if_neg (by omega), if_neg (by omega), if_neg (by omega), if_neg (by omega), if_pos (by omega)]; exact en_2) | (rw [if_neg (by omega), if_neg (by omega), if_neg (by omega), if_neg (by omega), if_neg (by omega), if_pos (by omega)]; exact en_2) | (rw [if_neg (by omega), if_neg (by omega), if_neg (by omega), if_neg (by omega), if_neg (by omega), if_neg (by omega), if_pos (by omega)]; exact en_2) | (rw [if_neg (by omega), if_neg (by omega), if_neg (by omega), if_neg (by omega), if_neg (by omega), if_neg (by omega), if_neg (by omega), if_pos (by omega)]; exact en_2) | (rw [if_neg (by omega), if_neg (by omega), if_neg (by omega), if_neg (by omega), if_neg (by omega), if_neg (by omega), if_neg (by omega), if_neg (by omega), if_pos (by omega)]; exact en_2) | (rw [if_neg (by omega), if_neg (by omega), if_neg (by omega), if_neg (by omega), if_neg (by omega), if_neg (by omega), if_neg (by omega), if_neg (by omega), if_neg (by omega)]; exact en_2)) hP hD hS rfl dX10_valueOf_128
  · refine lv_tableIn (tgt := 159) (off := 158) hx hb dX10_valueOf_1 (by omega) (by omega) (by rw [c_1]; rfl) (by decide) ?_
    refine lv_aload_n hx hb dX10_valueOf_159 rfl (lv_at hl 0 rfl) ?_
    refine gt_MD_MD_atQ hx hb hts hown hK hP lwd_563 dX10_valueOf_160 ?_
    exact hrt v_atQ  (by unfold valF; first | (rw [if_pos (by omega)]) | (rw [if_neg (by omega), if_pos (by omega)]) | (rw [if_neg (by omega), if_neg (by omega), if_pos (by omega)]) | (rw [if_neg (by omega), if_neg (by omega), if_neg (by omega), if_pos (by omega)]) | (rw [if_neg (by omega), if_neg (by omega), if_neg (by omega), if_neg (by omega), if_pos (by omega)]) | (rw [if_neg (by omega), if_neg (by omega), if_neg (by omega), if_neg (by omega), if_neg (by omega), if_pos (by omega)]) | (rw [if_neg (by omega), if_neg (by omega), if_neg (by omega), if_neg (by omega), if_neg (by omega), if_neg (by omega), if_pos (by omega)]) | (rw [if_neg (by omega), if_neg (by omega), if_neg (by omega), if_neg (by omega), if_neg (by omega), if_neg (by omega), if_neg (by omega), if_pos (by omega)]) | (rw [if_neg (by omega), if_neg (by omega), if_neg (by omega), if_neg (by omega), if_neg (by omega), if_neg (by omega), if_neg (by omega), if_neg (by omega), if_pos (by omega)]) | (rw [if_neg (by omega), if_neg (by omega), if_neg (by omega), if_neg (by omega), if_neg (by omega), if_neg (by omega), if_neg (by omega), if_neg (by omega), if_neg (by omega)])) hP hD hS rfl dX10_valueOf_163
  · refine lv_tableIn (tgt := 159) (off := 158) hx hb dX10_valueOf_1 (by omega) (by omega) (by rw [c_1]; rfl) (by decide) ?_
    refine lv_aload_n hx hb dX10_valueOf_159 rfl (lv_at hl 0 rfl) ?_
    refine gt_MD_MD_atQ hx hb hts hown hK hP lwd_563 dX10_valueOf_160 ?_
    exact hrt v_atQ  (by unfold valF; first | (rw [if_pos (by omega)]) | (rw [if_neg (by omega), if_pos (by omega)]) | (rw [if_neg (by omega), if_neg (by omega), if_pos (by omega)]) | (rw [if_neg (by omega), if_neg (by omega), if_neg (by omega), if_pos (by omega)]) | (rw [if_neg (by omega), if_neg (by omega), if_neg (by omega), if_neg (by omega), if_pos (by omega)]) | (rw [if_neg (by omega), if_neg (by omega), if_neg (by omega), if_neg (by omega), if_neg (by omega), if_pos (by omega)]) | (rw [if_neg (by omega), if_neg (by omega), if_neg (by omega), if_neg (by omega), if_neg (by omega), if_neg (by omega), if_pos (by omega)]) | (rw [if_neg (by omega), if_neg (by omega), if_neg (by omega), if_neg (by omega), if_neg (by omega), if_neg (by omega), if_neg (by omega), if_pos (by omega)]) | (rw [if_neg (by omega), if_neg (by omega), if_neg (by omega), if_neg (by omega), if_neg (by omega), if_neg (by omega), if_neg (by omega), if_neg (by omega), if_pos (by omega)]) | (rw [if_neg (by omega), if_neg (by omega), if_neg (by omega), if_neg (by omega), if_neg (by omega), if_neg (by omega), if_neg (by omega), if_neg (by omega), if_neg (by omega)])) hP hD hS rfl dX10_valueOf_163
  · refine lv_tableIn (tgt := 159) (off := 158) hx hb dX10_valueOf_1 (by omega) (by omega) (by rw [c_1]; rfl) (by decide) ?_
    refine lv_aload_n hx hb dX10_valueOf_159 rfl (lv_at hl 0 rfl) ?_
    refine gt_MD_MD_atQ hx hb hts hown hK hP lwd_563 dX10_valueOf_160 ?_
    exact hrt v_atQ  (by unfold valF; first | (rw [if_pos (by omega)]) | (rw [if_neg (by omega), if_pos (by omega)]) | (rw [if_neg (by omega), if_neg (by omega), if_pos (by omega)]) | (rw [if_neg (by omega), if_neg (by omega), if_neg (by omega), if_pos (by omega)]) | (rw [if_neg (by omega), if_neg (by omega), if_neg (by omega), if_neg (by omega), if_pos (by omega)]) | (rw [if_neg (by omega), if_neg (by omega), if_neg (by omega), if_neg (by omega), if_neg (by omega), if_pos (by omega)]) | (rw [if_neg (by omega), if_neg (by omega), if_neg (by omega), if_neg (by omega), if_neg (by omega), if_neg (by omega), if_pos (by omega)]) | (rw [if_neg (by omega), if_neg (by omega), if_neg (by omega), if_neg (by omega), if_neg (by omega), if_neg (by omega), if_neg (by omega), if_pos (by omega)]) | (rw [if_neg (by omega), if_neg (by omega), if_neg (by omega), if_neg (by omega), if_neg (by omega), if_neg (by omega), if_neg (by omega), if_neg (by omega), if_pos (by omega)]) | (rw [if_neg (by omega), if_neg (by omega), if_neg (by omega), if_neg (by omega), if_neg (by omega), if_neg (by omega), if_neg (by omega), if_neg (by omega), if_neg (by omega)])) hP hD hS rfl dX10_valueOf_163
  · refine lv_tableIn (tgt := 159) (off := 158) hx hb dX10_valueOf_1 (by omega) (by omega) (by rw [c_1]; rfl) (by decide) ?_
    refine lv_aload_n hx hb dX10_valueOf_159 rfl (lv_at hl 0 rfl) ?_
    refine gt_MD_MD_atQ hx hb hts hown hK hP lwd_563 dX10_valueOf_160 ?_
    exact hrt v_atQ  (by unfold valF; first | (rw [if_pos (by omega)]) | (rw [if_neg (by omega), if_pos (by omega)]) | (rw [if_neg (by omega), if_neg (by omega), if_pos (by omega)]) | (rw [if_neg (by omega), if_neg (by omega), if_neg (by omega), if_pos (by omega)]) | (rw [if_neg (by omega), if_neg (by omega), if_neg (by omega), if_neg (by omega), if_pos (by omega)]) | (rw [if_neg (by omega), if_neg (by omega), if_neg (by omega), if_neg (by omega), if_neg (by omega), if_pos (by omega)]) | (rw [if_neg (by omega), if_neg (by omega), if_neg (by omega), if_neg (by omega), if_neg (by omega), if_neg (by omega), if_pos (by omega)]) | (rw [if_neg (by omega), if_neg (by omega), if_neg (by omega), if_neg (by omega), if_neg (by omega), if_neg (by omega), if_neg (by omega), if_pos (by omega)]) | (rw [if_neg (by omega), if_neg (by omega), if_neg (by omega), if_neg (by omega), if_neg (by omega), if_neg (by omega), if_neg (by omega), if_neg (by omega), if_pos (by omega)]) | (rw [if_neg (by omega), if_neg (by omega), if_neg (by omega), if_neg (by omega), if_neg (by omega), if_neg (by omega), if_neg (by omega), if_neg (by omega), if_neg (by omega)])) hP hD hS rfl dX10_valueOf_163
  · refine lv_tableIn (tgt := 159) (off := 158) hx hb dX10_valueOf_1 (by omega) (by omega) (by rw [c_1]; rfl) (by decide) ?_
    refine lv_aload_n hx hb dX10_valueOf_159 rfl (lv_at hl 0 rfl) ?_
    refine gt_MD_MD_atQ hx hb hts hown hK hP lwd_563 dX10_valueOf_160 ?_
    exact hrt v_atQ  (by unfold valF; first | (rw [if_pos (by omega)]) | (rw [if_neg (by omega), if_pos (by omega)]) | (rw [if_neg (by omega), if_neg (by omega), if_pos (by omega)]) | (rw [if_neg (by omega), if_neg (by omega), if_neg (by omega), if_pos (by omega)]) | (rw [if_neg (by omega), if_neg (by omega), if_neg (by omega), if_neg (by omega), if_pos (by omega)]) | (rw [if_neg (by omega), if_neg (by omega), if_neg (by omega), if_neg (by omega), if_neg (by omega), if_pos (by omega)]) | (rw [if_neg (by omega), if_neg (by omega), if_neg (by omega), if_neg (by omega), if_neg (by omega), if_neg (by omega), if_pos (by omega)]) | (rw [if_neg (by omega), if_neg (by omega), if_neg (by omega), if_neg (by omega), if_neg (by omega), if_neg (by omega), if_neg (by omega), if_pos (by omega)]) | (rw [if_neg (by omega), if_neg (by omega), if_neg (by omega), if_neg (by omega), if_neg (by omega), if_neg (by omega), if_neg (by omega), if_neg (by omega), if_pos (by omega)]) | (rw [if_neg (by omega), if_neg (by omega), if_neg (by omega), if_neg (by omega), if_neg (by omega), if_neg (by omega), if_neg (by omega), if_neg (by omega), if_neg (by omega)])) hP hD hS rfl dX10_valueOf_163
  · refine lv_tableIn (tgt := 139) (off := 138) hx hb dX10_valueOf_1 (by omega) (by omega) (by rw [c_1]; rfl) (by decide) ?_
    refine lv_aload_n hx hb dX10_valueOf_139 rfl (lv_at hl 0 rfl) ?_
    refine gt_MD_MD_atH hx hb hts hown hK hP lwd_560 dX10_valueOf_140 ?_
    exact hrt v_atH  (by unfold valF; first | (rw [if_pos (by omega)]) | (rw [if_neg (by omega), if_pos (by omega)]) | (rw [if_neg (by omega), if_neg (by omega), if_pos (by omega)]) | (rw [if_neg (by omega), if_neg (by omega), if_neg (by omega), if_pos (by omega)]) | (rw [if_neg (by omega), if_neg (by omega), if_neg (by omega), if_neg (by omega), if_pos (by omega)]) | (rw [if_neg (by omega), if_neg (by omega), if_neg (by omega), if_neg (by omega), if_neg (by omega), if_pos (by omega)]) | (rw [if_neg (by omega), if_neg (by omega), if_neg (by omega), if_neg (by omega), if_neg (by omega), if_neg (by omega), if_pos (by omega)]) | (rw [if_neg (by omega), if_neg (by omega), if_neg (by omega), if_neg (by omega), if_neg (by omega), if_neg (by omega), if_neg (by omega), if_pos (by omega)]) | (rw [if_neg (by omega), if_neg (by omega), if_neg (by omega), if_neg (by omega), if_neg (by omega), if_neg (by omega), if_neg (by omega), if_neg (by omega), if_pos (by omega)]) | (rw [if_neg (by omega), if_neg (by omega), if_neg (by omega), if_neg (by omega), if_neg (by omega), if_neg (by omega), if_neg (by omega), if_neg (by omega), if_neg (by omega)])) hP hD hS rfl dX10_valueOf_143
  · refine lv_tableIn (tgt := 149) (off := 148) hx hb dX10_valueOf_1 (by omega) (by omega) (by rw [c_1]; rfl) (by decide) ?_
    refine lv_aload_n hx hb dX10_valueOf_149 rfl (lv_at hl 0 rfl) ?_
    refine gt_MD_MD_atI hx hb hts hown hK hP lwd_562 dX10_valueOf_150 ?_
    exact hrt v_atI  (by unfold valF; first | (rw [if_pos (by omega)]) | (rw [if_neg (by omega), if_pos (by omega)]) | (rw [if_neg (by omega), if_neg (by omega), if_pos (by omega)]) | (rw [if_neg (by omega), if_neg (by omega), if_neg (by omega), if_pos (by omega)]) | (rw [if_neg (by omega), if_neg (by omega), if_neg (by omega), if_neg (by omega), if_pos (by omega)]) | (rw [if_neg (by omega), if_neg (by omega), if_neg (by omega), if_neg (by omega), if_neg (by omega), if_pos (by omega)]) | (rw [if_neg (by omega), if_neg (by omega), if_neg (by omega), if_neg (by omega), if_neg (by omega), if_neg (by omega), if_pos (by omega)]) | (rw [if_neg (by omega), if_neg (by omega), if_neg (by omega), if_neg (by omega), if_neg (by omega), if_neg (by omega), if_neg (by omega), if_pos (by omega)]) | (rw [if_neg (by omega), if_neg (by omega), if_neg (by omega), if_neg (by omega), if_neg (by omega), if_neg (by omega), if_neg (by omega), if_neg (by omega), if_pos (by omega)]) | (rw [if_neg (by omega), if_neg (by omega), if_neg (by omega), if_neg (by omega), if_neg (by omega), if_neg (by omega), if_neg (by omega), if_neg (by omega), if_neg (by omega)])) hP hD hS rfl dX10_valueOf_153
  · refine lv_tableIn (tgt := 159) (off := 158) hx hb dX10_valueOf_1 (by omega) (by omega) (by rw [c_1]; rfl) (by decide) ?_
    refine lv_aload_n hx hb dX10_valueOf_159 rfl (lv_at hl 0 rfl) ?_
    refine gt_MD_MD_atQ hx hb hts hown hK hP lwd_563 dX10_valueOf_160 ?_
    exact hrt v_atQ  (by unfold valF; first | (rw [if_pos (by omega)]) | (rw [if_neg (by omega), if_pos (by omega)]) | (rw [if_neg (by omega), if_neg (by omega), if_pos (by omega)]) | (rw [if_neg (by omega), if_neg (by omega), if_neg (by omega), if_pos (by omega)]) | (rw [if_neg (by omega), if_neg (by omega), if_neg (by omega), if_neg (by omega), if_pos (by omega)]) | (rw [if_neg (by omega), if_neg (by omega), if_neg (by omega), if_neg (by omega), if_neg (by omega), if_pos (by omega)]) | (rw [if_neg (by omega), if_neg (by omega), if_neg (by omega), if_neg (by omega), if_neg (by omega), if_neg (by omega), if_pos (by omega)]) | (rw [if_neg (by omega), if_neg (by omega), if_neg (by omega), if_neg (by omega), if_neg (by omega), if_neg (by omega), if_neg (by omega), if_pos (by omega)]) | (rw [if_neg (by omega), if_neg (by omega), if_neg (by omega), if_neg (by omega), if_neg (by omega), if_neg (by omega), if_neg (by omega), if_neg (by omega), if_pos (by omega)]) | (rw [if_neg (by omega), if_neg (by omega), if_neg (by omega), if_neg (by omega), if_neg (by omega), if_neg (by omega), if_neg (by omega), if_neg (by omega), if_neg (by omega)])) hP hD hS rfl dX10_valueOf_163
  · refine lv_tableIn (tgt := 109) (off := 108) hx hb dX10_valueOf_1 (by omega) (by omega) (by rw [c_1]; rfl) (by decide) ?_
    refine lv_aload_n hx hb dX10_valueOf_109 rfl (lv_at hl 0 rfl) ?_
    refine gt_MD_MD_knee hx hb hts hown hK hP lwd_157 dX10_valueOf_110 ?_
    refine lv_aload_n hx hb dX10_valueOf_113 rfl (lv_at hl 0 rfl) ?_
    refine gt_MD_MD_atW hx hb hts hown hK hP lwd_557 dX10_valueOf_114 ?_
    refine al_m_knee hx hb hK hP (i_in (rfl : v_atW.toInt = v_atW.toInt) (by omega) (by omega)) dX10_valueOf_117 (fun n_3 en_3 => ?_)
    exact hrt n_3  (by unfold valF; first | (rw [if_pos (by omega)]; exact en_3) | (rw [if_neg (by omega), if_pos (by omega)]; exact en_3) | (rw [if_neg (by omega), if_neg (by omega), if_pos (by omega)]; exact en_3) | (rw [if_neg (by omega), if_neg (by omega), if_neg (by omega), if_pos (by omega)]; exact en_3) | (rw [if_neg (by omega), if_neg (by omega), if_neg (by omega), if_neg (by omega), if_pos (by omega)]; exact en_3) | (rw [if_neg (by omega), if_neg (by omega), if_neg (by omega), if_neg (by omega), if_neg (by omega), if_pos (by omega)]; exact en_3) | (rw [if_neg (by omega), if_neg (by omega), if_neg (by omega), if_neg (by omega), if_neg (by omega), if_neg (by omega), if_pos (by omega)]; exact en_3) | (rw [if_neg (by omega), if_neg (by omega), if_neg (by omega), if_neg (by omega), if_neg (by omega), if_neg (by omega), if_neg (by omega), if_pos (by omega)]; exact en_3) | (rw [if_neg (by omega), if_neg (by omega), if_neg (by omega), if_neg (by omega), if_neg (by omega), if_neg (by omega), if_neg (by omega), if_neg (by omega), if_pos (by omega)]; exact en_3) | (rw [if_neg (by omega), if_neg (by omega), if_neg (by omega), if_neg (by omega), if_neg (by omega), if_neg (by omega), if_neg (by omega), if_neg (by omega), if_neg (by omega)]; exact en_3)) hP hD hS rfl dX10_valueOf_118
  · refine lv_tableIn (tgt := 129) (off := 128) hx hb dX10_valueOf_1 (by omega) (by omega) (by rw [c_1]; rfl) (by decide) ?_
    refine lv_aload_n hx hb dX10_valueOf_129 rfl (lv_at hl 0 rfl) ?_
    refine gt_MD_MD_atL hx hb hts hown hK hP lwd_558 dX10_valueOf_130 ?_
    exact hrt v_atL  (by unfold valF; first | (rw [if_pos (by omega)]) | (rw [if_neg (by omega), if_pos (by omega)]) | (rw [if_neg (by omega), if_neg (by omega), if_pos (by omega)]) | (rw [if_neg (by omega), if_neg (by omega), if_neg (by omega), if_pos (by omega)]) | (rw [if_neg (by omega), if_neg (by omega), if_neg (by omega), if_neg (by omega), if_pos (by omega)]) | (rw [if_neg (by omega), if_neg (by omega), if_neg (by omega), if_neg (by omega), if_neg (by omega), if_pos (by omega)]) | (rw [if_neg (by omega), if_neg (by omega), if_neg (by omega), if_neg (by omega), if_neg (by omega), if_neg (by omega), if_pos (by omega)]) | (rw [if_neg (by omega), if_neg (by omega), if_neg (by omega), if_neg (by omega), if_neg (by omega), if_neg (by omega), if_neg (by omega), if_pos (by omega)]) | (rw [if_neg (by omega), if_neg (by omega), if_neg (by omega), if_neg (by omega), if_neg (by omega), if_neg (by omega), if_neg (by omega), if_neg (by omega), if_pos (by omega)]) | (rw [if_neg (by omega), if_neg (by omega), if_neg (by omega), if_neg (by omega), if_neg (by omega), if_neg (by omega), if_neg (by omega), if_neg (by omega), if_neg (by omega)])) hP hD hS rfl dX10_valueOf_133
  · refine lv_tableIn (tgt := 144) (off := 143) hx hb dX10_valueOf_1 (by omega) (by omega) (by rw [c_1]; rfl) (by decide) ?_
    refine lv_aload_n hx hb dX10_valueOf_144 rfl (lv_at hl 0 rfl) ?_
    refine gt_MD_MD_atM hx hb hts hown hK hP lwd_561 dX10_valueOf_145 ?_
    exact hrt v_atM  (by unfold valF; first | (rw [if_pos (by omega)]) | (rw [if_neg (by omega), if_pos (by omega)]) | (rw [if_neg (by omega), if_neg (by omega), if_pos (by omega)]) | (rw [if_neg (by omega), if_neg (by omega), if_neg (by omega), if_pos (by omega)]) | (rw [if_neg (by omega), if_neg (by omega), if_neg (by omega), if_neg (by omega), if_pos (by omega)]) | (rw [if_neg (by omega), if_neg (by omega), if_neg (by omega), if_neg (by omega), if_neg (by omega), if_pos (by omega)]) | (rw [if_neg (by omega), if_neg (by omega), if_neg (by omega), if_neg (by omega), if_neg (by omega), if_neg (by omega), if_pos (by omega)]) | (rw [if_neg (by omega), if_neg (by omega), if_neg (by omega), if_neg (by omega), if_neg (by omega), if_neg (by omega), if_neg (by omega), if_pos (by omega)]) | (rw [if_neg (by omega), if_neg (by omega), if_neg (by omega), if_neg (by omega), if_neg (by omega), if_neg (by omega), if_neg (by omega), if_neg (by omega), if_pos (by omega)]) | (rw [if_neg (by omega), if_neg (by omega), if_neg (by omega), if_neg (by omega), if_neg (by omega), if_neg (by omega), if_neg (by omega), if_neg (by omega), if_neg (by omega)])) hP hD hS rfl dX10_valueOf_148
  · refine lv_tableIn (tgt := 154) (off := 153) hx hb dX10_valueOf_1 (by omega) (by omega) (by rw [c_1]; rfl) (by decide) ?_
    refine lv_aload_n hx hb dX10_valueOf_154 rfl (lv_at hl 0 rfl) ?_
    refine gt_MD_MD_walkers hx hb hts hown hK hP lwd_221 dX10_valueOf_155 ?_
    exact hrt v_walkers  (by unfold valF; first | (rw [if_pos (by omega)]) | (rw [if_neg (by omega), if_pos (by omega)]) | (rw [if_neg (by omega), if_neg (by omega), if_pos (by omega)]) | (rw [if_neg (by omega), if_neg (by omega), if_neg (by omega), if_pos (by omega)]) | (rw [if_neg (by omega), if_neg (by omega), if_neg (by omega), if_neg (by omega), if_pos (by omega)]) | (rw [if_neg (by omega), if_neg (by omega), if_neg (by omega), if_neg (by omega), if_neg (by omega), if_pos (by omega)]) | (rw [if_neg (by omega), if_neg (by omega), if_neg (by omega), if_neg (by omega), if_neg (by omega), if_neg (by omega), if_pos (by omega)]) | (rw [if_neg (by omega), if_neg (by omega), if_neg (by omega), if_neg (by omega), if_neg (by omega), if_neg (by omega), if_neg (by omega), if_pos (by omega)]) | (rw [if_neg (by omega), if_neg (by omega), if_neg (by omega), if_neg (by omega), if_neg (by omega), if_neg (by omega), if_neg (by omega), if_neg (by omega), if_pos (by omega)]) | (rw [if_neg (by omega), if_neg (by omega), if_neg (by omega), if_neg (by omega), if_neg (by omega), if_neg (by omega), if_neg (by omega), if_neg (by omega), if_neg (by omega)])) hP hD hS rfl dX10_valueOf_158
  · refine lv_tableIn (tgt := 159) (off := 158) hx hb dX10_valueOf_1 (by omega) (by omega) (by rw [c_1]; rfl) (by decide) ?_
    refine lv_aload_n hx hb dX10_valueOf_159 rfl (lv_at hl 0 rfl) ?_
    refine gt_MD_MD_atQ hx hb hts hown hK hP lwd_563 dX10_valueOf_160 ?_
    exact hrt v_atQ  (by unfold valF; first | (rw [if_pos (by omega)]) | (rw [if_neg (by omega), if_pos (by omega)]) | (rw [if_neg (by omega), if_neg (by omega), if_pos (by omega)]) | (rw [if_neg (by omega), if_neg (by omega), if_neg (by omega), if_pos (by omega)]) | (rw [if_neg (by omega), if_neg (by omega), if_neg (by omega), if_neg (by omega), if_pos (by omega)]) | (rw [if_neg (by omega), if_neg (by omega), if_neg (by omega), if_neg (by omega), if_neg (by omega), if_pos (by omega)]) | (rw [if_neg (by omega), if_neg (by omega), if_neg (by omega), if_neg (by omega), if_neg (by omega), if_neg (by omega), if_pos (by omega)]) | (rw [if_neg (by omega), if_neg (by omega), if_neg (by omega), if_neg (by omega), if_neg (by omega), if_neg (by omega), if_neg (by omega), if_pos (by omega)]) | (rw [if_neg (by omega), if_neg (by omega), if_neg (by omega), if_neg (by omega), if_neg (by omega), if_neg (by omega), if_neg (by omega), if_neg (by omega), if_pos (by omega)]) | (rw [if_neg (by omega), if_neg (by omega), if_neg (by omega), if_neg (by omega), if_neg (by omega), if_neg (by omega), if_neg (by omega), if_neg (by omega), if_neg (by omega)])) hP hD hS rfl dX10_valueOf_163
  · refine lv_tableIn (tgt := 159) (off := 158) hx hb dX10_valueOf_1 (by omega) (by omega) (by rw [c_1]; rfl) (by decide) ?_
    refine lv_aload_n hx hb dX10_valueOf_159 rfl (lv_at hl 0 rfl) ?_
    refine gt_MD_MD_atQ hx hb hts hown hK hP lwd_563 dX10_valueOf_160 ?_
    exact hrt v_atQ  (by unfold valF; first | (rw [if_pos (by omega)]) | (rw [if_neg (by omega), if_pos (by omega)]) | (rw [if_neg (by omega), if_neg (by omega), if_pos (by omega)]) | (rw [if_neg (by omega), if_neg (by omega), if_neg (by omega), if_pos (by omega)]) | (rw [if_neg (by omega), if_neg (by omega), if_neg (by omega), if_neg (by omega), if_pos (by omega)]) | (rw [if_neg (by omega), if_neg (by omega), if_neg (by omega), if_neg (by omega), if_neg (by omega), if_pos (by omega)]) | (rw [if_neg (by omega), if_neg (by omega), if_neg (by omega), if_neg (by omega), if_neg (by omega), if_neg (by omega), if_pos (by omega)]) | (rw [if_neg (by omega), if_neg (by omega), if_neg (by omega), if_neg (by omega), if_neg (by omega), if_neg (by omega), if_neg (by omega), if_pos (by omega)]) | (rw [if_neg (by omega), if_neg (by omega), if_neg (by omega), if_neg (by omega), if_neg (by omega), if_neg (by omega), if_neg (by omega), if_neg (by omega), if_pos (by omega)]) | (rw [if_neg (by omega), if_neg (by omega), if_neg (by omega), if_neg (by omega), if_neg (by omega), if_neg (by omega), if_neg (by omega), if_neg (by omega), if_neg (by omega)])) hP hD hS rfl dX10_valueOf_163
  · refine lv_tableIn (tgt := 159) (off := 158) hx hb dX10_valueOf_1 (by omega) (by omega) (by rw [c_1]; rfl) (by decide) ?_
    refine lv_aload_n hx hb dX10_valueOf_159 rfl (lv_at hl 0 rfl) ?_
    refine gt_MD_MD_atQ hx hb hts hown hK hP lwd_563 dX10_valueOf_160 ?_
    exact hrt v_atQ  (by unfold valF; first | (rw [if_pos (by omega)]) | (rw [if_neg (by omega), if_pos (by omega)]) | (rw [if_neg (by omega), if_neg (by omega), if_pos (by omega)]) | (rw [if_neg (by omega), if_neg (by omega), if_neg (by omega), if_pos (by omega)]) | (rw [if_neg (by omega), if_neg (by omega), if_neg (by omega), if_neg (by omega), if_pos (by omega)]) | (rw [if_neg (by omega), if_neg (by omega), if_neg (by omega), if_neg (by omega), if_neg (by omega), if_pos (by omega)]) | (rw [if_neg (by omega), if_neg (by omega), if_neg (by omega), if_neg (by omega), if_neg (by omega), if_neg (by omega), if_pos (by omega)]) | (rw [if_neg (by omega), if_neg (by omega), if_neg (by omega), if_neg (by omega), if_neg (by omega), if_neg (by omega), if_neg (by omega), if_pos (by omega)]) | (rw [if_neg (by omega), if_neg (by omega), if_neg (by omega), if_neg (by omega), if_neg (by omega), if_neg (by omega), if_neg (by omega), if_neg (by omega), if_pos (by omega)]) | (rw [if_neg (by omega), if_neg (by omega), if_neg (by omega), if_neg (by omega), if_neg (by omega), if_neg (by omega), if_neg (by omega), if_neg (by omega), if_neg (by omega)])) hP hD hS rfl dX10_valueOf_163
  · refine lv_tableIn (tgt := 159) (off := 158) hx hb dX10_valueOf_1 (by omega) (by omega) (by rw [c_1]; rfl) (by decide) ?_
    refine lv_aload_n hx hb dX10_valueOf_159 rfl (lv_at hl 0 rfl) ?_
    refine gt_MD_MD_atQ hx hb hts hown hK hP lwd_563 dX10_valueOf_160 ?_
    exact hrt v_atQ  (by unfold valF; first | (rw [if_pos (by omega)]) | (rw [if_neg (by omega), if_pos (by omega)]) | (rw [if_neg (by omega), if_neg (by omega), if_pos (by omega)]) | (rw [if_neg (by omega), if_neg (by omega), if_neg (by omega), if_pos (by omega)]) | (rw [if_neg (by omega), if_neg (by omega), if_neg (by omega), if_neg (by omega), if_pos (by omega)]) | (rw [if_neg (by omega), if_neg (by omega), if_neg (by omega), if_neg (by omega), if_neg (by omega), if_pos (by omega)]) | (rw [if_neg (by omega), if_neg (by omega), if_neg (by omega), if_neg (by omega), if_neg (by omega), if_neg (by omega), if_pos (by omega)]) | (rw [if_neg (by omega), if_neg (by omega), if_neg (by omega), if_neg (by omega), if_neg (by omega), if_neg (by omega), if_neg (by omega), if_pos (by omega)]) | (rw [if_neg (by omega), if_neg (by omega), if_neg (by omega), if_neg (by omega), if_neg (by omega), if_neg (by omega), if_neg (by omega), if_neg (by omega), if_pos (by omega)]) | (rw [if_neg (by omega), if_neg (by omega), if_neg (by omega), if_neg (by omega), if_neg (by omega), if_neg (by omega), if_neg (by omega), if_neg (by omega), if_neg (by omega)])) hP hD hS rfl dX10_valueOf_163
  · refine lv_tableIn (tgt := 159) (off := 158) hx hb dX10_valueOf_1 (by omega) (by omega) (by rw [c_1]; rfl) (by decide) ?_
    refine lv_aload_n hx hb dX10_valueOf_159 rfl (lv_at hl 0 rfl) ?_
    refine gt_MD_MD_atQ hx hb hts hown hK hP lwd_563 dX10_valueOf_160 ?_
    exact hrt v_atQ  (by unfold valF; first | (rw [if_pos (by omega)]) | (rw [if_neg (by omega), if_pos (by omega)]) | (rw [if_neg (by omega), if_neg (by omega), if_pos (by omega)]) | (rw [if_neg (by omega), if_neg (by omega), if_neg (by omega), if_pos (by omega)]) | (rw [if_neg (by omega), if_neg (by omega), if_neg (by omega), if_neg (by omega), if_pos (by omega)]) | (rw [if_neg (by omega), if_neg (by omega), if_neg (by omega), if_neg (by omega), if_neg (by omega), if_pos (by omega)]) | (rw [if_neg (by omega), if_neg (by omega), if_neg (by omega), if_neg (by omega), if_neg (by omega), if_neg (by omega), if_pos (by omega)]) | (rw [if_neg (by omega), if_neg (by omega), if_neg (by omega), if_neg (by omega), if_neg (by omega), if_neg (by omega), if_neg (by omega), if_pos (by omega)]) | (rw [if_neg (by omega), if_neg (by omega), if_neg (by omega), if_neg (by omega), if_neg (by omega), if_neg (by omega), if_neg (by omega), if_neg (by omega), if_pos (by omega)]) | (rw [if_neg (by omega), if_neg (by omega), if_neg (by omega), if_neg (by omega), if_neg (by omega), if_neg (by omega), if_neg (by omega), if_neg (by omega), if_neg (by omega)])) hP hD hS rfl dX10_valueOf_163
  · refine lv_tableIn (tgt := 134) (off := 133) hx hb dX10_valueOf_1 (by omega) (by omega) (by rw [c_1]; rfl) (by decide) ?_
    refine lv_aload_n hx hb dX10_valueOf_134 rfl (lv_at hl 0 rfl) ?_
    refine gt_MD_MD_atT hx hb hts hown hK hP lwd_559 dX10_valueOf_135 ?_
    exact hrt v_atT  (by unfold valF; first | (rw [if_pos (by omega)]) | (rw [if_neg (by omega), if_pos (by omega)]) | (rw [if_neg (by omega), if_neg (by omega), if_pos (by omega)]) | (rw [if_neg (by omega), if_neg (by omega), if_neg (by omega), if_pos (by omega)]) | (rw [if_neg (by omega), if_neg (by omega), if_neg (by omega), if_neg (by omega), if_pos (by omega)]) | (rw [if_neg (by omega), if_neg (by omega), if_neg (by omega), if_neg (by omega), if_neg (by omega), if_pos (by omega)]) | (rw [if_neg (by omega), if_neg (by omega), if_neg (by omega), if_neg (by omega), if_neg (by omega), if_neg (by omega), if_pos (by omega)]) | (rw [if_neg (by omega), if_neg (by omega), if_neg (by omega), if_neg (by omega), if_neg (by omega), if_neg (by omega), if_neg (by omega), if_pos (by omega)]) | (rw [if_neg (by omega), if_neg (by omega), if_neg (by omega), if_neg (by omega), if_neg (by omega), if_neg (by omega), if_neg (by omega), if_neg (by omega), if_pos (by omega)]) | (rw [if_neg (by omega), if_neg (by omega), if_neg (by omega), if_neg (by omega), if_neg (by omega), if_neg (by omega), if_neg (by omega), if_neg (by omega), if_neg (by omega)])) hP hD hS rfl dX10_valueOf_138
  · refine lv_tableIn (tgt := 159) (off := 158) hx hb dX10_valueOf_1 (by omega) (by omega) (by rw [c_1]; rfl) (by decide) ?_
    refine lv_aload_n hx hb dX10_valueOf_159 rfl (lv_at hl 0 rfl) ?_
    refine gt_MD_MD_atQ hx hb hts hown hK hP lwd_563 dX10_valueOf_160 ?_
    exact hrt v_atQ  (by unfold valF; first | (rw [if_pos (by omega)]) | (rw [if_neg (by omega), if_pos (by omega)]) | (rw [if_neg (by omega), if_neg (by omega), if_pos (by omega)]) | (rw [if_neg (by omega), if_neg (by omega), if_neg (by omega), if_pos (by omega)]) | (rw [if_neg (by omega), if_neg (by omega), if_neg (by omega), if_neg (by omega), if_pos (by omega)]) | (rw [if_neg (by omega), if_neg (by omega), if_neg (by omega), if_neg (by omega), if_neg (by omega), if_pos (by omega)]) | (rw [if_neg (by omega), if_neg (by omega), if_neg (by omega), if_neg (by omega), if_neg (by omega), if_neg (by omega), if_pos (by omega)]) | (rw [if_neg (by omega), if_neg (by omega), if_neg (by omega), if_neg (by omega), if_neg (by omega), if_neg (by omega), if_neg (by omega), if_pos (by omega)]) | (rw [if_neg (by omega), if_neg (by omega), if_neg (by omega), if_neg (by omega), if_neg (by omega), if_neg (by omega), if_neg (by omega), if_neg (by omega), if_pos (by omega)]) | (rw [if_neg (by omega), if_neg (by omega), if_neg (by omega), if_neg (by omega), if_neg (by omega), if_neg (by omega), if_neg (by omega), if_neg (by omega), if_neg (by omega)])) hP hD hS rfl dX10_valueOf_163
  · refine lv_tableIn (tgt := 159) (off := 158) hx hb dX10_valueOf_1 (by omega) (by omega) (by rw [c_1]; rfl) (by decide) ?_
    refine lv_aload_n hx hb dX10_valueOf_159 rfl (lv_at hl 0 rfl) ?_
    refine gt_MD_MD_atQ hx hb hts hown hK hP lwd_563 dX10_valueOf_160 ?_
    exact hrt v_atQ  (by unfold valF; first | (rw [if_pos (by omega)]) | (rw [if_neg (by omega), if_pos (by omega)]) | (rw [if_neg (by omega), if_neg (by omega), if_pos (by omega)]) | (rw [if_neg (by omega), if_neg (by omega), if_neg (by omega), if_pos (by omega)]) | (rw [if_neg (by omega), if_neg (by omega), if_neg (by omega), if_neg (by omega), if_pos (by omega)]) | (rw [if_neg (by omega), if_neg (by omega), if_neg (by omega), if_neg (by omega), if_neg (by omega), if_pos (by omega)]) | (rw [if_neg (by omega), if_neg (by omega), if_neg (by omega), if_neg (by omega), if_neg (by omega), if_neg (by omega), if_pos (by omega)]) | (rw [if_neg (by omega), if_neg (by omega), if_neg (by omega), if_neg (by omega), if_neg (by omega), if_neg (by omega), if_neg (by omega), if_pos (by omega)]) | (rw [if_neg (by omega), if_neg (by omega), if_neg (by omega), if_neg (by omega), if_neg (by omega), if_neg (by omega), if_neg (by omega), if_neg (by omega), if_pos (by omega)]) | (rw [if_neg (by omega), if_neg (by omega), if_neg (by omega), if_neg (by omega), if_neg (by omega), if_neg (by omega), if_neg (by omega), if_neg (by omega), if_neg (by omega)])) hP hD hS rfl dX10_valueOf_163
  · refine lv_tableIn (tgt := 104) (off := 103) hx hb dX10_valueOf_1 (by omega) (by omega) (by rw [c_1]; rfl) (by decide) ?_
    refine lv_aload_n hx hb dX10_valueOf_104 rfl (lv_at hl 0 rfl) ?_
    refine gt_MD_MD_atW hx hb hts hown hK hP lwd_557 dX10_valueOf_105 ?_
    exact hrt v_atW  (by unfold valF; first | (rw [if_pos (by omega)]) | (rw [if_neg (by omega), if_pos (by omega)]) | (rw [if_neg (by omega), if_neg (by omega), if_pos (by omega)]) | (rw [if_neg (by omega), if_neg (by omega), if_neg (by omega), if_pos (by omega)]) | (rw [if_neg (by omega), if_neg (by omega), if_neg (by omega), if_neg (by omega), if_pos (by omega)]) | (rw [if_neg (by omega), if_neg (by omega), if_neg (by omega), if_neg (by omega), if_neg (by omega), if_pos (by omega)]) | (rw [if_neg (by omega), if_neg (by omega), if_neg (by omega), if_neg (by omega), if_neg (by omega), if_neg (by omega), if_pos (by omega)]) | (rw [if_neg (by omega), if_neg (by omega), if_neg (by omega), if_neg (by omega), if_neg (by omega), if_neg (by omega), if_neg (by omega), if_pos (by omega)]) | (rw [if_neg (by omega), if_neg (by omega), if_neg (by omega), if_neg (by omega), if_neg (by omega), if_neg (by omega), if_neg (by omega), if_neg (by omega), if_pos (by omega)]) | (rw [if_neg (by omega), if_neg (by omega), if_neg (by omega), if_neg (by omega), if_neg (by omega), if_neg (by omega), if_neg (by omega), if_neg (by omega), if_neg (by omega)])) hP hD hS rfl dX10_valueOf_108
set_option maxHeartbeats 16000000 in
set_option maxRecDepth 100000 in
theorem c_X10_worked (l : Launch) (D : va_G) (cy : Nat → ClassId) (hm : Nat → Nat) (v_taped v_walkers v_loads v_pieces v_changeCosts v_planned v_isMarch v_clauseMany v_place v_end v_bad v_clauses v_codes v_open v_stacked v_isOver v_isBehind v_atW v_atL v_atT v_atH v_atM v_atI v_atQ v_packing v_packed v_goPace v_goMinutes v_spentAt v_ranChanges : Int32) (f_m_tape f_m_knee f_m_weight f_m_isLame f_m_loadWeight f_m_owner f_m_food f_m_miles f_m_slope f_m_clauseLetter f_m_sumFrom f_m_codeFrom f_m_codeTo f_m_code f_m_codeArg f_m_newLetter f_m_newSum f_m_newFrom f_m_newTo f_m_newCode f_m_newArg f_m_stack f_m_worth f_m_isRefused f_m_least f_m_packPounds f_m_packOwner f_m_room f_m_givenTo f_m_canBe f_m_setPounds f_m_plainTime f_m_muleTime f_m_planTo f_m_march f_m_tired f_m_ranMinutes f_m_tiredAhead f_m_isReached f_m_toEnd f_m_upTo f_m_upNext f_m_byChanges f_m_bandPaces : Nat → Int32) (sz : Nat) (o : Int32) (x1 : Int32) (y1 : Int32) : gMi l yX10_worked cX10_worked 3 .int 1 [.int o, .int x1, .int y1] D cy (wMD cy hm v_taped v_walkers v_loads v_pieces v_changeCosts v_planned v_isMarch v_clauseMany v_place v_end v_bad v_clauses v_codes v_open v_stacked v_isOver v_isBehind v_atW v_atL v_atT v_atH v_atM v_atI v_atQ v_packing v_packed v_goPace v_goMinutes v_spentAt v_ranChanges f_m_tape f_m_knee f_m_weight f_m_isLame f_m_loadWeight f_m_owner f_m_food f_m_miles f_m_slope f_m_clauseLetter f_m_sumFrom f_m_codeFrom f_m_codeTo f_m_code f_m_codeArg f_m_newLetter f_m_newSum f_m_newFrom f_m_newTo f_m_newCode f_m_newArg f_m_stack f_m_worth f_m_isRefused f_m_least f_m_packPounds f_m_packOwner f_m_room f_m_givenTo f_m_canBe f_m_setPounds f_m_plainTime f_m_muleTime f_m_planTo f_m_march f_m_tired f_m_ranMinutes f_m_tiredAhead f_m_isReached f_m_toEnd f_m_upTo f_m_upNext f_m_byChanges f_m_bandPaces) NT sz (fun (r : Int32) (u : Unit) => (r = workedF o x1 y1)) (fun u => wMD cy hm v_taped v_walkers v_loads v_pieces v_changeCosts v_planned v_isMarch v_clauseMany v_place v_end v_bad v_clauses v_codes v_open v_stacked v_isOver v_isBehind v_atW v_atL v_atT v_atH v_atM v_atI v_atQ v_packing v_packed v_goPace v_goMinutes v_spentAt v_ranChanges f_m_tape f_m_knee f_m_weight f_m_isLame f_m_loadWeight f_m_owner f_m_food f_m_miles f_m_slope f_m_clauseLetter f_m_sumFrom f_m_codeFrom f_m_codeTo f_m_code f_m_codeArg f_m_newLetter f_m_newSum f_m_newFrom f_m_newTo f_m_newCode f_m_newArg f_m_stack f_m_worth f_m_isRefused f_m_least f_m_packPounds f_m_packOwner f_m_room f_m_givenTo f_m_canBe f_m_setPounds f_m_plainTime f_m_muleTime f_m_planTo f_m_march f_m_tired f_m_ranMinutes f_m_tiredAhead f_m_isReached f_m_toEnd f_m_upTo f_m_upNext f_m_byChanges f_m_bandPaces) := by
  refine gMi_in (by decide) (Nat.le_of_ble_eq_true rfl) ?_
  intro p e s m args below meth c A ls Q hx hb hml hts hown hsz hP hK hD hN hAe hA hS hl hret
  subst hsz
  have hl : lv_has ls 3 [(0, .int o), (1, .int x1), (2, .int y1)] := hl
  have hrt := fun (r : Int32)  (hp : (r = workedF o x1 y1)) {H : Heap} {locs : List Loc} {pc : Nat} {ls : Array Slot} => hret r () (H := H) (locs := locs) (pc := pc) (ls := ls) hp
  clear hret
  refine lv_iload_n hx hb dX10_worked_0 rfl (lv_at hl 0 rfl) ?_
  rcases (show o.toInt = 37 ∨ o.toInt = 42 ∨ o.toInt = 43 ∨ o.toInt = 45 ∨ o.toInt = 47 ∨ o.toInt = 60 ∨ o.toInt = 62 ∨ (o.toInt ≠ 37 ∧ o.toInt ≠ 42 ∧ o.toInt ≠ 43 ∧ o.toInt ≠ 45 ∧ o.toInt ≠ 47 ∧ o.toInt ≠ 60 ∧ o.toInt ≠ 62) by omega) with c_1 | c_1 | c_1 | c_1 | c_1 | c_1 | c_1 | c_1
  · refine lv_lookup (tgt := 92) (off := 91) hx hb dX10_worked_1 rfl (by rw [c_1]; rfl) (by decide) ?_
    refine lv_iload_n hx hb dX10_worked_92 rfl (lv_at hl 2 rfl) ?_
    refine lv_if_ne (tgt := 100) hx hb dX10_worked_93 (by decide) (fun c_2 => ?_) (fun c_2 => ?_)
    · have gc_2 : y1.toInt ≠ 0 := i_ne (rfl : y1.toInt = y1.toInt) (by decide : (0 : Int32).toInt = 0) c_2
      refine lv_iload_n hx hb dX10_worked_100 rfl (lv_at hl 1 rfl) ?_
      refine lv_iload_n hx hb dX10_worked_101 rfl (lv_at hl 2 rfl) ?_
      refine lv_irem hx hb dX10_worked_102 (i_nz (rfl : y1.toInt = y1.toInt) (by omega)) ?_
      refine lv_topi (fun n_3 en_3 => ?_)
      exact hrt n_3  (by unfold workedF; first | (rw [if_pos (by omega)]; first | exact en_3 | exact Eq.trans en_3 (if_neg (by omega)).symm) | (rw [if_neg (by omega), if_pos (by omega)]; first | exact en_3 | exact Eq.trans en_3 (if_neg (by omega)).symm) | (rw [if_neg (by omega), if_neg (by omega), if_pos (by omega)]; first | exact en_3 | exact Eq.trans en_3 (if_neg (by omega)).symm) | (rw [if_neg (by omega), if_neg (by omega), if_neg (by omega), if_pos (by omega)]; first | exact en_3 | exact Eq.trans en_3 (if_neg (by omega)).symm) | (rw [if_neg (by omega), if_neg (by omega), if_neg (by omega), if_neg (by omega), if_pos (by omega)]; first | exact en_3 | exact Eq.trans en_3 (if_neg (by omega)).symm) | (rw [if_neg (by omega), if_neg (by omega), if_neg (by omega), if_neg (by omega), if_neg (by omega), if_pos (by omega)]; first | exact en_3 | exact Eq.trans en_3 (if_neg (by omega)).symm) | (rw [if_neg (by omega), if_neg (by omega), if_neg (by omega), if_neg (by omega), if_neg (by omega), if_neg (by omega), if_pos (by omega)]; first | exact en_3 | exact Eq.trans en_3 (if_neg (by omega)).symm) | (rw [if_neg (by omega), if_neg (by omega), if_neg (by omega), if_neg (by omega), if_neg (by omega), if_neg (by omega), if_neg (by omega)]; first | exact en_3 | exact Eq.trans en_3 (if_neg (by omega)).symm)) hP hD hS rfl dX10_worked_103
    · have gc_2 : y1.toInt = 0 := i_eq (rfl : y1.toInt = y1.toInt) (by decide : (0 : Int32).toInt = 0) c_2
      refine lv_iconst (v := 0) hx hb dX10_worked_96 (by decide) ?_
      refine lv_goto (tgt := 103) hx hb dX10_worked_97 (by decide) ?_
      have k_4 : (0 : Int32).toInt = 0 := by decide
      exact hrt 0  (by unfold workedF; first | (rw [if_pos (by omega)]; first | exact (if_pos (by omega)).symm | exact (if_neg (by omega)).symm) | (rw [if_neg (by omega), if_pos (by omega)]; first | exact (if_pos (by omega)).symm | exact (if_neg (by omega)).symm) | (rw [if_neg (by omega), if_neg (by omega), if_pos (by omega)]; first | exact (if_pos (by omega)).symm | exact (if_neg (by omega)).symm) | (rw [if_neg (by omega), if_neg (by omega), if_neg (by omega), if_pos (by omega)]; first | exact (if_pos (by omega)).symm | exact (if_neg (by omega)).symm) | (rw [if_neg (by omega), if_neg (by omega), if_neg (by omega), if_neg (by omega), if_pos (by omega)]; first | exact (if_pos (by omega)).symm | exact (if_neg (by omega)).symm) | (rw [if_neg (by omega), if_neg (by omega), if_neg (by omega), if_neg (by omega), if_neg (by omega), if_pos (by omega)]; first | exact (if_pos (by omega)).symm | exact (if_neg (by omega)).symm) | (rw [if_neg (by omega), if_neg (by omega), if_neg (by omega), if_neg (by omega), if_neg (by omega), if_neg (by omega), if_pos (by omega)]; first | exact (if_pos (by omega)).symm | exact (if_neg (by omega)).symm) | (rw [if_neg (by omega), if_neg (by omega), if_neg (by omega), if_neg (by omega), if_neg (by omega), if_neg (by omega), if_neg (by omega)]; first | exact (if_pos (by omega)).symm | exact (if_neg (by omega)).symm)) hP hD hS rfl dX10_worked_103
  · refine lv_lookup (tgt := 76) (off := 75) hx hb dX10_worked_1 rfl (by rw [c_1]; rfl) (by decide) ?_
    refine lv_iload_n hx hb dX10_worked_76 rfl (lv_at hl 1 rfl) ?_
    refine lv_iload_n hx hb dX10_worked_77 rfl (lv_at hl 2 rfl) ?_
    refine lv_imul hx hb dX10_worked_78 ?_
    refine lv_topi (fun n_5 en_5 => ?_)
    exact hrt n_5  (by unfold workedF; first | (rw [if_pos (by omega)]; first | exact en_5 | exact Eq.trans en_5 (if_neg (by omega)).symm) | (rw [if_neg (by omega), if_pos (by omega)]; first | exact en_5 | exact Eq.trans en_5 (if_neg (by omega)).symm) | (rw [if_neg (by omega), if_neg (by omega), if_pos (by omega)]; first | exact en_5 | exact Eq.trans en_5 (if_neg (by omega)).symm) | (rw [if_neg (by omega), if_neg (by omega), if_neg (by omega), if_pos (by omega)]; first | exact en_5 | exact Eq.trans en_5 (if_neg (by omega)).symm) | (rw [if_neg (by omega), if_neg (by omega), if_neg (by omega), if_neg (by omega), if_pos (by omega)]; first | exact en_5 | exact Eq.trans en_5 (if_neg (by omega)).symm) | (rw [if_neg (by omega), if_neg (by omega), if_neg (by omega), if_neg (by omega), if_neg (by omega), if_pos (by omega)]; first | exact en_5 | exact Eq.trans en_5 (if_neg (by omega)).symm) | (rw [if_neg (by omega), if_neg (by omega), if_neg (by omega), if_neg (by omega), if_neg (by omega), if_neg (by omega), if_pos (by omega)]; first | exact en_5 | exact Eq.trans en_5 (if_neg (by omega)).symm) | (rw [if_neg (by omega), if_neg (by omega), if_neg (by omega), if_neg (by omega), if_neg (by omega), if_neg (by omega), if_neg (by omega)]; first | exact en_5 | exact Eq.trans en_5 (if_neg (by omega)).symm)) hP hD hS rfl dX10_worked_79
  · refine lv_lookup (tgt := 68) (off := 67) hx hb dX10_worked_1 rfl (by rw [c_1]; rfl) (by decide) ?_
    refine lv_iload_n hx hb dX10_worked_68 rfl (lv_at hl 1 rfl) ?_
    refine lv_iload_n hx hb dX10_worked_69 rfl (lv_at hl 2 rfl) ?_
    refine lv_iadd hx hb dX10_worked_70 ?_
    refine lv_topi (fun n_6 en_6 => ?_)
    exact hrt n_6  (by unfold workedF; first | (rw [if_pos (by omega)]; first | exact en_6 | exact Eq.trans en_6 (if_neg (by omega)).symm) | (rw [if_neg (by omega), if_pos (by omega)]; first | exact en_6 | exact Eq.trans en_6 (if_neg (by omega)).symm) | (rw [if_neg (by omega), if_neg (by omega), if_pos (by omega)]; first | exact en_6 | exact Eq.trans en_6 (if_neg (by omega)).symm) | (rw [if_neg (by omega), if_neg (by omega), if_neg (by omega), if_pos (by omega)]; first | exact en_6 | exact Eq.trans en_6 (if_neg (by omega)).symm) | (rw [if_neg (by omega), if_neg (by omega), if_neg (by omega), if_neg (by omega), if_pos (by omega)]; first | exact en_6 | exact Eq.trans en_6 (if_neg (by omega)).symm) | (rw [if_neg (by omega), if_neg (by omega), if_neg (by omega), if_neg (by omega), if_neg (by omega), if_pos (by omega)]; first | exact en_6 | exact Eq.trans en_6 (if_neg (by omega)).symm) | (rw [if_neg (by omega), if_neg (by omega), if_neg (by omega), if_neg (by omega), if_neg (by omega), if_neg (by omega), if_pos (by omega)]; first | exact en_6 | exact Eq.trans en_6 (if_neg (by omega)).symm) | (rw [if_neg (by omega), if_neg (by omega), if_neg (by omega), if_neg (by omega), if_neg (by omega), if_neg (by omega), if_neg (by omega)]; first | exact en_6 | exact Eq.trans en_6 (if_neg (by omega)).symm)) hP hD hS rfl dX10_worked_71
  · refine lv_lookup (tgt := 72) (off := 71) hx hb dX10_worked_1 rfl (by rw [c_1]; rfl) (by decide) ?_
    refine lv_iload_n hx hb dX10_worked_72 rfl (lv_at hl 1 rfl) ?_
    refine lv_iload_n hx hb dX10_worked_73 rfl (lv_at hl 2 rfl) ?_
    refine lv_isub hx hb dX10_worked_74 ?_
    refine lv_topi (fun n_7 en_7 => ?_)
    exact hrt n_7  (by unfold workedF; first | (rw [if_pos (by omega)]; first | exact en_7 | exact Eq.trans en_7 (if_neg (by omega)).symm) | (rw [if_neg (by omega), if_pos (by omega)]; first | exact en_7 | exact Eq.trans en_7 (if_neg (by omega)).symm) | (rw [if_neg (by omega), if_neg (by omega), if_pos (by omega)]; first | exact en_7 | exact Eq.trans en_7 (if_neg (by omega)).symm) | (rw [if_neg (by omega), if_neg (by omega), if_neg (by omega), if_pos (by omega)]; first | exact en_7 | exact Eq.trans en_7 (if_neg (by omega)).symm) | (rw [if_neg (by omega), if_neg (by omega), if_neg (by omega), if_neg (by omega), if_pos (by omega)]; first | exact en_7 | exact Eq.trans en_7 (if_neg (by omega)).symm) | (rw [if_neg (by omega), if_neg (by omega), if_neg (by omega), if_neg (by omega), if_neg (by omega), if_pos (by omega)]; first | exact en_7 | exact Eq.trans en_7 (if_neg (by omega)).symm) | (rw [if_neg (by omega), if_neg (by omega), if_neg (by omega), if_neg (by omega), if_neg (by omega), if_neg (by omega), if_pos (by omega)]; first | exact en_7 | exact Eq.trans en_7 (if_neg (by omega)).symm) | (rw [if_neg (by omega), if_neg (by omega), if_neg (by omega), if_neg (by omega), if_neg (by omega), if_neg (by omega), if_neg (by omega)]; first | exact en_7 | exact Eq.trans en_7 (if_neg (by omega)).symm)) hP hD hS rfl dX10_worked_75
  · refine lv_lookup (tgt := 80) (off := 79) hx hb dX10_worked_1 rfl (by rw [c_1]; rfl) (by decide) ?_
    refine lv_iload_n hx hb dX10_worked_80 rfl (lv_at hl 2 rfl) ?_
    refine lv_if_ne (tgt := 88) hx hb dX10_worked_81 (by decide) (fun c_8 => ?_) (fun c_8 => ?_)
    · have gc_8 : y1.toInt ≠ 0 := i_ne (rfl : y1.toInt = y1.toInt) (by decide : (0 : Int32).toInt = 0) c_8
      refine lv_iload_n hx hb dX10_worked_88 rfl (lv_at hl 1 rfl) ?_
      refine lv_iload_n hx hb dX10_worked_89 rfl (lv_at hl 2 rfl) ?_
      refine lv_idiv hx hb dX10_worked_90 (i_nz (rfl : y1.toInt = y1.toInt) (by omega)) ?_
      refine lv_topi (fun n_9 en_9 => ?_)
      exact hrt n_9  (by unfold workedF; first | (rw [if_pos (by omega)]; first | exact en_9 | exact Eq.trans en_9 (if_neg (by omega)).symm) | (rw [if_neg (by omega), if_pos (by omega)]; first | exact en_9 | exact Eq.trans en_9 (if_neg (by omega)).symm) | (rw [if_neg (by omega), if_neg (by omega), if_pos (by omega)]; first | exact en_9 | exact Eq.trans en_9 (if_neg (by omega)).symm) | (rw [if_neg (by omega), if_neg (by omega), if_neg (by omega), if_pos (by omega)]; first | exact en_9 | exact Eq.trans en_9 (if_neg (by omega)).symm) | (rw [if_neg (by omega), if_neg (by omega), if_neg (by omega), if_neg (by omega), if_pos (by omega)]; first | exact en_9 | exact Eq.trans en_9 (if_neg (by omega)).symm) | (rw [if_neg (by omega), if_neg (by omega), if_neg (by omega), if_neg (by omega), if_neg (by omega), if_pos (by omega)]; first | exact en_9 | exact Eq.trans en_9 (if_neg (by omega)).symm) | (rw [if_neg (by omega), if_neg (by omega), if_neg (by omega), if_neg (by omega), if_neg (by omega), if_neg (by omega), if_pos (by omega)]; first | exact en_9 | exact Eq.trans en_9 (if_neg (by omega)).symm) | (rw [if_neg (by omega), if_neg (by omega), if_neg (by omega), if_neg (by omega), if_neg (by omega), if_neg (by omega), if_neg (by omega)]; first | exact en_9 | exact Eq.trans en_9 (if_neg (by omega)).symm)) hP hD hS rfl dX10_worked_91
    · have gc_8 : y1.toInt = 0 := i_eq (rfl : y1.toInt = y1.toInt) (by decide : (0 : Int32).toInt = 0) c_8
      refine lv_iconst (v := 0) hx hb dX10_worked_84 (by decide) ?_
      refine lv_goto (tgt := 91) hx hb dX10_worked_85 (by decide) ?_
      have k_10 : (0 : Int32).toInt = 0 := by decide
      exact hrt 0  (by unfold workedF; first | (rw [if_pos (by omega)]; first | exact (if_pos (by omega)).symm | exact (if_neg (by omega)).symm) | (rw [if_neg (by omega), if_pos (by omega)]; first | exact (if_pos (by omega)).symm | exact (if_neg (by omega)).symm) | (rw [if_neg (by omega), if_neg (by omega), if_pos (by omega)]; first | exact (if_pos (by omega)).symm | exact (if_neg (by omega)).symm) | (rw [if_neg (by omega), if_neg (by omega), if_neg (by omega), if_pos (by omega)]; first | exact (if_pos (by omega)).symm | exact (if_neg (by omega)).symm) | (rw [if_neg (by omega), if_neg (by omega), if_neg (by omega), if_neg (by omega), if_pos (by omega)]; first | exact (if_pos (by omega)).symm | exact (if_neg (by omega)).symm) | (rw [if_neg (by omega), if_neg (by omega), if_neg (by omega), if_neg (by omega), if_neg (by omega), if_pos (by omega)]; first | exact (if_pos (by omega)).symm | exact (if_neg (by omega)).symm) | (rw [if_neg (by omega), if_neg (by omega), if_neg (by omega), if_neg (by omega), if_neg (by omega), if_neg (by omega), if_pos (by omega)]; first | exact (if_pos (by omega)).symm | exact (if_neg (by omega)).symm) | (rw [if_neg (by omega), if_neg (by omega), if_neg (by omega), if_neg (by omega), if_neg (by omega), if_neg (by omega), if_neg (by omega)]; first | exact (if_pos (by omega)).symm | exact (if_neg (by omega)).symm)) hP hD hS rfl dX10_worked_91
  · refine lv_lookup (tgt := 104) (off := 103) hx hb dX10_worked_1 rfl (by rw [c_1]; rfl) (by decide) ?_
    refine lv_iload_n hx hb dX10_worked_104 rfl (lv_at hl 1 rfl) ?_
    refine lv_iload_n hx hb dX10_worked_105 rfl (lv_at hl 2 rfl) ?_
    refine lv_icmp_ge (tgt := 113) hx hb dX10_worked_106 (by decide) (fun c_11 => ?_) (fun c_11 => ?_)
    · have gc_11 : y1.toInt ≤ x1.toInt := i_le (rfl : y1.toInt = y1.toInt) (rfl : x1.toInt = x1.toInt) c_11
      refine lv_iconst (v := 0) hx hb dX10_worked_113 (by decide) ?_
      have k_12 : (0 : Int32).toInt = 0 := by decide
      exact hrt 0  (by unfold workedF; first | (rw [if_pos (by omega)]; first | exact (if_pos (by omega)).symm | exact (if_neg (by omega)).symm) | (rw [if_neg (by omega), if_pos (by omega)]; first | exact (if_pos (by omega)).symm | exact (if_neg (by omega)).symm) | (rw [if_neg (by omega), if_neg (by omega), if_pos (by omega)]; first | exact (if_pos (by omega)).symm | exact (if_neg (by omega)).symm) | (rw [if_neg (by omega), if_neg (by omega), if_neg (by omega), if_pos (by omega)]; first | exact (if_pos (by omega)).symm | exact (if_neg (by omega)).symm) | (rw [if_neg (by omega), if_neg (by omega), if_neg (by omega), if_neg (by omega), if_pos (by omega)]; first | exact (if_pos (by omega)).symm | exact (if_neg (by omega)).symm) | (rw [if_neg (by omega), if_neg (by omega), if_neg (by omega), if_neg (by omega), if_neg (by omega), if_pos (by omega)]; first | exact (if_pos (by omega)).symm | exact (if_neg (by omega)).symm) | (rw [if_neg (by omega), if_neg (by omega), if_neg (by omega), if_neg (by omega), if_neg (by omega), if_neg (by omega), if_pos (by omega)]; first | exact (if_pos (by omega)).symm | exact (if_neg (by omega)).symm) | (rw [if_neg (by omega), if_neg (by omega), if_neg (by omega), if_neg (by omega), if_neg (by omega), if_neg (by omega), if_neg (by omega)]; first | exact (if_pos (by omega)).symm | exact (if_neg (by omega)).symm)) hP hD hS rfl dX10_worked_114
    · have gc_11 : x1.toInt < y1.toInt := i_nle (rfl : y1.toInt = y1.toInt) (rfl : x1.toInt = x1.toInt) c_11
      refine lv_iconst (v := 1) hx hb dX10_worked_109 (by decide) ?_
      refine lv_goto (tgt := 114) hx hb dX10_worked_110 (by decide) ?_
      have k_13 : (1 : Int32).toInt = 1 := by decide
      exact hrt 1  (by unfold workedF; first | (rw [if_pos (by omega)]; first | exact (if_pos (by omega)).symm | exact (if_neg (by omega)).symm) | (rw [if_neg (by omega), if_pos (by omega)]; first | exact (if_pos (by omega)).symm | exact (if_neg (by omega)).symm) | (rw [if_neg (by omega), if_neg (by omega), if_pos (by omega)]; first | exact (if_pos (by omega)).symm | exact (if_neg (by omega)).symm) | (rw [if_neg (by omega), if_neg (by omega), if_neg (by omega), if_pos (by omega)]; first | exact (if_pos (by omega)).symm | exact (if_neg (by omega)).symm) | (rw [if_neg (by omega), if_neg (by omega), if_neg (by omega), if_neg (by omega), if_pos (by omega)]; first | exact (if_pos (by omega)).symm | exact (if_neg (by omega)).symm) | (rw [if_neg (by omega), if_neg (by omega), if_neg (by omega), if_neg (by omega), if_neg (by omega), if_pos (by omega)]; first | exact (if_pos (by omega)).symm | exact (if_neg (by omega)).symm) | (rw [if_neg (by omega), if_neg (by omega), if_neg (by omega), if_neg (by omega), if_neg (by omega), if_neg (by omega), if_pos (by omega)]; first | exact (if_pos (by omega)).symm | exact (if_neg (by omega)).symm) | (rw [if_neg (by omega), if_neg (by omega), if_neg (by omega), if_neg (by omega), if_neg (by omega), if_neg (by omega), if_neg (by omega)]; first | exact (if_pos (by omega)).symm | exact (if_neg (by omega)).symm)) hP hD hS rfl dX10_worked_114
  · refine lv_lookup (tgt := 115) (off := 114) hx hb dX10_worked_1 rfl (by rw [c_1]; rfl) (by decide) ?_
    refine lv_iload_n hx hb dX10_worked_115 rfl (lv_at hl 1 rfl) ?_
    refine lv_iload_n hx hb dX10_worked_116 rfl (lv_at hl 2 rfl) ?_
    refine lv_icmp_le (tgt := 124) hx hb dX10_worked_117 (by decide) (fun c_14 => ?_) (fun c_14 => ?_)
    · have gc_14 : x1.toInt ≤ y1.toInt := i_le (rfl : x1.toInt = x1.toInt) (rfl : y1.toInt = y1.toInt) c_14
      refine lv_iconst (v := 0) hx hb dX10_worked_124 (by decide) ?_
      have k_15 : (0 : Int32).toInt = 0 := by decide
      exact hrt 0  (by unfold workedF; first | (rw [if_pos (by omega)]; first | exact (if_pos (by omega)).symm | exact (if_neg (by omega)).symm) | (rw [if_neg (by omega), if_pos (by omega)]; first | exact (if_pos (by omega)).symm | exact (if_neg (by omega)).symm) | (rw [if_neg (by omega), if_neg (by omega), if_pos (by omega)]; first | exact (if_pos (by omega)).symm | exact (if_neg (by omega)).symm) | (rw [if_neg (by omega), if_neg (by omega), if_neg (by omega), if_pos (by omega)]; first | exact (if_pos (by omega)).symm | exact (if_neg (by omega)).symm) | (rw [if_neg (by omega), if_neg (by omega), if_neg (by omega), if_neg (by omega), if_pos (by omega)]; first | exact (if_pos (by omega)).symm | exact (if_neg (by omega)).symm) | (rw [if_neg (by omega), if_neg (by omega), if_neg (by omega), if_neg (by omega), if_neg (by omega), if_pos (by omega)]; first | exact (if_pos (by omega)).symm | exact (if_neg (by omega)).symm) | (rw [if_neg (by omega), if_neg (by omega), if_neg (by omega), if_neg (by omega), if_neg (by omega), if_neg (by omega), if_pos (by omega)]; first | exact (if_pos (by omega)).symm | exact (if_neg (by omega)).symm) | (rw [if_neg (by omega), if_neg (by omega), if_neg (by omega), if_neg (by omega), if_neg (by omega), if_neg (by omega), if_neg (by omega)]; first | exact (if_pos (by omega)).symm | exact (if_neg (by omega)).symm)) hP hD hS rfl dX10_worked_125
    · have gc_14 : y1.toInt < x1.toInt := i_nle (rfl : x1.toInt = x1.toInt) (rfl : y1.toInt = y1.toInt) c_14
      refine lv_iconst (v := 1) hx hb dX10_worked_120 (by decide) ?_
      refine lv_goto (tgt := 125) hx hb dX10_worked_121 (by decide) ?_
      have k_16 : (1 : Int32).toInt = 1 := by decide
      exact hrt 1  (by unfold workedF; first | (rw [if_pos (by omega)]; first | exact (if_pos (by omega)).symm | exact (if_neg (by omega)).symm) | (rw [if_neg (by omega), if_pos (by omega)]; first | exact (if_pos (by omega)).symm | exact (if_neg (by omega)).symm) | (rw [if_neg (by omega), if_neg (by omega), if_pos (by omega)]; first | exact (if_pos (by omega)).symm | exact (if_neg (by omega)).symm) | (rw [if_neg (by omega), if_neg (by omega), if_neg (by omega), if_pos (by omega)]; first | exact (if_pos (by omega)).symm | exact (if_neg (by omega)).symm) | (rw [if_neg (by omega), if_neg (by omega), if_neg (by omega), if_neg (by omega), if_pos (by omega)]; first | exact (if_pos (by omega)).symm | exact (if_neg (by omega)).symm) | (rw [if_neg (by omega), if_neg (by omega), if_neg (by omega), if_neg (by omega), if_neg (by omega), if_pos (by omega)]; first | exact (if_pos (by omega)).symm | exact (if_neg (by omega)).symm) | (rw [if_neg (by omega), if_neg (by omega), if_neg (by omega), if_neg (by omega), if_neg (by omega), if_neg (by omega), if_pos (by omega)]; first | exact (if_pos (by omega)).symm | exact (if_neg (by omega)).symm) | (rw [if_neg (by omega), if_neg (by omega), if_neg (by omega), if_neg (by omega), if_neg (by omega), if_neg (by omega), if_neg (by omega)]; first | exact (if_pos (by omega)).symm | exact (if_neg (by omega)).symm)) hP hD hS rfl dX10_worked_125
  · refine lv_lookup (tgt := 126) (off := 125) hx hb dX10_worked_1 rfl (lk_neg (by omega) (lk_neg (by omega) (lk_neg (by omega) (lk_neg (by omega) (lk_neg (by omega) (lk_neg (by omega) (lk_neg (by omega) rfl))))))) (by decide) ?_
    refine lv_iload_n hx hb dX10_worked_126 rfl (lv_at hl 1 rfl) ?_
    refine lv_iload_n hx hb dX10_worked_127 rfl (lv_at hl 2 rfl) ?_
    refine lv_icmp_ne (tgt := 135) hx hb dX10_worked_128 (by decide) (fun c_17 => ?_) (fun c_17 => ?_)
    · have gc_17 : x1.toInt ≠ y1.toInt := i_ne (rfl : x1.toInt = x1.toInt) (rfl : y1.toInt = y1.toInt) c_17
      refine lv_iconst (v := 0) hx hb dX10_worked_135 (by decide) ?_
      have k_18 : (0 : Int32).toInt = 0 := by decide
      exact hrt 0  (by unfold workedF; first | (rw [if_pos (by omega)]; first | exact (if_pos (by omega)).symm | exact (if_neg (by omega)).symm) | (rw [if_neg (by omega), if_pos (by omega)]; first | exact (if_pos (by omega)).symm | exact (if_neg (by omega)).symm) | (rw [if_neg (by omega), if_neg (by omega), if_pos (by omega)]; first | exact (if_pos (by omega)).symm | exact (if_neg (by omega)).symm) | (rw [if_neg (by omega), if_neg (by omega), if_neg (by omega), if_pos (by omega)]; first | exact (if_pos (by omega)).symm | exact (if_neg (by omega)).symm) | (rw [if_neg (by omega), if_neg (by omega), if_neg (by omega), if_neg (by omega), if_pos (by omega)]; first | exact (if_pos (by omega)).symm | exact (if_neg (by omega)).symm) | (rw [if_neg (by omega), if_neg (by omega), if_neg (by omega), if_neg (by omega), if_neg (by omega), if_pos (by omega)]; first | exact (if_pos (by omega)).symm | exact (if_neg (by omega)).symm) | (rw [if_neg (by omega), if_neg (by omega), if_neg (by omega), if_neg (by omega), if_neg (by omega), if_neg (by omega), if_pos (by omega)]; first | exact (if_pos (by omega)).symm | exact (if_neg (by omega)).symm) | (rw [if_neg (by omega), if_neg (by omega), if_neg (by omega), if_neg (by omega), if_neg (by omega), if_neg (by omega), if_neg (by omega)]; first | exact (if_pos (by omega)).symm | exact (if_neg (by omega)).symm)) hP hD hS rfl dX10_worked_136
    · have gc_17 : x1.toInt = y1.toInt := i_eq (rfl : x1.toInt = x1.toInt) (rfl : y1.toInt = y1.toInt) c_17
      refine lv_iconst (v := 1) hx hb dX10_worked_131 (by decide) ?_
      refine lv_goto (tgt := 136) hx hb dX10_worked_132 (by decide) ?_
      have k_19 : (1 : Int32).toInt = 1 := by decide
      exact hrt 1  (by unfold workedF; first | (rw [if_pos (by omega)]; first | exact (if_pos (by omega)).symm | exact (if_neg (by omega)).symm) | (rw [if_neg (by omega), if_pos (by omega)]; first | exact (if_pos (by omega)).symm | exact (if_neg (by omega)).symm) | (rw [if_neg (by omega), if_neg (by omega), if_pos (by omega)]; first | exact (if_pos (by omega)).symm | exact (if_neg (by omega)).symm) | (rw [if_neg (by omega), if_neg (by omega), if_neg (by omega), if_pos (by omega)]; first | exact (if_pos (by omega)).symm | exact (if_neg (by omega)).symm) | (rw [if_neg (by omega), if_neg (by omega), if_neg (by omega), if_neg (by omega), if_pos (by omega)]; first | exact (if_pos (by omega)).symm | exact (if_neg (by omega)).symm) | (rw [if_neg (by omega), if_neg (by omega), if_neg (by omega), if_neg (by omega), if_neg (by omega), if_pos (by omega)]; first | exact (if_pos (by omega)).symm | exact (if_neg (by omega)).symm) | (rw [if_neg (by omega), if_neg (by omega), if_neg (by omega), if_neg (by omega), if_neg (by omega), if_neg (by omega), if_pos (by omega)]; first | exact (if_pos (by omega)).symm | exact (if_neg (by omega)).symm) | (rw [if_neg (by omega), if_neg (by omega), if_neg (by omega), if_neg (by omega), if_neg (by omega), if_neg (by omega), if_neg (by omega)]; first | exact (if_pos (by omega)).symm | exact (if_neg (by omega)).symm)) hP hD hS rfl dX10_worked_136
set_option maxHeartbeats 16000000 in
set_option maxRecDepth 100000 in
theorem c_X10_does (l : Launch) (D : va_G) (cy : Nat → ClassId) (hm : Nat → Nat) (v_taped v_walkers v_loads v_pieces v_changeCosts v_planned v_isMarch v_clauseMany v_place v_end v_bad v_clauses v_codes v_open v_stacked v_isOver v_isBehind v_atW v_atL v_atT v_atH v_atM v_atI v_atQ v_packing v_packed v_goPace v_goMinutes v_spentAt v_ranChanges : Int32) (f_m_tape f_m_knee f_m_weight f_m_isLame f_m_loadWeight f_m_owner f_m_food f_m_miles f_m_slope f_m_clauseLetter f_m_sumFrom f_m_codeFrom f_m_codeTo f_m_code f_m_codeArg f_m_newLetter f_m_newSum f_m_newFrom f_m_newTo f_m_newCode f_m_newArg f_m_stack f_m_worth f_m_isRefused f_m_least f_m_packPounds f_m_packOwner f_m_room f_m_givenTo f_m_canBe f_m_setPounds f_m_plainTime f_m_muleTime f_m_planTo f_m_march f_m_tired f_m_ranMinutes f_m_tiredAhead f_m_isReached f_m_toEnd f_m_upTo f_m_upNext f_m_byChanges f_m_bandPaces : Nat → Int32) (sz : Nat) (o : Int32) (a : Int32) (hr_m_isRefused : rg (0) 1 f_m_isRefused) (ha_a : 0 ≤ a.toInt ∧ a.toInt ≤ 199) : gMv l yX10_does cX10_does 4 2 [.ref (hm 0), .int o, .int a] D cy (wMD cy hm v_taped v_walkers v_loads v_pieces v_changeCosts v_planned v_isMarch v_clauseMany v_place v_end v_bad v_clauses v_codes v_open v_stacked v_isOver v_isBehind v_atW v_atL v_atT v_atH v_atM v_atI v_atQ v_packing v_packed v_goPace v_goMinutes v_spentAt v_ranChanges f_m_tape f_m_knee f_m_weight f_m_isLame f_m_loadWeight f_m_owner f_m_food f_m_miles f_m_slope f_m_clauseLetter f_m_sumFrom f_m_codeFrom f_m_codeTo f_m_code f_m_codeArg f_m_newLetter f_m_newSum f_m_newFrom f_m_newTo f_m_newCode f_m_newArg f_m_stack f_m_worth f_m_isRefused f_m_least f_m_packPounds f_m_packOwner f_m_room f_m_givenTo f_m_canBe f_m_setPounds f_m_plainTime f_m_muleTime f_m_planTo f_m_march f_m_tired f_m_ranMinutes f_m_tiredAhead f_m_isReached f_m_toEnd f_m_upTo f_m_upNext f_m_byChanges f_m_bandPaces) NT sz (fun (u : (Nat → Int32) × (Nat → Int32)) => ((u.1) = upd f_m_worth a.toNatClampNeg (wF o (f_m_worth a.toNatClampNeg) (f_m_isRefused a.toNatClampNeg) (f_m_worth (a.toNatClampNeg + 1)) (f_m_isRefused (a.toNatClampNeg + 1)))) ∧ ((u.2) = upd f_m_isRefused a.toNatClampNeg (rF o (f_m_worth a.toNatClampNeg) (f_m_isRefused a.toNatClampNeg) (f_m_worth (a.toNatClampNeg + 1)) (f_m_isRefused (a.toNatClampNeg + 1)))) ∧ (rg (0) 1 (u.2))) (fun u => wMD cy hm v_taped v_walkers v_loads v_pieces v_changeCosts v_planned v_isMarch v_clauseMany v_place v_end v_bad v_clauses v_codes v_open v_stacked v_isOver v_isBehind v_atW v_atL v_atT v_atH v_atM v_atI v_atQ v_packing v_packed v_goPace v_goMinutes v_spentAt v_ranChanges f_m_tape f_m_knee f_m_weight f_m_isLame f_m_loadWeight f_m_owner f_m_food f_m_miles f_m_slope f_m_clauseLetter f_m_sumFrom f_m_codeFrom f_m_codeTo f_m_code f_m_codeArg f_m_newLetter f_m_newSum f_m_newFrom f_m_newTo f_m_newCode f_m_newArg f_m_stack (u.1) (u.2) f_m_least f_m_packPounds f_m_packOwner f_m_room f_m_givenTo f_m_canBe f_m_setPounds f_m_plainTime f_m_muleTime f_m_planTo f_m_march f_m_tired f_m_ranMinutes f_m_tiredAhead f_m_isReached f_m_toEnd f_m_upTo f_m_upNext f_m_byChanges f_m_bandPaces) := by
  refine gMv_in (by decide) (Nat.le_of_ble_eq_true rfl) ?_
  intro p e s m args below meth c A ls Q hx hb hml hts hown hsz hP hK hD hN hAe hA hS hl hret
  subst hsz
  have hl : lv_has ls 4 [(0, .ref (hm 0)), (1, .int o), (2, .int a)] := hl
  have hrt := fun (f_m_worth' : Nat → Int32) (f_m_isRefused' : Nat → Int32) (hp : (f_m_worth' = upd f_m_worth a.toNatClampNeg (wF o (f_m_worth a.toNatClampNeg) (f_m_isRefused a.toNatClampNeg) (f_m_worth (a.toNatClampNeg + 1)) (f_m_isRefused (a.toNatClampNeg + 1)))) ∧ (f_m_isRefused' = upd f_m_isRefused a.toNatClampNeg (rF o (f_m_worth a.toNatClampNeg) (f_m_isRefused a.toNatClampNeg) (f_m_worth (a.toNatClampNeg + 1)) (f_m_isRefused (a.toNatClampNeg + 1)))) ∧ (rg (0) 1 f_m_isRefused')) {H : Heap} {locs : List Loc} {pc : Nat} {ls : Array Slot} => hret (f_m_worth', f_m_isRefused') (H := H) (locs := locs) (pc := pc) (ls := ls) hp
  clear hret
  refine lv_iload_n hx hb dX10_does_0 rfl (lv_at hl 2 rfl) ?_
  refine lv_iconst (v := 1) hx hb dX10_does_1 (by decide) ?_
  refine lv_iadd hx hb dX10_does_2 ?_
  refine lv_topi (fun n_1 en_1 => ?_)
  have tn_1 : n_1.toInt = a.toInt + 1 := i_add en_1 (rfl : a.toInt = a.toInt) (by decide : (1 : Int32).toInt = 1) (by omega) (by omega)
  refine lv_istore_n (lv' := [(3, .int n_1), (0, .ref (hm 0)), (1, .int o), (2, .int a)]) hx hb dX10_does_3 rfl hl (by decide) rfl (fun ls hl => ?_)
  refine lv_iload_n hx hb dX10_does_4 rfl (lv_at hl 2 rfl) ?_
  refine lv_bipush (v := 38) hx hb dX10_does_5 (by decide) ?_
  refine lv_icmp_eq (tgt := 16) hx hb dX10_does_7 (by decide) (fun c_2 => ?_) (fun c_2 => ?_)
  · have gc_2 : o.toInt = 38 := i_eq (rfl : o.toInt = o.toInt) (by decide : (38 : Int32).toInt = 38) c_2
    refine lv_aload_n hx hb dX10_does_16 rfl (lv_at hl 1 rfl) ?_
    refine gt_MD_MD_isRefused hx hb hts hown hK hP lwd_179 dX10_does_17 ?_
    refine lv_iload_n hx hb dX10_does_20 rfl (lv_at hl 3 rfl) ?_
    refine al_m_isRefused hx hb hK hP hr_m_isRefused (i_in (rfl : a.toInt = a.toInt) (by omega) (by omega)) dX10_does_21 (fun n_3 en_3 bn_3 => ?_)
    refine lv_if_ne (tgt := 45) hx hb dX10_does_22 (by decide) (fun c_4 => ?_) (fun c_4 => ?_)
    · have gc_4 : n_3.toInt ≠ 0 := i_ne (rfl : n_3.toInt = n_3.toInt) (by decide : (0 : Int32).toInt = 0) c_4
      exact hrt f_m_worth f_m_isRefused ⟨(by
        have e9 : n_1.toNatClampNeg = a.toNatClampNeg + 1 := by rw [i_ix (rfl : n_1.toInt = n_1.toInt), i_ix (rfl : a.toInt = a.toInt)]; omega
        rw [← e9]
        unfold wF
        have q0 := congrArg Int32.toInt en_3
        first | rw [if_pos (by omega)] | rw [if_neg (by omega)] | skip
        first | rw [if_pos (by omega)] | rw [if_neg (by omega)] | skip
        first | exact (upd_eta _ _).symm), (by
        have e9 : n_1.toNatClampNeg = a.toNatClampNeg + 1 := by rw [i_ix (rfl : n_1.toInt = n_1.toInt), i_ix (rfl : a.toInt = a.toInt)]; omega
        rw [← e9]
        unfold rF
        have q0 := congrArg Int32.toInt en_3
        first | rw [if_pos (by omega)] | rw [if_neg (by omega)] | skip
        first | rw [if_pos (by omega)] | rw [if_neg (by omega)] | skip
        first | exact (upd_eta _ _).symm), hr_m_isRefused⟩ hP hD hS dX10_does_45
    · have gc_4 : n_3.toInt = 0 := i_eq (rfl : n_3.toInt = n_3.toInt) (by decide : (0 : Int32).toInt = 0) c_4
      refine lv_aload_n hx hb dX10_does_25 rfl (lv_at hl 1 rfl) ?_
      refine gt_MD_MD_worth hx hb hts hown hK hP lwd_178 dX10_does_26 ?_
      refine lv_iload_n hx hb dX10_does_29 rfl (lv_at hl 3 rfl) ?_
      refine al_m_worth hx hb hK hP (i_in (rfl : a.toInt = a.toInt) (by omega) (by omega)) dX10_does_30 (fun n_5 en_5 => ?_)
      refine lv_iload_n hx hb dX10_does_31 rfl (lv_at hl 2 rfl) ?_
      refine lv_bipush (v := 38) hx hb dX10_does_32 (by decide) ?_
      refine lv_icmp_ne (tgt := 41) hx hb dX10_does_34 (by decide) (fun c_6 => ?_) (fun c_6 => ?_)
      · have gc_6 : o.toInt ≠ 38 := i_ne (rfl : o.toInt = o.toInt) (by decide : (38 : Int32).toInt = 38) c_6
        exact absurd gc_6 (by omega)
      · have gc_6 : o.toInt = 38 := i_eq (rfl : o.toInt = o.toInt) (by decide : (38 : Int32).toInt = 38) c_6
        refine lv_iconst (v := 1) hx hb dX10_does_37 (by decide) ?_
        refine lv_goto (tgt := 42) hx hb dX10_does_38 (by decide) ?_
        refine lv_icmp_eq (tgt := 46) hx hb dX10_does_42 (by decide) (fun c_7 => ?_) (fun c_7 => ?_)
        · have gc_7 : n_5.toInt = 1 := i_eq (rfl : n_5.toInt = n_5.toInt) (by decide : (1 : Int32).toInt = 1) c_7
          refine lv_aload_n hx hb dX10_does_46 rfl (lv_at hl 1 rfl) ?_
          refine gt_MD_MD_worth hx hb hts hown hK hP lwd_178 dX10_does_47 ?_
          refine lv_iload_n hx hb dX10_does_50 rfl (lv_at hl 3 rfl) ?_
          refine lv_aload_n hx hb dX10_does_51 rfl (lv_at hl 1 rfl) ?_
          refine gt_MD_MD_worth hx hb hts hown hK hP lwd_178 dX10_does_52 ?_
          refine lv_iload_n hx hb dX10_does_55 rfl (lv_at hl 0 rfl) ?_
          refine al_m_worth hx hb hK hP (i_in tn_1 (by omega) (by omega)) dX10_does_56 (fun n_8 en_8 => ?_)
          refine as_m_worth (x := n_8) hx hb hK hP hD hS (i_in (rfl : a.toInt = a.toInt) (by omega) (by omega)) dX10_does_57 (fun f_9 ef_9 H locs hP hD hS => ?_)
          refine lv_aload_n hx hb dX10_does_58 rfl (lv_at hl 1 rfl) ?_
          refine gt_MD_MD_isRefused hx hb hts hown hK hP lwd_179 dX10_does_59 ?_
          refine lv_iload_n hx hb dX10_does_62 rfl (lv_at hl 3 rfl) ?_
          refine lv_aload_n hx hb dX10_does_63 rfl (lv_at hl 1 rfl) ?_
          refine gt_MD_MD_isRefused hx hb hts hown hK hP lwd_179 dX10_does_64 ?_
          refine lv_iload_n hx hb dX10_does_67 rfl (lv_at hl 0 rfl) ?_
          refine al_m_isRefused hx hb hK hP hr_m_isRefused (i_in tn_1 (by omega) (by omega)) dX10_does_68 (fun n_10 en_10 bn_10 => ?_)
          refine as_m_isRefused (x := n_10) hx hb hK hP hD hS hr_m_isRefused (i_in (rfl : a.toInt = a.toInt) (by omega) (by omega)) (by omega) dX10_does_69 (fun f_11 ef_11 rf_11 H locs hP hD hS => ?_)
          exact hrt f_9 f_11 ⟨(by
            have e9 : n_1.toNatClampNeg = a.toNatClampNeg + 1 := by rw [i_ix (rfl : n_1.toInt = n_1.toInt), i_ix (rfl : a.toInt = a.toInt)]; omega
            rw [← e9]
            unfold wF
            have q0 := congrArg Int32.toInt en_3
            have q1 := congrArg Int32.toInt en_5
            have q2 := congrArg Int32.toInt en_8
            have q3 := congrArg Int32.toInt en_10
            first | rw [if_pos (by omega)] | rw [if_neg (by omega)] | skip
            first | rw [if_pos (by omega)] | rw [if_neg (by omega)] | skip
            first | exact (upd_eta _ _).symm | exact ef_9 | exact ef_9.trans (congrArg _ en_3) | exact ef_9.trans (congrArg _ en_5) | exact ef_9.trans (congrArg _ en_8) | exact ef_9.trans (congrArg _ en_10)), (by
            have e9 : n_1.toNatClampNeg = a.toNatClampNeg + 1 := by rw [i_ix (rfl : n_1.toInt = n_1.toInt), i_ix (rfl : a.toInt = a.toInt)]; omega
            rw [← e9]
            unfold rF
            have q0 := congrArg Int32.toInt en_3
            have q1 := congrArg Int32.toInt en_5
            have q2 := congrArg Int32.toInt en_8
            have q3 := congrArg Int32.toInt en_10
            first | rw [if_pos (by omega)] | rw [if_neg (by omega)] | skip
            first | rw [if_pos (by omega)] | rw [if_neg (by omega)] | skip
            first | exact (upd_eta _ _).symm | exact ef_11 | exact ef_11.trans (congrArg _ en_3) | exact ef_11.trans (congrArg _ en_5) | exact ef_11.trans (congrArg _ en_8) | exact ef_11.trans (congrArg _ en_10)), rf_11⟩ hP hD hS dX10_does_70
        · have gc_7 : n_5.toInt ≠ 1 := i_ne (rfl : n_5.toInt = n_5.toInt) (by decide : (1 : Int32).toInt = 1) c_7
          exact hrt f_m_worth f_m_isRefused ⟨(by
            have e9 : n_1.toNatClampNeg = a.toNatClampNeg + 1 := by rw [i_ix (rfl : n_1.toInt = n_1.toInt), i_ix (rfl : a.toInt = a.toInt)]; omega
            rw [← e9]
            unfold wF
            have q0 := congrArg Int32.toInt en_3
            have q1 := congrArg Int32.toInt en_5
            first | rw [if_pos (by omega)] | rw [if_neg (by omega)] | skip
            first | rw [if_pos (by omega)] | rw [if_neg (by omega)] | skip
            first | exact (upd_eta _ _).symm), (by
            have e9 : n_1.toNatClampNeg = a.toNatClampNeg + 1 := by rw [i_ix (rfl : n_1.toInt = n_1.toInt), i_ix (rfl : a.toInt = a.toInt)]; omega
            rw [← e9]
            unfold rF
            have q0 := congrArg Int32.toInt en_3
            have q1 := congrArg Int32.toInt en_5
            first | rw [if_pos (by omega)] | rw [if_neg (by omega)] | skip
            first | rw [if_pos (by omega)] | rw [if_neg (by omega)] | skip
            first | exact (upd_eta _ _).symm), hr_m_isRefused⟩ hP hD hS dX10_does_45
  · have gc_2 : o.toInt ≠ 38 := i_ne (rfl : o.toInt = o.toInt) (by decide : (38 : Int32).toInt = 38) c_2
    refine lv_iload_n hx hb dX10_does_10 rfl (lv_at hl 2 rfl) ?_
    refine lv_bipush (v := 124) hx hb dX10_does_11 (by decide) ?_
    refine lv_icmp_ne (tgt := 71) hx hb dX10_does_13 (by decide) (fun c_12 => ?_) (fun c_12 => ?_)
    · have gc_12 : o.toInt ≠ 124 := i_ne (rfl : o.toInt = o.toInt) (by decide : (124 : Int32).toInt = 124) c_12
      refine lv_aload_n hx hb dX10_does_71 rfl (lv_at hl 1 rfl) ?_
      refine gt_MD_MD_isRefused hx hb hts hown hK hP lwd_179 dX10_does_72 ?_
      refine lv_iload_n hx hb dX10_does_75 rfl (lv_at hl 3 rfl) ?_
      refine lv_aload_n hx hb dX10_does_76 rfl (lv_at hl 1 rfl) ?_
      refine gt_MD_MD_isRefused hx hb hts hown hK hP lwd_179 dX10_does_77 ?_
      refine lv_iload_n hx hb dX10_does_80 rfl (lv_at hl 3 rfl) ?_
      refine al_m_isRefused hx hb hK hP hr_m_isRefused (i_in (rfl : a.toInt = a.toInt) (by omega) (by omega)) dX10_does_81 (fun n_13 en_13 bn_13 => ?_)
      refine lv_if_ne (tgt := 115) hx hb dX10_does_82 (by decide) (fun c_14 => ?_) (fun c_14 => ?_)
      · have gc_14 : n_13.toInt ≠ 0 := i_ne (rfl : n_13.toInt = n_13.toInt) (by decide : (0 : Int32).toInt = 0) c_14
        refine lv_iconst (v := 1) hx hb dX10_does_115 (by decide) ?_
        refine lv_goto (tgt := 120) hx hb dX10_does_116 (by decide) ?_
        refine as_m_isRefused (x := 1) hx hb hK hP hD hS hr_m_isRefused (i_in (rfl : a.toInt = a.toInt) (by omega) (by omega)) (by decide) dX10_does_120 (fun f_15 ef_15 rf_15 H locs hP hD hS => ?_)
        refine lv_aload_n hx hb dX10_does_121 rfl (lv_at hl 1 rfl) ?_
        refine gt_MD_MD_worth hx hb hts hown hK hP lwd_178 dX10_does_122 ?_
        refine lv_iload_n hx hb dX10_does_125 rfl (lv_at hl 3 rfl) ?_
        refine lv_iload_n hx hb dX10_does_126 rfl (lv_at hl 2 rfl) ?_
        refine lv_aload_n hx hb dX10_does_127 rfl (lv_at hl 1 rfl) ?_
        refine gt_MD_MD_worth hx hb hts hown hK hP lwd_178 dX10_does_128 ?_
        refine lv_iload_n hx hb dX10_does_131 rfl (lv_at hl 3 rfl) ?_
        refine al_m_worth hx hb hK hP (i_in (rfl : a.toInt = a.toInt) (by omega) (by omega)) dX10_does_132 (fun n_16 en_16 => ?_)
        refine lv_aload_n hx hb dX10_does_133 rfl (lv_at hl 1 rfl) ?_
        refine gt_MD_MD_worth hx hb hts hown hK hP lwd_178 dX10_does_134 ?_
        refine lv_iload_n hx hb dX10_does_137 rfl (lv_at hl 0 rfl) ?_
        refine al_m_worth hx hb hK hP (i_in tn_1 (by omega) (by omega)) dX10_does_138 (fun n_17 en_17 => ?_)
        refine xi hD hS hA (xS (As := [.int o, .int n_16, .int n_17]) (rest := [.int a, .ref (hm 23)]) hx hb hml hown hts hK hP hD hS hA NT_ok hN hAe hl.1 ⟨Nat.le_refl _, Nat.le_refl _⟩ (c_X10_worked l D cy hm v_taped v_walkers v_loads v_pieces v_changeCosts v_planned v_isMarch v_clauseMany v_place v_end v_bad v_clauses v_codes v_open v_stacked v_isOver v_isBehind v_atW v_atL v_atT v_atH v_atM v_atI v_atQ v_packing v_packed v_goPace v_goMinutes v_spentAt v_ranChanges f_m_tape f_m_knee f_m_weight f_m_isLame f_m_loadWeight f_m_owner f_m_food f_m_miles f_m_slope f_m_clauseLetter f_m_sumFrom f_m_codeFrom f_m_codeTo f_m_code f_m_codeArg f_m_newLetter f_m_newSum f_m_newFrom f_m_newTo f_m_newCode f_m_newArg f_m_stack f_m_worth f_15 f_m_least f_m_packPounds f_m_packOwner f_m_room f_m_givenTo f_m_canBe f_m_setPounds f_m_plainTime f_m_muleTime f_m_planTo f_m_march f_m_tired f_m_ranMinutes f_m_tiredAhead f_m_isReached f_m_toEnd f_m_upTo f_m_upNext f_m_byChanges f_m_bandPaces H.size o n_16 n_17) (gi_S lwd_576 lwd_577 lwd_5 lwd_578) hd_X10_worked ⟨Nat.le_of_ble_eq_true rfl, Nat.le_of_ble_eq_true rfl⟩ rfl (Nat.le_of_ble_eq_true rfl) dX10_does_139) (fun r_19 u_18 H locs hw hP hD hS => ?_)
        try dsimp only at hw hP hD
        have p_20 := hw
        clear hw
        refine as_m_worth (x := r_19) hx hb hK hP hD hS (i_in (rfl : a.toInt = a.toInt) (by omega) (by omega)) dX10_does_142 (fun f_21 ef_21 H locs hP hD hS => ?_)
        exact hrt f_21 f_15 ⟨(by
          have e9 : n_1.toNatClampNeg = a.toNatClampNeg + 1 := by rw [i_ix (rfl : n_1.toInt = n_1.toInt), i_ix (rfl : a.toInt = a.toInt)]; omega
          rw [← e9]
          unfold wF
          have q0 := congrArg Int32.toInt en_13
          have q1 := congrArg Int32.toInt en_16
          have q2 := congrArg Int32.toInt en_17
          first | rw [if_pos (by omega)] | rw [if_neg (by omega)] | skip
          first | rw [if_pos (by omega)] | rw [if_neg (by omega)] | skip
          first | exact (upd_eta _ _).symm | exact ef_21 | (simp only [ef_21, p_20, en_13, en_16, en_17]) | exact ef_21.trans (congrArg _ en_13) | exact ef_21.trans (congrArg _ en_16) | exact ef_21.trans (congrArg _ en_17)), (by
          have e9 : n_1.toNatClampNeg = a.toNatClampNeg + 1 := by rw [i_ix (rfl : n_1.toInt = n_1.toInt), i_ix (rfl : a.toInt = a.toInt)]; omega
          rw [← e9]
          unfold rF
          have q0 := congrArg Int32.toInt en_13
          have q1 := congrArg Int32.toInt en_16
          have q2 := congrArg Int32.toInt en_17
          first | rw [if_pos (by omega)] | rw [if_neg (by omega)] | skip
          first | rw [if_pos (by omega)] | rw [if_neg (by omega)] | skip
          first | exact (upd_eta _ _).symm | exact ef_15 | (simp only [ef_15, p_20, en_13, en_16, en_17]) | exact ef_15.trans (congrArg _ en_13) | exact ef_15.trans (congrArg _ en_16) | exact ef_15.trans (congrArg _ en_17)), rf_15⟩ hP hD hS dX10_does_143
      · have gc_14 : n_13.toInt = 0 := i_eq (rfl : n_13.toInt = n_13.toInt) (by decide : (0 : Int32).toInt = 0) c_14
        refine lv_aload_n hx hb dX10_does_85 rfl (lv_at hl 1 rfl) ?_
        refine gt_MD_MD_isRefused hx hb hts hown hK hP lwd_179 dX10_does_86 ?_
        refine lv_iload_n hx hb dX10_does_89 rfl (lv_at hl 0 rfl) ?_
        refine al_m_isRefused hx hb hK hP hr_m_isRefused (i_in tn_1 (by omega) (by omega)) dX10_does_90 (fun n_22 en_22 bn_22 => ?_)
        refine lv_if_ne (tgt := 115) hx hb dX10_does_91 (by decide) (fun c_23 => ?_) (fun c_23 => ?_)
        · have gc_23 : n_22.toInt ≠ 0 := i_ne (rfl : n_22.toInt = n_22.toInt) (by decide : (0 : Int32).toInt = 0) c_23
          refine lv_iconst (v := 1) hx hb dX10_does_115 (by decide) ?_
          refine lv_goto (tgt := 120) hx hb dX10_does_116 (by decide) ?_
          refine as_m_isRefused (x := 1) hx hb hK hP hD hS hr_m_isRefused (i_in (rfl : a.toInt = a.toInt) (by omega) (by omega)) (by decide) dX10_does_120 (fun f_24 ef_24 rf_24 H locs hP hD hS => ?_)
          refine lv_aload_n hx hb dX10_does_121 rfl (lv_at hl 1 rfl) ?_
          refine gt_MD_MD_worth hx hb hts hown hK hP lwd_178 dX10_does_122 ?_
          refine lv_iload_n hx hb dX10_does_125 rfl (lv_at hl 3 rfl) ?_
          refine lv_iload_n hx hb dX10_does_126 rfl (lv_at hl 2 rfl) ?_
          refine lv_aload_n hx hb dX10_does_127 rfl (lv_at hl 1 rfl) ?_
          refine gt_MD_MD_worth hx hb hts hown hK hP lwd_178 dX10_does_128 ?_
          refine lv_iload_n hx hb dX10_does_131 rfl (lv_at hl 3 rfl) ?_
          refine al_m_worth hx hb hK hP (i_in (rfl : a.toInt = a.toInt) (by omega) (by omega)) dX10_does_132 (fun n_25 en_25 => ?_)
          refine lv_aload_n hx hb dX10_does_133 rfl (lv_at hl 1 rfl) ?_
          refine gt_MD_MD_worth hx hb hts hown hK hP lwd_178 dX10_does_134 ?_
          refine lv_iload_n hx hb dX10_does_137 rfl (lv_at hl 0 rfl) ?_
          refine al_m_worth hx hb hK hP (i_in tn_1 (by omega) (by omega)) dX10_does_138 (fun n_26 en_26 => ?_)
          refine xi hD hS hA (xS (As := [.int o, .int n_25, .int n_26]) (rest := [.int a, .ref (hm 23)]) hx hb hml hown hts hK hP hD hS hA NT_ok hN hAe hl.1 ⟨Nat.le_refl _, Nat.le_refl _⟩ (c_X10_worked l D cy hm v_taped v_walkers v_loads v_pieces v_changeCosts v_planned v_isMarch v_clauseMany v_place v_end v_bad v_clauses v_codes v_open v_stacked v_isOver v_isBehind v_atW v_atL v_atT v_atH v_atM v_atI v_atQ v_packing v_packed v_goPace v_goMinutes v_spentAt v_ranChanges f_m_tape f_m_knee f_m_weight f_m_isLame f_m_loadWeight f_m_owner f_m_food f_m_miles f_m_slope f_m_clauseLetter f_m_sumFrom f_m_codeFrom f_m_codeTo f_m_code f_m_codeArg f_m_newLetter f_m_newSum f_m_newFrom f_m_newTo f_m_newCode f_m_newArg f_m_stack f_m_worth f_24 f_m_least f_m_packPounds f_m_packOwner f_m_room f_m_givenTo f_m_canBe f_m_setPounds f_m_plainTime f_m_muleTime f_m_planTo f_m_march f_m_tired f_m_ranMinutes f_m_tiredAhead f_m_isReached f_m_toEnd f_m_upTo f_m_upNext f_m_byChanges f_m_bandPaces H.size o n_25 n_26) (gi_S lwd_576 lwd_577 lwd_5 lwd_578) hd_X10_worked ⟨Nat.le_of_ble_eq_true rfl, Nat.le_of_ble_eq_true rfl⟩ rfl (Nat.le_of_ble_eq_true rfl) dX10_does_139) (fun r_28 u_27 H locs hw hP hD hS => ?_)
          try dsimp only at hw hP hD
          have p_29 := hw
          clear hw
          refine as_m_worth (x := r_28) hx hb hK hP hD hS (i_in (rfl : a.toInt = a.toInt) (by omega) (by omega)) dX10_does_142 (fun f_30 ef_30 H locs hP hD hS => ?_)
          exact hrt f_30 f_24 ⟨(by
            have e9 : n_1.toNatClampNeg = a.toNatClampNeg + 1 := by rw [i_ix (rfl : n_1.toInt = n_1.toInt), i_ix (rfl : a.toInt = a.toInt)]; omega
            rw [← e9]
            unfold wF
            have q0 := congrArg Int32.toInt en_13
            have q1 := congrArg Int32.toInt en_22
            have q2 := congrArg Int32.toInt en_25
            have q3 := congrArg Int32.toInt en_26
            first | rw [if_pos (by omega)] | rw [if_neg (by omega)] | skip
            first | rw [if_pos (by omega)] | rw [if_neg (by omega)] | skip
            first | exact (upd_eta _ _).symm | exact ef_30 | (simp only [ef_30, p_29, en_13, en_22, en_25, en_26]) | exact ef_30.trans (congrArg _ en_13) | exact ef_30.trans (congrArg _ en_22) | exact ef_30.trans (congrArg _ en_25) | exact ef_30.trans (congrArg _ en_26)), (by
            have e9 : n_1.toNatClampNeg = a.toNatClampNeg + 1 := by rw [i_ix (rfl : n_1.toInt = n_1.toInt), i_ix (rfl : a.toInt = a.toInt)]; omega
            rw [← e9]
            unfold rF
            have q0 := congrArg Int32.toInt en_13
            have q1 := congrArg Int32.toInt en_22
            have q2 := congrArg Int32.toInt en_25
            have q3 := congrArg Int32.toInt en_26
            first | rw [if_pos (by omega)] | rw [if_neg (by omega)] | skip
            first | rw [if_pos (by omega)] | rw [if_neg (by omega)] | skip
            first | exact (upd_eta _ _).symm | exact ef_24 | (simp only [ef_24, p_29, en_13, en_22, en_25, en_26]) | exact ef_24.trans (congrArg _ en_13) | exact ef_24.trans (congrArg _ en_22) | exact ef_24.trans (congrArg _ en_25) | exact ef_24.trans (congrArg _ en_26)), rf_24⟩ hP hD hS dX10_does_143
        · have gc_23 : n_22.toInt = 0 := i_eq (rfl : n_22.toInt = n_22.toInt) (by decide : (0 : Int32).toInt = 0) c_23
          refine lv_iload_n hx hb dX10_does_94 rfl (lv_at hl 2 rfl) ?_
          refine lv_bipush (v := 47) hx hb dX10_does_95 (by decide) ?_
          refine lv_icmp_eq (tgt := 106) hx hb dX10_does_97 (by decide) (fun c_31 => ?_) (fun c_31 => ?_)
          · have gc_31 : o.toInt = 47 := i_eq (rfl : o.toInt = o.toInt) (by decide : (47 : Int32).toInt = 47) c_31
            refine lv_aload_n hx hb dX10_does_106 rfl (lv_at hl 1 rfl) ?_
            refine gt_MD_MD_worth hx hb hts hown hK hP lwd_178 dX10_does_107 ?_
            refine lv_iload_n hx hb dX10_does_110 rfl (lv_at hl 0 rfl) ?_
            refine al_m_worth hx hb hK hP (i_in tn_1 (by omega) (by omega)) dX10_does_111 (fun n_32 en_32 => ?_)
            refine lv_if_ne (tgt := 119) hx hb dX10_does_112 (by decide) (fun c_33 => ?_) (fun c_33 => ?_)
            · have gc_33 : n_32.toInt ≠ 0 := i_ne (rfl : n_32.toInt = n_32.toInt) (by decide : (0 : Int32).toInt = 0) c_33
              refine lv_iconst (v := 0) hx hb dX10_does_119 (by decide) ?_
              refine as_m_isRefused (x := 0) hx hb hK hP hD hS hr_m_isRefused (i_in (rfl : a.toInt = a.toInt) (by omega) (by omega)) (by decide) dX10_does_120 (fun f_34 ef_34 rf_34 H locs hP hD hS => ?_)
              refine lv_aload_n hx hb dX10_does_121 rfl (lv_at hl 1 rfl) ?_
              refine gt_MD_MD_worth hx hb hts hown hK hP lwd_178 dX10_does_122 ?_
              refine lv_iload_n hx hb dX10_does_125 rfl (lv_at hl 3 rfl) ?_
              refine lv_iload_n hx hb dX10_does_126 rfl (lv_at hl 2 rfl) ?_
              refine lv_aload_n hx hb dX10_does_127 rfl (lv_at hl 1 rfl) ?_
              refine gt_MD_MD_worth hx hb hts hown hK hP lwd_178 dX10_does_128 ?_
              refine lv_iload_n hx hb dX10_does_131 rfl (lv_at hl 3 rfl) ?_
              refine al_m_worth hx hb hK hP (i_in (rfl : a.toInt = a.toInt) (by omega) (by omega)) dX10_does_132 (fun n_35 en_35 => ?_)
              refine lv_aload_n hx hb dX10_does_133 rfl (lv_at hl 1 rfl) ?_
              refine gt_MD_MD_worth hx hb hts hown hK hP lwd_178 dX10_does_134 ?_
              refine lv_iload_n hx hb dX10_does_137 rfl (lv_at hl 0 rfl) ?_
              refine al_m_worth hx hb hK hP (i_in tn_1 (by omega) (by omega)) dX10_does_138 (fun n_36 en_36 => ?_)
              obtain rfl : n_32 = n_36 := en_32.trans en_36.symm
              refine xi hD hS hA (xS (As := [.int o, .int n_35, .int n_32]) (rest := [.int a, .ref (hm 23)]) hx hb hml hown hts hK hP hD hS hA NT_ok hN hAe hl.1 ⟨Nat.le_refl _, Nat.le_refl _⟩ (c_X10_worked l D cy hm v_taped v_walkers v_loads v_pieces v_changeCosts v_planned v_isMarch v_clauseMany v_place v_end v_bad v_clauses v_codes v_open v_stacked v_isOver v_isBehind v_atW v_atL v_atT v_atH v_atM v_atI v_atQ v_packing v_packed v_goPace v_goMinutes v_spentAt v_ranChanges f_m_tape f_m_knee f_m_weight f_m_isLame f_m_loadWeight f_m_owner f_m_food f_m_miles f_m_slope f_m_clauseLetter f_m_sumFrom f_m_codeFrom f_m_codeTo f_m_code f_m_codeArg f_m_newLetter f_m_newSum f_m_newFrom f_m_newTo f_m_newCode f_m_newArg f_m_stack f_m_worth f_34 f_m_least f_m_packPounds f_m_packOwner f_m_room f_m_givenTo f_m_canBe f_m_setPounds f_m_plainTime f_m_muleTime f_m_planTo f_m_march f_m_tired f_m_ranMinutes f_m_tiredAhead f_m_isReached f_m_toEnd f_m_upTo f_m_upNext f_m_byChanges f_m_bandPaces H.size o n_35 n_32) (gi_S lwd_576 lwd_577 lwd_5 lwd_578) hd_X10_worked ⟨Nat.le_of_ble_eq_true rfl, Nat.le_of_ble_eq_true rfl⟩ rfl (Nat.le_of_ble_eq_true rfl) dX10_does_139) (fun r_38 u_37 H locs hw hP hD hS => ?_)
              try dsimp only at hw hP hD
              have p_39 := hw
              clear hw
              refine as_m_worth (x := r_38) hx hb hK hP hD hS (i_in (rfl : a.toInt = a.toInt) (by omega) (by omega)) dX10_does_142 (fun f_40 ef_40 H locs hP hD hS => ?_)
              exact hrt f_40 f_34 ⟨(by
                have e9 : n_1.toNatClampNeg = a.toNatClampNeg + 1 := by rw [i_ix (rfl : n_1.toInt = n_1.toInt), i_ix (rfl : a.toInt = a.toInt)]; omega
                rw [← e9]
                unfold wF
                have q0 := congrArg Int32.toInt en_13
                have q1 := congrArg Int32.toInt en_22
                have q2 := congrArg Int32.toInt en_32
                have q3 := congrArg Int32.toInt en_35
                first | rw [if_pos (by omega)] | rw [if_neg (by omega)] | skip
                first | rw [if_pos (by omega)] | rw [if_neg (by omega)] | skip
                first | exact (upd_eta _ _).symm | exact ef_40 | (simp only [ef_40, p_39, en_13, en_22, en_32, en_35]) | exact ef_40.trans (congrArg _ en_13) | exact ef_40.trans (congrArg _ en_22) | exact ef_40.trans (congrArg _ en_32) | exact ef_40.trans (congrArg _ en_35)), (by
                have e9 : n_1.toNatClampNeg = a.toNatClampNeg + 1 := by rw [i_ix (rfl : n_1.toInt = n_1.toInt), i_ix (rfl : a.toInt = a.toInt)]; omega
                rw [← e9]
                unfold rF
                have q0 := congrArg Int32.toInt en_13
                have q1 := congrArg Int32.toInt en_22
                have q2 := congrArg Int32.toInt en_32
                have q3 := congrArg Int32.toInt en_35
                first | rw [if_pos (by omega)] | rw [if_neg (by omega)] | skip
                first | rw [if_pos (by omega)] | rw [if_neg (by omega)] | skip
                first | exact (upd_eta _ _).symm | exact ef_34 | (simp only [ef_34, p_39, en_13, en_22, en_32, en_35]) | exact ef_34.trans (congrArg _ en_13) | exact ef_34.trans (congrArg _ en_22) | exact ef_34.trans (congrArg _ en_32) | exact ef_34.trans (congrArg _ en_35)), rf_34⟩ hP hD hS dX10_does_143
            · have gc_33 : n_32.toInt = 0 := i_eq (rfl : n_32.toInt = n_32.toInt) (by decide : (0 : Int32).toInt = 0) c_33
              refine lv_iconst (v := 1) hx hb dX10_does_115 (by decide) ?_
              refine lv_goto (tgt := 120) hx hb dX10_does_116 (by decide) ?_
              refine as_m_isRefused (x := 1) hx hb hK hP hD hS hr_m_isRefused (i_in (rfl : a.toInt = a.toInt) (by omega) (by omega)) (by decide) dX10_does_120 (fun f_41 ef_41 rf_41 H locs hP hD hS => ?_)
              refine lv_aload_n hx hb dX10_does_121 rfl (lv_at hl 1 rfl) ?_
              refine gt_MD_MD_worth hx hb hts hown hK hP lwd_178 dX10_does_122 ?_
              refine lv_iload_n hx hb dX10_does_125 rfl (lv_at hl 3 rfl) ?_
              refine lv_iload_n hx hb dX10_does_126 rfl (lv_at hl 2 rfl) ?_
              refine lv_aload_n hx hb dX10_does_127 rfl (lv_at hl 1 rfl) ?_
              refine gt_MD_MD_worth hx hb hts hown hK hP lwd_178 dX10_does_128 ?_
              refine lv_iload_n hx hb dX10_does_131 rfl (lv_at hl 3 rfl) ?_
              refine al_m_worth hx hb hK hP (i_in (rfl : a.toInt = a.toInt) (by omega) (by omega)) dX10_does_132 (fun n_42 en_42 => ?_)
              refine lv_aload_n hx hb dX10_does_133 rfl (lv_at hl 1 rfl) ?_
              refine gt_MD_MD_worth hx hb hts hown hK hP lwd_178 dX10_does_134 ?_
              refine lv_iload_n hx hb dX10_does_137 rfl (lv_at hl 0 rfl) ?_
              refine al_m_worth hx hb hK hP (i_in tn_1 (by omega) (by omega)) dX10_does_138 (fun n_43 en_43 => ?_)
              obtain rfl : n_32 = n_43 := en_32.trans en_43.symm
              refine xi hD hS hA (xS (As := [.int o, .int n_42, .int n_32]) (rest := [.int a, .ref (hm 23)]) hx hb hml hown hts hK hP hD hS hA NT_ok hN hAe hl.1 ⟨Nat.le_refl _, Nat.le_refl _⟩ (c_X10_worked l D cy hm v_taped v_walkers v_loads v_pieces v_changeCosts v_planned v_isMarch v_clauseMany v_place v_end v_bad v_clauses v_codes v_open v_stacked v_isOver v_isBehind v_atW v_atL v_atT v_atH v_atM v_atI v_atQ v_packing v_packed v_goPace v_goMinutes v_spentAt v_ranChanges f_m_tape f_m_knee f_m_weight f_m_isLame f_m_loadWeight f_m_owner f_m_food f_m_miles f_m_slope f_m_clauseLetter f_m_sumFrom f_m_codeFrom f_m_codeTo f_m_code f_m_codeArg f_m_newLetter f_m_newSum f_m_newFrom f_m_newTo f_m_newCode f_m_newArg f_m_stack f_m_worth f_41 f_m_least f_m_packPounds f_m_packOwner f_m_room f_m_givenTo f_m_canBe f_m_setPounds f_m_plainTime f_m_muleTime f_m_planTo f_m_march f_m_tired f_m_ranMinutes f_m_tiredAhead f_m_isReached f_m_toEnd f_m_upTo f_m_upNext f_m_byChanges f_m_bandPaces H.size o n_42 n_32) (gi_S lwd_576 lwd_577 lwd_5 lwd_578) hd_X10_worked ⟨Nat.le_of_ble_eq_true rfl, Nat.le_of_ble_eq_true rfl⟩ rfl (Nat.le_of_ble_eq_true rfl) dX10_does_139) (fun r_45 u_44 H locs hw hP hD hS => ?_)
              try dsimp only at hw hP hD
              have p_46 := hw
              clear hw
              refine as_m_worth (x := r_45) hx hb hK hP hD hS (i_in (rfl : a.toInt = a.toInt) (by omega) (by omega)) dX10_does_142 (fun f_47 ef_47 H locs hP hD hS => ?_)
              exact hrt f_47 f_41 ⟨(by
                have e9 : n_1.toNatClampNeg = a.toNatClampNeg + 1 := by rw [i_ix (rfl : n_1.toInt = n_1.toInt), i_ix (rfl : a.toInt = a.toInt)]; omega
                rw [← e9]
                unfold wF
                have q0 := congrArg Int32.toInt en_13
                have q1 := congrArg Int32.toInt en_22
                have q2 := congrArg Int32.toInt en_32
                have q3 := congrArg Int32.toInt en_42
                first | rw [if_pos (by omega)] | rw [if_neg (by omega)] | skip
                first | rw [if_pos (by omega)] | rw [if_neg (by omega)] | skip
                first | exact (upd_eta _ _).symm | exact ef_47 | (simp only [ef_47, p_46, en_13, en_22, en_32, en_42]) | exact ef_47.trans (congrArg _ en_13) | exact ef_47.trans (congrArg _ en_22) | exact ef_47.trans (congrArg _ en_32) | exact ef_47.trans (congrArg _ en_42)), (by
                have e9 : n_1.toNatClampNeg = a.toNatClampNeg + 1 := by rw [i_ix (rfl : n_1.toInt = n_1.toInt), i_ix (rfl : a.toInt = a.toInt)]; omega
                rw [← e9]
                unfold rF
                have q0 := congrArg Int32.toInt en_13
                have q1 := congrArg Int32.toInt en_22
                have q2 := congrArg Int32.toInt en_32
                have q3 := congrArg Int32.toInt en_42
                first | rw [if_pos (by omega)] | rw [if_neg (by omega)] | skip
                first | rw [if_pos (by omega)] | rw [if_neg (by omega)] | skip
                first | exact (upd_eta _ _).symm | exact ef_41 | (simp only [ef_41, p_46, en_13, en_22, en_32, en_42]) | exact ef_41.trans (congrArg _ en_13) | exact ef_41.trans (congrArg _ en_22) | exact ef_41.trans (congrArg _ en_32) | exact ef_41.trans (congrArg _ en_42)), rf_41⟩ hP hD hS dX10_does_143
          · have gc_31 : o.toInt ≠ 47 := i_ne (rfl : o.toInt = o.toInt) (by decide : (47 : Int32).toInt = 47) c_31
            refine lv_iload_n hx hb dX10_does_100 rfl (lv_at hl 2 rfl) ?_
            refine lv_bipush (v := 37) hx hb dX10_does_101 (by decide) ?_
            refine lv_icmp_ne (tgt := 119) hx hb dX10_does_103 (by decide) (fun c_48 => ?_) (fun c_48 => ?_)
            · have gc_48 : o.toInt ≠ 37 := i_ne (rfl : o.toInt = o.toInt) (by decide : (37 : Int32).toInt = 37) c_48
              refine lv_iconst (v := 0) hx hb dX10_does_119 (by decide) ?_
              refine as_m_isRefused (x := 0) hx hb hK hP hD hS hr_m_isRefused (i_in (rfl : a.toInt = a.toInt) (by omega) (by omega)) (by decide) dX10_does_120 (fun f_49 ef_49 rf_49 H locs hP hD hS => ?_)
              refine lv_aload_n hx hb dX10_does_121 rfl (lv_at hl 1 rfl) ?_
              refine gt_MD_MD_worth hx hb hts hown hK hP lwd_178 dX10_does_122 ?_
              refine lv_iload_n hx hb dX10_does_125 rfl (lv_at hl 3 rfl) ?_
              refine lv_iload_n hx hb dX10_does_126 rfl (lv_at hl 2 rfl) ?_
              refine lv_aload_n hx hb dX10_does_127 rfl (lv_at hl 1 rfl) ?_
              refine gt_MD_MD_worth hx hb hts hown hK hP lwd_178 dX10_does_128 ?_
              refine lv_iload_n hx hb dX10_does_131 rfl (lv_at hl 3 rfl) ?_
              refine al_m_worth hx hb hK hP (i_in (rfl : a.toInt = a.toInt) (by omega) (by omega)) dX10_does_132 (fun n_50 en_50 => ?_)
              refine lv_aload_n hx hb dX10_does_133 rfl (lv_at hl 1 rfl) ?_
              refine gt_MD_MD_worth hx hb hts hown hK hP lwd_178 dX10_does_134 ?_
              refine lv_iload_n hx hb dX10_does_137 rfl (lv_at hl 0 rfl) ?_
              refine al_m_worth hx hb hK hP (i_in tn_1 (by omega) (by omega)) dX10_does_138 (fun n_51 en_51 => ?_)
              refine xi hD hS hA (xS (As := [.int o, .int n_50, .int n_51]) (rest := [.int a, .ref (hm 23)]) hx hb hml hown hts hK hP hD hS hA NT_ok hN hAe hl.1 ⟨Nat.le_refl _, Nat.le_refl _⟩ (c_X10_worked l D cy hm v_taped v_walkers v_loads v_pieces v_changeCosts v_planned v_isMarch v_clauseMany v_place v_end v_bad v_clauses v_codes v_open v_stacked v_isOver v_isBehind v_atW v_atL v_atT v_atH v_atM v_atI v_atQ v_packing v_packed v_goPace v_goMinutes v_spentAt v_ranChanges f_m_tape f_m_knee f_m_weight f_m_isLame f_m_loadWeight f_m_owner f_m_food f_m_miles f_m_slope f_m_clauseLetter f_m_sumFrom f_m_codeFrom f_m_codeTo f_m_code f_m_codeArg f_m_newLetter f_m_newSum f_m_newFrom f_m_newTo f_m_newCode f_m_newArg f_m_stack f_m_worth f_49 f_m_least f_m_packPounds f_m_packOwner f_m_room f_m_givenTo f_m_canBe f_m_setPounds f_m_plainTime f_m_muleTime f_m_planTo f_m_march f_m_tired f_m_ranMinutes f_m_tiredAhead f_m_isReached f_m_toEnd f_m_upTo f_m_upNext f_m_byChanges f_m_bandPaces H.size o n_50 n_51) (gi_S lwd_576 lwd_577 lwd_5 lwd_578) hd_X10_worked ⟨Nat.le_of_ble_eq_true rfl, Nat.le_of_ble_eq_true rfl⟩ rfl (Nat.le_of_ble_eq_true rfl) dX10_does_139) (fun r_53 u_52 H locs hw hP hD hS => ?_)
              try dsimp only at hw hP hD
              have p_54 := hw
              clear hw
              refine as_m_worth (x := r_53) hx hb hK hP hD hS (i_in (rfl : a.toInt = a.toInt) (by omega) (by omega)) dX10_does_142 (fun f_55 ef_55 H locs hP hD hS => ?_)
              exact hrt f_55 f_49 ⟨(by
                have e9 : n_1.toNatClampNeg = a.toNatClampNeg + 1 := by rw [i_ix (rfl : n_1.toInt = n_1.toInt), i_ix (rfl : a.toInt = a.toInt)]; omega
                rw [← e9]
                unfold wF
                have q0 := congrArg Int32.toInt en_13
                have q1 := congrArg Int32.toInt en_22
                have q2 := congrArg Int32.toInt en_50
                have q3 := congrArg Int32.toInt en_51
                first | rw [if_pos (by omega)] | rw [if_neg (by omega)] | skip
                first | rw [if_pos (by omega)] | rw [if_neg (by omega)] | skip
                first | exact (upd_eta _ _).symm | exact ef_55 | (simp only [ef_55, p_54, en_13, en_22, en_50, en_51]) | exact ef_55.trans (congrArg _ en_13) | exact ef_55.trans (congrArg _ en_22) | exact ef_55.trans (congrArg _ en_50) | exact ef_55.trans (congrArg _ en_51)), (by
                have e9 : n_1.toNatClampNeg = a.toNatClampNeg + 1 := by rw [i_ix (rfl : n_1.toInt = n_1.toInt), i_ix (rfl : a.toInt = a.toInt)]; omega
                rw [← e9]
                unfold rF
                have q0 := congrArg Int32.toInt en_13
                have q1 := congrArg Int32.toInt en_22
                have q2 := congrArg Int32.toInt en_50
                have q3 := congrArg Int32.toInt en_51
                first | rw [if_pos (by omega)] | rw [if_neg (by omega)] | skip
                first | rw [if_pos (by omega)] | rw [if_neg (by omega)] | skip
                first | exact (upd_eta _ _).symm | exact ef_49 | (simp only [ef_49, p_54, en_13, en_22, en_50, en_51]) | exact ef_49.trans (congrArg _ en_13) | exact ef_49.trans (congrArg _ en_22) | exact ef_49.trans (congrArg _ en_50) | exact ef_49.trans (congrArg _ en_51)), rf_49⟩ hP hD hS dX10_does_143
            · have gc_48 : o.toInt = 37 := i_eq (rfl : o.toInt = o.toInt) (by decide : (37 : Int32).toInt = 37) c_48
              refine lv_aload_n hx hb dX10_does_106 rfl (lv_at hl 1 rfl) ?_
              refine gt_MD_MD_worth hx hb hts hown hK hP lwd_178 dX10_does_107 ?_
              refine lv_iload_n hx hb dX10_does_110 rfl (lv_at hl 0 rfl) ?_
              refine al_m_worth hx hb hK hP (i_in tn_1 (by omega) (by omega)) dX10_does_111 (fun n_56 en_56 => ?_)
              refine lv_if_ne (tgt := 119) hx hb dX10_does_112 (by decide) (fun c_57 => ?_) (fun c_57 => ?_)
              · have gc_57 : n_56.toInt ≠ 0 := i_ne (rfl : n_56.toInt = n_56.toInt) (by decide : (0 : Int32).toInt = 0) c_57
                refine lv_iconst (v := 0) hx hb dX10_does_119 (by decide) ?_
                refine as_m_isRefused (x := 0) hx hb hK hP hD hS hr_m_isRefused (i_in (rfl : a.toInt = a.toInt) (by omega) (by omega)) (by decide) dX10_does_120 (fun f_58 ef_58 rf_58 H locs hP hD hS => ?_)
                refine lv_aload_n hx hb dX10_does_121 rfl (lv_at hl 1 rfl) ?_
                refine gt_MD_MD_worth hx hb hts hown hK hP lwd_178 dX10_does_122 ?_
                refine lv_iload_n hx hb dX10_does_125 rfl (lv_at hl 3 rfl) ?_
                refine lv_iload_n hx hb dX10_does_126 rfl (lv_at hl 2 rfl) ?_
                refine lv_aload_n hx hb dX10_does_127 rfl (lv_at hl 1 rfl) ?_
                refine gt_MD_MD_worth hx hb hts hown hK hP lwd_178 dX10_does_128 ?_
                refine lv_iload_n hx hb dX10_does_131 rfl (lv_at hl 3 rfl) ?_
                refine al_m_worth hx hb hK hP (i_in (rfl : a.toInt = a.toInt) (by omega) (by omega)) dX10_does_132 (fun n_59 en_59 => ?_)
                refine lv_aload_n hx hb dX10_does_133 rfl (lv_at hl 1 rfl) ?_
                refine gt_MD_MD_worth hx hb hts hown hK hP lwd_178 dX10_does_134 ?_
                refine lv_iload_n hx hb dX10_does_137 rfl (lv_at hl 0 rfl) ?_
                refine al_m_worth hx hb hK hP (i_in tn_1 (by omega) (by omega)) dX10_does_138 (fun n_60 en_60 => ?_)
                obtain rfl : n_56 = n_60 := en_56.trans en_60.symm
                refine xi hD hS hA (xS (As := [.int o, .int n_59, .int n_56]) (rest := [.int a, .ref (hm 23)]) hx hb hml hown hts hK hP hD hS hA NT_ok hN hAe hl.1 ⟨Nat.le_refl _, Nat.le_refl _⟩ (c_X10_worked l D cy hm v_taped v_walkers v_loads v_pieces v_changeCosts v_planned v_isMarch v_clauseMany v_place v_end v_bad v_clauses v_codes v_open v_stacked v_isOver v_isBehind v_atW v_atL v_atT v_atH v_atM v_atI v_atQ v_packing v_packed v_goPace v_goMinutes v_spentAt v_ranChanges f_m_tape f_m_knee f_m_weight f_m_isLame f_m_loadWeight f_m_owner f_m_food f_m_miles f_m_slope f_m_clauseLetter f_m_sumFrom f_m_codeFrom f_m_codeTo f_m_code f_m_codeArg f_m_newLetter f_m_newSum f_m_newFrom f_m_newTo f_m_newCode f_m_newArg f_m_stack f_m_worth f_58 f_m_least f_m_packPounds f_m_packOwner f_m_room f_m_givenTo f_m_canBe f_m_setPounds f_m_plainTime f_m_muleTime f_m_planTo f_m_march f_m_tired f_m_ranMinutes f_m_tiredAhead f_m_isReached f_m_toEnd f_m_upTo f_m_upNext f_m_byChanges f_m_bandPaces H.size o n_59 n_56) (gi_S lwd_576 lwd_577 lwd_5 lwd_578) hd_X10_worked ⟨Nat.le_of_ble_eq_true rfl, Nat.le_of_ble_eq_true rfl⟩ rfl (Nat.le_of_ble_eq_true rfl) dX10_does_139) (fun r_62 u_61 H locs hw hP hD hS => ?_)
                try dsimp only at hw hP hD
                have p_63 := hw
                clear hw
                refine as_m_worth (x := r_62) hx hb hK hP hD hS (i_in (rfl : a.toInt = a.toInt) (by omega) (by omega)) dX10_does_142 (fun f_64 ef_64 H locs hP hD hS => ?_)
                exact hrt f_64 f_58 ⟨(by
                  have e9 : n_1.toNatClampNeg = a.toNatClampNeg + 1 := by rw [i_ix (rfl : n_1.toInt = n_1.toInt), i_ix (rfl : a.toInt = a.toInt)]; omega
                  rw [← e9]
                  unfold wF
                  have q0 := congrArg Int32.toInt en_13
                  have q1 := congrArg Int32.toInt en_22
                  have q2 := congrArg Int32.toInt en_56
                  have q3 := congrArg Int32.toInt en_59
                  first | rw [if_pos (by omega)] | rw [if_neg (by omega)] | skip
                  first | rw [if_pos (by omega)] | rw [if_neg (by omega)] | skip
                  first | exact (upd_eta _ _).symm | exact ef_64 | (simp only [ef_64, p_63, en_13, en_22, en_56, en_59]) | exact ef_64.trans (congrArg _ en_13) | exact ef_64.trans (congrArg _ en_22) | exact ef_64.trans (congrArg _ en_56) | exact ef_64.trans (congrArg _ en_59)), (by
                  have e9 : n_1.toNatClampNeg = a.toNatClampNeg + 1 := by rw [i_ix (rfl : n_1.toInt = n_1.toInt), i_ix (rfl : a.toInt = a.toInt)]; omega
                  rw [← e9]
                  unfold rF
                  have q0 := congrArg Int32.toInt en_13
                  have q1 := congrArg Int32.toInt en_22
                  have q2 := congrArg Int32.toInt en_56
                  have q3 := congrArg Int32.toInt en_59
                  first | rw [if_pos (by omega)] | rw [if_neg (by omega)] | skip
                  first | rw [if_pos (by omega)] | rw [if_neg (by omega)] | skip
                  first | exact (upd_eta _ _).symm | exact ef_58 | (simp only [ef_58, p_63, en_13, en_22, en_56, en_59]) | exact ef_58.trans (congrArg _ en_13) | exact ef_58.trans (congrArg _ en_22) | exact ef_58.trans (congrArg _ en_56) | exact ef_58.trans (congrArg _ en_59)), rf_58⟩ hP hD hS dX10_does_143
              · have gc_57 : n_56.toInt = 0 := i_eq (rfl : n_56.toInt = n_56.toInt) (by decide : (0 : Int32).toInt = 0) c_57
                refine lv_iconst (v := 1) hx hb dX10_does_115 (by decide) ?_
                refine lv_goto (tgt := 120) hx hb dX10_does_116 (by decide) ?_
                refine as_m_isRefused (x := 1) hx hb hK hP hD hS hr_m_isRefused (i_in (rfl : a.toInt = a.toInt) (by omega) (by omega)) (by decide) dX10_does_120 (fun f_65 ef_65 rf_65 H locs hP hD hS => ?_)
                refine lv_aload_n hx hb dX10_does_121 rfl (lv_at hl 1 rfl) ?_
                refine gt_MD_MD_worth hx hb hts hown hK hP lwd_178 dX10_does_122 ?_
                refine lv_iload_n hx hb dX10_does_125 rfl (lv_at hl 3 rfl) ?_
                refine lv_iload_n hx hb dX10_does_126 rfl (lv_at hl 2 rfl) ?_
                refine lv_aload_n hx hb dX10_does_127 rfl (lv_at hl 1 rfl) ?_
                refine gt_MD_MD_worth hx hb hts hown hK hP lwd_178 dX10_does_128 ?_
                refine lv_iload_n hx hb dX10_does_131 rfl (lv_at hl 3 rfl) ?_
                refine al_m_worth hx hb hK hP (i_in (rfl : a.toInt = a.toInt) (by omega) (by omega)) dX10_does_132 (fun n_66 en_66 => ?_)
                refine lv_aload_n hx hb dX10_does_133 rfl (lv_at hl 1 rfl) ?_
                refine gt_MD_MD_worth hx hb hts hown hK hP lwd_178 dX10_does_134 ?_
                refine lv_iload_n hx hb dX10_does_137 rfl (lv_at hl 0 rfl) ?_
                refine al_m_worth hx hb hK hP (i_in tn_1 (by omega) (by omega)) dX10_does_138 (fun n_67 en_67 => ?_)
                obtain rfl : n_56 = n_67 := en_56.trans en_67.symm
                refine xi hD hS hA (xS (As := [.int o, .int n_66, .int n_56]) (rest := [.int a, .ref (hm 23)]) hx hb hml hown hts hK hP hD hS hA NT_ok hN hAe hl.1 ⟨Nat.le_refl _, Nat.le_refl _⟩ (c_X10_worked l D cy hm v_taped v_walkers v_loads v_pieces v_changeCosts v_planned v_isMarch v_clauseMany v_place v_end v_bad v_clauses v_codes v_open v_stacked v_isOver v_isBehind v_atW v_atL v_atT v_atH v_atM v_atI v_atQ v_packing v_packed v_goPace v_goMinutes v_spentAt v_ranChanges f_m_tape f_m_knee f_m_weight f_m_isLame f_m_loadWeight f_m_owner f_m_food f_m_miles f_m_slope f_m_clauseLetter f_m_sumFrom f_m_codeFrom f_m_codeTo f_m_code f_m_codeArg f_m_newLetter f_m_newSum f_m_newFrom f_m_newTo f_m_newCode f_m_newArg f_m_stack f_m_worth f_65 f_m_least f_m_packPounds f_m_packOwner f_m_room f_m_givenTo f_m_canBe f_m_setPounds f_m_plainTime f_m_muleTime f_m_planTo f_m_march f_m_tired f_m_ranMinutes f_m_tiredAhead f_m_isReached f_m_toEnd f_m_upTo f_m_upNext f_m_byChanges f_m_bandPaces H.size o n_66 n_56) (gi_S lwd_576 lwd_577 lwd_5 lwd_578) hd_X10_worked ⟨Nat.le_of_ble_eq_true rfl, Nat.le_of_ble_eq_true rfl⟩ rfl (Nat.le_of_ble_eq_true rfl) dX10_does_139) (fun r_69 u_68 H locs hw hP hD hS => ?_)
                try dsimp only at hw hP hD
                have p_70 := hw
                clear hw
                refine as_m_worth (x := r_69) hx hb hK hP hD hS (i_in (rfl : a.toInt = a.toInt) (by omega) (by omega)) dX10_does_142 (fun f_71 ef_71 H locs hP hD hS => ?_)
                exact hrt f_71 f_65 ⟨(by
                  have e9 : n_1.toNatClampNeg = a.toNatClampNeg + 1 := by rw [i_ix (rfl : n_1.toInt = n_1.toInt), i_ix (rfl : a.toInt = a.toInt)]; omega
                  rw [← e9]
                  unfold wF
                  have q0 := congrArg Int32.toInt en_13
                  have q1 := congrArg Int32.toInt en_22
                  have q2 := congrArg Int32.toInt en_56
                  have q3 := congrArg Int32.toInt en_66
                  first | rw [if_pos (by omega)] | rw [if_neg (by omega)] | skip
                  first | rw [if_pos (by omega)] | rw [if_neg (by omega)] | skip
                  first | exact (upd_eta _ _).symm | exact ef_71 | (simp only [ef_71, p_70, en_13, en_22, en_56, en_66]) | exact ef_71.trans (congrArg _ en_13) | exact ef_71.trans (congrArg _ en_22) | exact ef_71.trans (congrArg _ en_56) | exact ef_71.trans (congrArg _ en_66)), (by
                  have e9 : n_1.toNatClampNeg = a.toNatClampNeg + 1 := by rw [i_ix (rfl : n_1.toInt = n_1.toInt), i_ix (rfl : a.toInt = a.toInt)]; omega
                  rw [← e9]
                  unfold rF
                  have q0 := congrArg Int32.toInt en_13
                  have q1 := congrArg Int32.toInt en_22
                  have q2 := congrArg Int32.toInt en_56
                  have q3 := congrArg Int32.toInt en_66
                  first | rw [if_pos (by omega)] | rw [if_neg (by omega)] | skip
                  first | rw [if_pos (by omega)] | rw [if_neg (by omega)] | skip
                  first | exact (upd_eta _ _).symm | exact ef_65 | (simp only [ef_65, p_70, en_13, en_22, en_56, en_66]) | exact ef_65.trans (congrArg _ en_13) | exact ef_65.trans (congrArg _ en_22) | exact ef_65.trans (congrArg _ en_56) | exact ef_65.trans (congrArg _ en_66)), rf_65⟩ hP hD hS dX10_does_143
    · have gc_12 : o.toInt = 124 := i_eq (rfl : o.toInt = o.toInt) (by decide : (124 : Int32).toInt = 124) c_12
      refine lv_aload_n hx hb dX10_does_16 rfl (lv_at hl 1 rfl) ?_
      refine gt_MD_MD_isRefused hx hb hts hown hK hP lwd_179 dX10_does_17 ?_
      refine lv_iload_n hx hb dX10_does_20 rfl (lv_at hl 3 rfl) ?_
      refine al_m_isRefused hx hb hK hP hr_m_isRefused (i_in (rfl : a.toInt = a.toInt) (by omega) (by omega)) dX10_does_21 (fun n_72 en_72 bn_72 => ?_)
      refine lv_if_ne (tgt := 45) hx hb dX10_does_22 (by decide) (fun c_73 => ?_) (fun c_73 => ?_)
      · have gc_73 : n_72.toInt ≠ 0 := i_ne (rfl : n_72.toInt = n_72.toInt) (by decide : (0 : Int32).toInt = 0) c_73
        exact hrt f_m_worth f_m_isRefused ⟨(by
          have e9 : n_1.toNatClampNeg = a.toNatClampNeg + 1 := by rw [i_ix (rfl : n_1.toInt = n_1.toInt), i_ix (rfl : a.toInt = a.toInt)]; omega
          rw [← e9]
          unfold wF
          have q0 := congrArg Int32.toInt en_72
          first | rw [if_pos (by omega)] | rw [if_neg (by omega)] | skip
          first | rw [if_pos (by omega)] | rw [if_neg (by omega)] | skip
          first | exact (upd_eta _ _).symm), (by
          have e9 : n_1.toNatClampNeg = a.toNatClampNeg + 1 := by rw [i_ix (rfl : n_1.toInt = n_1.toInt), i_ix (rfl : a.toInt = a.toInt)]; omega
          rw [← e9]
          unfold rF
          have q0 := congrArg Int32.toInt en_72
          first | rw [if_pos (by omega)] | rw [if_neg (by omega)] | skip
          first | rw [if_pos (by omega)] | rw [if_neg (by omega)] | skip
          first | exact (upd_eta _ _).symm), hr_m_isRefused⟩ hP hD hS dX10_does_45
      · have gc_73 : n_72.toInt = 0 := i_eq (rfl : n_72.toInt = n_72.toInt) (by decide : (0 : Int32).toInt = 0) c_73
        refine lv_aload_n hx hb dX10_does_25 rfl (lv_at hl 1 rfl) ?_
        refine gt_MD_MD_worth hx hb hts hown hK hP lwd_178 dX10_does_26 ?_
        refine lv_iload_n hx hb dX10_does_29 rfl (lv_at hl 3 rfl) ?_
        refine al_m_worth hx hb hK hP (i_in (rfl : a.toInt = a.toInt) (by omega) (by omega)) dX10_does_30 (fun n_74 en_74 => ?_)
        refine lv_iload_n hx hb dX10_does_31 rfl (lv_at hl 2 rfl) ?_
        refine lv_bipush (v := 38) hx hb dX10_does_32 (by decide) ?_
        refine lv_icmp_ne (tgt := 41) hx hb dX10_does_34 (by decide) (fun c_75 => ?_) (fun c_75 => ?_)
        · have gc_75 : o.toInt ≠ 38 := i_ne (rfl : o.toInt = o.toInt) (by decide : (38 : Int32).toInt = 38) c_75
          refine lv_iconst (v := 0) hx hb dX10_does_41 (by decide) ?_
          refine lv_icmp_eq (tgt := 46) hx hb dX10_does_42 (by decide) (fun c_76 => ?_) (fun c_76 => ?_)
          · have gc_76 : n_74.toInt = 0 := i_eq (rfl : n_74.toInt = n_74.toInt) (by decide : (0 : Int32).toInt = 0) c_76
            refine lv_aload_n hx hb dX10_does_46 rfl (lv_at hl 1 rfl) ?_
            refine gt_MD_MD_worth hx hb hts hown hK hP lwd_178 dX10_does_47 ?_
            refine lv_iload_n hx hb dX10_does_50 rfl (lv_at hl 3 rfl) ?_
            refine lv_aload_n hx hb dX10_does_51 rfl (lv_at hl 1 rfl) ?_
            refine gt_MD_MD_worth hx hb hts hown hK hP lwd_178 dX10_does_52 ?_
            refine lv_iload_n hx hb dX10_does_55 rfl (lv_at hl 0 rfl) ?_
            refine al_m_worth hx hb hK hP (i_in tn_1 (by omega) (by omega)) dX10_does_56 (fun n_77 en_77 => ?_)
            refine as_m_worth (x := n_77) hx hb hK hP hD hS (i_in (rfl : a.toInt = a.toInt) (by omega) (by omega)) dX10_does_57 (fun f_78 ef_78 H locs hP hD hS => ?_)
            refine lv_aload_n hx hb dX10_does_58 rfl (lv_at hl 1 rfl) ?_
            refine gt_MD_MD_isRefused hx hb hts hown hK hP lwd_179 dX10_does_59 ?_
            refine lv_iload_n hx hb dX10_does_62 rfl (lv_at hl 3 rfl) ?_
            refine lv_aload_n hx hb dX10_does_63 rfl (lv_at hl 1 rfl) ?_
            refine gt_MD_MD_isRefused hx hb hts hown hK hP lwd_179 dX10_does_64 ?_
            refine lv_iload_n hx hb dX10_does_67 rfl (lv_at hl 0 rfl) ?_
            refine al_m_isRefused hx hb hK hP hr_m_isRefused (i_in tn_1 (by omega) (by omega)) dX10_does_68 (fun n_79 en_79 bn_79 => ?_)
            refine as_m_isRefused (x := n_79) hx hb hK hP hD hS hr_m_isRefused (i_in (rfl : a.toInt = a.toInt) (by omega) (by omega)) (by omega) dX10_does_69 (fun f_80 ef_80 rf_80 H locs hP hD hS => ?_)
            exact hrt f_78 f_80 ⟨(by
              have e9 : n_1.toNatClampNeg = a.toNatClampNeg + 1 := by rw [i_ix (rfl : n_1.toInt = n_1.toInt), i_ix (rfl : a.toInt = a.toInt)]; omega
              rw [← e9]
              unfold wF
              have q0 := congrArg Int32.toInt en_72
              have q1 := congrArg Int32.toInt en_74
              have q2 := congrArg Int32.toInt en_77
              have q3 := congrArg Int32.toInt en_79
              first | rw [if_pos (by omega)] | rw [if_neg (by omega)] | skip
              first | rw [if_pos (by omega)] | rw [if_neg (by omega)] | skip
              first | exact (upd_eta _ _).symm | exact ef_78 | exact ef_78.trans (congrArg _ en_72) | exact ef_78.trans (congrArg _ en_74) | exact ef_78.trans (congrArg _ en_77) | exact ef_78.trans (congrArg _ en_79)), (by
              have e9 : n_1.toNatClampNeg = a.toNatClampNeg + 1 := by rw [i_ix (rfl : n_1.toInt = n_1.toInt), i_ix (rfl : a.toInt = a.toInt)]; omega
              rw [← e9]
              unfold rF
              have q0 := congrArg Int32.toInt en_72
              have q1 := congrArg Int32.toInt en_74
              have q2 := congrArg Int32.toInt en_77
              have q3 := congrArg Int32.toInt en_79
              first | rw [if_pos (by omega)] | rw [if_neg (by omega)] | skip
              first | rw [if_pos (by omega)] | rw [if_neg (by omega)] | skip
              first | exact (upd_eta _ _).symm | exact ef_80 | exact ef_80.trans (congrArg _ en_72) | exact ef_80.trans (congrArg _ en_74) | exact ef_80.trans (congrArg _ en_77) | exact ef_80.trans (congrArg _ en_79)), rf_80⟩ hP hD hS dX10_does_70
          · have gc_76 : n_74.toInt ≠ 0 := i_ne (rfl : n_74.toInt = n_74.toInt) (by decide : (0 : Int32).toInt = 0) c_76
            exact hrt f_m_worth f_m_isRefused ⟨(by
              have e9 : n_1.toNatClampNeg = a.toNatClampNeg + 1 := by rw [i_ix (rfl : n_1.toInt = n_1.toInt), i_ix (rfl : a.toInt = a.toInt)]; omega
              rw [← e9]
              unfold wF
              have q0 := congrArg Int32.toInt en_72
              have q1 := congrArg Int32.toInt en_74
              first | rw [if_pos (by omega)] | rw [if_neg (by omega)] | skip
              first | rw [if_pos (by omega)] | rw [if_neg (by omega)] | skip
              first | exact (upd_eta _ _).symm), (by
              have e9 : n_1.toNatClampNeg = a.toNatClampNeg + 1 := by rw [i_ix (rfl : n_1.toInt = n_1.toInt), i_ix (rfl : a.toInt = a.toInt)]; omega
              rw [← e9]
              unfold rF
              have q0 := congrArg Int32.toInt en_72
              have q1 := congrArg Int32.toInt en_74
              first | rw [if_pos (by omega)] | rw [if_neg (by omega)] | skip
              first | rw [if_pos (by omega)] | rw [if_neg (by omega)] | skip
              first | exact (upd_eta _ _).symm), hr_m_isRefused⟩ hP hD hS dX10_does_45
        · have gc_75 : o.toInt = 38 := i_eq (rfl : o.toInt = o.toInt) (by decide : (38 : Int32).toInt = 38) c_75
          exact absurd gc_75 (by omega)
set_option maxHeartbeats 16000000 in
set_option maxRecDepth 100000 in
theorem c_X10_works (l : Launch) (D : va_G) (cy : Nat → ClassId) (hm : Nat → Nat) (v_taped v_walkers v_loads v_pieces v_changeCosts v_planned v_isMarch v_clauseMany v_place v_end v_bad v_clauses v_codes v_open v_stacked v_isOver v_isBehind v_atW v_atL v_atT v_atH v_atM v_atI v_atQ v_packing v_packed v_goPace v_goMinutes v_spentAt v_ranChanges : Int32) (f_m_tape f_m_knee f_m_weight f_m_isLame f_m_loadWeight f_m_owner f_m_food f_m_miles f_m_slope f_m_clauseLetter f_m_sumFrom f_m_codeFrom f_m_codeTo f_m_code f_m_codeArg f_m_newLetter f_m_newSum f_m_newFrom f_m_newTo f_m_newCode f_m_newArg f_m_stack f_m_worth f_m_isRefused f_m_least f_m_packPounds f_m_packOwner f_m_room f_m_givenTo f_m_canBe f_m_setPounds f_m_plainTime f_m_muleTime f_m_planTo f_m_march f_m_tired f_m_ranMinutes f_m_tiredAhead f_m_isReached f_m_toEnd f_m_upTo f_m_upNext f_m_byChanges f_m_bandPaces : Nat → Int32) (sz : Nat) (fr : Int32) (to : Int32) (hb_v_walkers : 0 ≤ v_walkers.toInt ∧ v_walkers.toInt ≤ 6) (hb_v_atW : 0 ≤ v_atW.toInt ∧ v_atW.toInt ≤ 5) (hr_m_weight : rg (0) 250 f_m_weight) (hr_m_isRefused : rg (0) 1 f_m_isRefused) (hd : 0 ≤ fr.toInt ∧ fr.toInt ≤ to.toInt ∧ to.toInt ≤ 200 ∧ dp f_m_code fr.toNatClampNeg (to.toNatClampNeg - fr.toNatClampNeg) = some 1) : gMv l yX10_works cX10_works 5 3 [.ref (hm 0), .int fr, .int to] D cy (wMD cy hm v_taped v_walkers v_loads v_pieces v_changeCosts v_planned v_isMarch v_clauseMany v_place v_end v_bad v_clauses v_codes v_open v_stacked v_isOver v_isBehind v_atW v_atL v_atT v_atH v_atM v_atI v_atQ v_packing v_packed v_goPace v_goMinutes v_spentAt v_ranChanges f_m_tape f_m_knee f_m_weight f_m_isLame f_m_loadWeight f_m_owner f_m_food f_m_miles f_m_slope f_m_clauseLetter f_m_sumFrom f_m_codeFrom f_m_codeTo f_m_code f_m_codeArg f_m_newLetter f_m_newSum f_m_newFrom f_m_newTo f_m_newCode f_m_newArg f_m_stack f_m_worth f_m_isRefused f_m_least f_m_packPounds f_m_packOwner f_m_room f_m_givenTo f_m_canBe f_m_setPounds f_m_plainTime f_m_muleTime f_m_planTo f_m_march f_m_tired f_m_ranMinutes f_m_tiredAhead f_m_isReached f_m_toEnd f_m_upTo f_m_upNext f_m_byChanges f_m_bandPaces) NT sz (fun (u : (Nat → Int32) × (Nat → Int32)) => ((u.1) 0 = evW f_m_code f_m_codeArg (valF f_m_knee f_m_weight v_walkers v_atW v_atL v_atT v_atH v_atM v_atI v_atQ) fr.toNatClampNeg (to.toNatClampNeg - fr.toNatClampNeg) ∧ (u.2) 0 = evR f_m_code f_m_codeArg (valF f_m_knee f_m_weight v_walkers v_atW v_atL v_atT v_atH v_atM v_atI v_atQ) fr.toNatClampNeg (to.toNatClampNeg - fr.toNatClampNeg)) ∧ (rg (0) 1 (u.2))) (fun u => wMD cy hm v_taped v_walkers v_loads v_pieces v_changeCosts v_planned v_isMarch v_clauseMany v_place v_end v_bad v_clauses v_codes v_open v_stacked v_isOver v_isBehind v_atW v_atL v_atT v_atH v_atM v_atI v_atQ v_packing v_packed v_goPace v_goMinutes v_spentAt v_ranChanges f_m_tape f_m_knee f_m_weight f_m_isLame f_m_loadWeight f_m_owner f_m_food f_m_miles f_m_slope f_m_clauseLetter f_m_sumFrom f_m_codeFrom f_m_codeTo f_m_code f_m_codeArg f_m_newLetter f_m_newSum f_m_newFrom f_m_newTo f_m_newCode f_m_newArg f_m_stack (u.1) (u.2) f_m_least f_m_packPounds f_m_packOwner f_m_room f_m_givenTo f_m_canBe f_m_setPounds f_m_plainTime f_m_muleTime f_m_planTo f_m_march f_m_tired f_m_ranMinutes f_m_tiredAhead f_m_isReached f_m_toEnd f_m_upTo f_m_upNext f_m_byChanges f_m_bandPaces) := by
  refine gMv_in (by decide) (Nat.le_of_ble_eq_true rfl) ?_
  intro p e s m args below meth c A ls Q hx hb hml hts hown hsz hP hK hD hN hAe hA hS hl hret
  subst hsz
  have hl : lv_has ls 5 [(0, .ref (hm 0)), (1, .int fr), (2, .int to)] := hl
  have hrt := fun (f_m_worth' : Nat → Int32) (f_m_isRefused' : Nat → Int32) (hp : (f_m_worth' 0 = evW f_m_code f_m_codeArg (valF f_m_knee f_m_weight v_walkers v_atW v_atL v_atT v_atH v_atM v_atI v_atQ) fr.toNatClampNeg (to.toNatClampNeg - fr.toNatClampNeg) ∧ f_m_isRefused' 0 = evR f_m_code f_m_codeArg (valF f_m_knee f_m_weight v_walkers v_atW v_atL v_atT v_atH v_atM v_atI v_atQ) fr.toNatClampNeg (to.toNatClampNeg - fr.toNatClampNeg)) ∧ (rg (0) 1 f_m_isRefused')) {H : Heap} {locs : List Loc} {pc : Nat} {ls : Array Slot} => hret (f_m_worth', f_m_isRefused') (H := H) (locs := locs) (pc := pc) (ls := ls) hp
  clear hret
  refine lv_iconst (v := 0) hx hb dX10_works_0 (by decide) ?_
  refine lv_istore_n (lv' := [(3, .int 0), (0, .ref (hm 0)), (1, .int fr), (2, .int to)]) hx hb dX10_works_1 rfl hl (by decide) rfl (fun ls hl => ?_)
  refine lv_iload_n hx hb dX10_works_2 rfl (lv_at hl 2 rfl) ?_
  refine lv_istore (lv' := [(4, .int fr), (3, .int 0), (0, .ref (hm 0)), (1, .int fr), (2, .int to)]) hx hb dX10_works_3 hl (by decide) rfl (fun ls hl => ?_)
  have L5_9 : ∀ (n : Nat) (f_5 : Nat → Int32) (f_6 : Nat → Int32) (l_7 : Int32) (l_8 : Int32), (rg (0) 1 f_5) → (0 ≤ l_8.toInt ∧ l_8.toInt ≤ 200) → (∃ k : Nat, l_8.toInt = fr.toInt + k ∧ l_8.toInt ≤ to.toInt ∧ 0 ≤ l_7.toInt ∧ dp f_m_code fr.toNatClampNeg k = some l_7.toInt.toNat ∧ runA f_m_code f_m_codeArg (valF f_m_knee f_m_weight v_walkers v_atW v_atL v_atT v_atH v_atM v_atI v_atQ) fr.toNatClampNeg (f_m_worth, f_m_isRefused, 0) k = (f_6, f_5, l_7.toInt.toNat)) → 201 - l_8.toInt < n → ∀ (H : Heap) (locs : List Loc) (ls : Array Slot), va_P D vwCl (wMD cy hm v_taped v_walkers v_loads v_pieces v_changeCosts v_planned v_isMarch v_clauseMany v_place v_end v_bad v_clauses v_codes v_open v_stacked v_isOver v_isBehind v_atW v_atL v_atT v_atH v_atM v_atI v_atQ v_packing v_packed v_goPace v_goMinutes v_spentAt v_ranChanges f_m_tape f_m_knee f_m_weight f_m_isLame f_m_loadWeight f_m_owner f_m_food f_m_miles f_m_slope f_m_clauseLetter f_m_sumFrom f_m_codeFrom f_m_codeTo f_m_code f_m_codeArg f_m_newLetter f_m_newSum f_m_newFrom f_m_newTo f_m_newCode f_m_newArg f_m_stack f_6 f_5 f_m_least f_m_packPounds f_m_packOwner f_m_room f_m_givenTo f_m_canBe f_m_setPounds f_m_plainTime f_m_muleTime f_m_planTo f_m_march f_m_tired f_m_ranMinutes f_m_tiredAhead f_m_isReached f_m_toEnd f_m_upTo f_m_upNext f_m_byChanges f_m_bandPaces) H → va_D A (wMD cy hm v_taped v_walkers v_loads v_pieces v_changeCosts v_planned v_isMarch v_clauseMany v_place v_end v_bad v_clauses v_codes v_open v_stacked v_isOver v_isBehind v_atW v_atL v_atT v_atH v_atM v_atI v_atQ v_packing v_packed v_goPace v_goMinutes v_spentAt v_ranChanges f_m_tape f_m_knee f_m_weight f_m_isLame f_m_loadWeight f_m_owner f_m_food f_m_miles f_m_slope f_m_clauseLetter f_m_sumFrom f_m_codeFrom f_m_codeTo f_m_code f_m_codeArg f_m_newLetter f_m_newSum f_m_newFrom f_m_newTo f_m_newCode f_m_newArg f_m_stack f_6 f_5 f_m_least f_m_packPounds f_m_packOwner f_m_room f_m_givenTo f_m_canBe f_m_setPounds f_m_plainTime f_m_muleTime f_m_planTo f_m_march f_m_tired f_m_ranMinutes f_m_tiredAhead f_m_isReached f_m_toEnd f_m_upTo f_m_upNext f_m_byChanges f_m_bandPaces) → va_S A s.heap H locs → lv_has ls 5 [(4, .int l_8), (3, .int l_7), (0, .ref (hm 0)), (1, .int fr), (2, .int to)] → W p l e (gRm 3) s m args below meth c H locs 0 0 Q (F0 m 5 ls []) := by
    intro n
    induction n with
    | zero => intro f_5 f_6 l_7 l_8 hL5_9_0 hL5_9_1 hL5_9_2 hm; exact absurd hm (by omega)
    | succ n ih5_9 =>
      intro f_5 f_6 l_7 l_8 hL5_9_0 hL5_9_1 hL5_9_2 hmL5_9 H locs ls hP hD hS hl
      obtain ⟨k9, hk1, hk4, hk2, hk3, hk5⟩ := hL5_9_2
      refine lv_iload hx hb dX10_works_5 (lv_at hl 0 rfl) ?_
      refine lv_iload_n hx hb dX10_works_7 rfl (lv_at hl 4 rfl) ?_
      refine lv_icmp_ge (tgt := 127) hx hb dX10_works_8 (by decide) (fun c_10 => ?_) (fun c_10 => ?_)
      · have gc_10 : to.toInt ≤ l_8.toInt := i_le (rfl : to.toInt = to.toInt) (rfl : l_8.toInt = l_8.toInt) c_10
        exact hrt f_6 f_5 ⟨(by
          have hkk : to.toNatClampNeg - fr.toNatClampNeg = k9 := by rw [i_ix (rfl : to.toInt = to.toInt), i_ix (rfl : fr.toInt = fr.toInt)]; omega
          have hd9 := hd.2.2.2
          rw [hkk] at hd9 ⊢
          exact ev_of hd9 (Nat.le_refl 1) hk5), hL5_9_0⟩ hP hD hS dX10_works_127
      · have gc_10 : l_8.toInt < to.toInt := i_nle (rfl : to.toInt = to.toInt) (rfl : l_8.toInt = l_8.toInt) c_10
        have hA9 : l_8.toNatClampNeg = fr.toNatClampNeg + k9 := by rw [i_ix (rfl : l_8.toInt = l_8.toInt), i_ix (rfl : fr.toInt = fr.toInt)]; omega
        have hk9 : k9 < to.toNatClampNeg - fr.toNatClampNeg := by rw [i_ix (rfl : to.toInt = to.toInt), i_ix (rfl : fr.toInt = fr.toInt)]; omega
        have hst9 := dp_step hd.2.2.2 hk9 hk3
        have hle9 := dp_le hk3
        
        refine lv_aload_n hx hb dX10_works_11 rfl (lv_at hl 2 rfl) ?_
        refine gt_MD_MD_code hx hb hts hown hK hP lwd_169 dX10_works_12 ?_
        refine lv_iload hx hb dX10_works_15 (lv_at hl 0 rfl) ?_
        refine al_m_code hx hb hK hP (i_in (rfl : l_8.toInt = l_8.toInt) (by omega) (by omega)) dX10_works_17 (fun n_11 en_11 => ?_)
        have wqn_11 : n_11.toInt = (f_m_code (fr.toNatClampNeg + k9)).toInt := by rw [en_11, hA9]
        refine lv_iconst (v := 2) hx hb dX10_works_18 (by decide) ?_
        refine lv_icmp_le (tgt := 42) hx hb dX10_works_19 (by decide) (fun c_12 => ?_) (fun c_12 => ?_)
        · have gc_12 : n_11.toInt ≤ 2 := i_le (rfl : n_11.toInt = n_11.toInt) (by decide : (2 : Int32).toInt = 2) c_12
          refine lv_aload_n hx hb dX10_works_42 rfl (lv_at hl 2 rfl) ?_
          refine gt_MD_MD_code hx hb hts hown hK hP lwd_169 dX10_works_43 ?_
          refine lv_iload hx hb dX10_works_46 (lv_at hl 0 rfl) ?_
          refine al_m_code hx hb hK hP (i_in (rfl : l_8.toInt = l_8.toInt) (by omega) (by omega)) dX10_works_48 (fun n_13 en_13 => ?_)
          have wqn_13 : n_13.toInt = (f_m_code (fr.toNatClampNeg + k9)).toInt := by rw [en_13, hA9]
          obtain rfl : n_11 = n_13 := en_11.trans en_13.symm
          refine lv_iconst (v := 2) hx hb dX10_works_49 (by decide) ?_
          refine lv_icmp_ne (tgt := 74) hx hb dX10_works_50 (by decide) (fun c_14 => ?_) (fun c_14 => ?_)
          · have gc_14 : n_11.toInt ≠ 2 := i_ne (rfl : n_11.toInt = n_11.toInt) (by decide : (2 : Int32).toInt = 2) c_14
            skip
            refine lv_aload_n hx hb dX10_works_74 rfl (lv_at hl 2 rfl) ?_
            refine gt_MD_MD_isRefused hx hb hts hown hK hP lwd_179 dX10_works_75 ?_
            refine lv_iload_n hx hb dX10_works_78 rfl (lv_at hl 1 rfl) ?_
            refine lv_iconst (v := 0) hx hb dX10_works_79 (by decide) ?_
            refine as_m_isRefused (x := 0) hx hb hK hP hD hS hL5_9_0 (i_in (rfl : l_7.toInt = l_7.toInt) (by omega) (by omega)) (by decide) dX10_works_80 (fun f_15 ef_15 rf_15 H locs hP hD hS => ?_)
            refine lv_aload_n hx hb dX10_works_81 rfl (lv_at hl 2 rfl) ?_
            refine gt_MD_MD_worth hx hb hts hown hK hP lwd_178 dX10_works_82 ?_
            refine lv_iload_n hx hb dX10_works_85 rfl (lv_at hl 1 rfl) ?_
            refine lv_aload_n hx hb dX10_works_86 rfl (lv_at hl 2 rfl) ?_
            refine gt_MD_MD_code hx hb hts hown hK hP lwd_169 dX10_works_87 ?_
            refine lv_iload hx hb dX10_works_90 (lv_at hl 0 rfl) ?_
            refine al_m_code hx hb hK hP (i_in (rfl : l_8.toInt = l_8.toInt) (by omega) (by omega)) dX10_works_92 (fun n_16 en_16 => ?_)
            have wqn_16 : n_16.toInt = (f_m_code (fr.toNatClampNeg + k9)).toInt := by rw [en_16, hA9]
            obtain rfl : n_11 = n_16 := en_11.trans en_16.symm
            refine lv_if_ne (tgt := 106) hx hb dX10_works_93 (by decide) (fun c_17 => ?_) (fun c_17 => ?_)
            · have gc_17 : n_11.toInt ≠ 0 := i_ne (rfl : n_11.toInt = n_11.toInt) (by decide : (0 : Int32).toInt = 0) c_17
              skip
              refine lv_aload_n hx hb dX10_works_106 rfl (lv_at hl 2 rfl) ?_
              refine lv_aload_n hx hb dX10_works_107 rfl (lv_at hl 2 rfl) ?_
              refine gt_MD_MD_codeArg hx hb hts hown hK hP lwd_170 dX10_works_108 ?_
              refine lv_iload hx hb dX10_works_111 (lv_at hl 0 rfl) ?_
              refine al_m_codeArg hx hb hK hP (i_in (rfl : l_8.toInt = l_8.toInt) (by omega) (by omega)) dX10_works_113 (fun n_18 en_18 => ?_)
              refine xi hD hS hA (xV (As := [.int n_18]) (rest := [.int l_7, .ref (hm 23)]) hx hb hml hown hts hK hP hD hS hA NT_ok hN hAe hl.1 ⟨Nat.le_refl _, Nat.le_refl _⟩ 0 rfl rfl rfl (c_X10_valueOf l D cy hm v_taped v_walkers v_loads v_pieces v_changeCosts v_planned v_isMarch v_clauseMany v_place v_end v_bad v_clauses v_codes v_open v_stacked v_isOver v_isBehind v_atW v_atL v_atT v_atH v_atM v_atI v_atQ v_packing v_packed v_goPace v_goMinutes v_spentAt v_ranChanges f_m_tape f_m_knee f_m_weight f_m_isLame f_m_loadWeight f_m_owner f_m_food f_m_miles f_m_slope f_m_clauseLetter f_m_sumFrom f_m_codeFrom f_m_codeTo f_m_code f_m_codeArg f_m_newLetter f_m_newSum f_m_newFrom f_m_newTo f_m_newCode f_m_newArg f_m_stack f_6 f_15 f_m_least f_m_packPounds f_m_packOwner f_m_room f_m_givenTo f_m_canBe f_m_setPounds f_m_plainTime f_m_muleTime f_m_planTo f_m_march f_m_tired f_m_ranMinutes f_m_tiredAhead f_m_isReached f_m_toEnd f_m_upTo f_m_upNext f_m_byChanges f_m_bandPaces H.size n_18 (by omega) (by omega) hr_m_weight) (gi_V lwd_579 lwd_580 lwd_581 lwd_5 lwd_582) ⟨rfl, hd_X10_valueOf⟩ ⟨Nat.le_of_ble_eq_true rfl, Nat.le_of_ble_eq_true rfl⟩ rfl (Nat.le_of_ble_eq_true rfl) dX10_works_114) (fun r_20 u_19 H locs hw hP hD hS => ?_)
              try dsimp only at hw hP hD
              have p_21 := hw
              clear hw
              refine as_m_worth (x := r_20) hx hb hK hP hD hS (i_in (rfl : l_7.toInt = l_7.toInt) (by omega) (by omega)) dX10_works_117 (fun f_22 ef_22 H locs hP hD hS => ?_)
              obtain ⟨n_23, en_23⟩ : ∃ y : Int32, y = l_7 + 1 := ⟨_, rfl⟩
              have tn_23 : n_23.toInt = l_7.toInt + 1 := i_add en_23 (rfl : l_7.toInt = l_7.toInt) (by decide : (1 : Int32).toInt = 1) (by omega) (by omega)
              refine lv_iinc (v := n_23) (lv' := [(3, .int n_23), (4, .int l_8), (0, .ref (hm 0)), (1, .int fr), (2, .int to)]) hx hb dX10_works_118 hl (k := 1) rfl (by rw [en_23]; rfl) (by decide) rfl (fun ls hl => ?_)
              obtain ⟨n_24, en_24⟩ : ∃ y : Int32, y = l_8 + 1 := ⟨_, rfl⟩
              have tn_24 : n_24.toInt = l_8.toInt + 1 := i_add en_24 (rfl : l_8.toInt = l_8.toInt) (by decide : (1 : Int32).toInt = 1) (by omega) (by omega)
              refine lv_iinc (v := n_24) (lv' := [(4, .int n_24), (3, .int n_23), (0, .ref (hm 0)), (1, .int fr), (2, .int to)]) hx hb dX10_works_121 hl (k := 1) rfl (by rw [en_24]; rfl) (by decide) rfl (fun ls hl => ?_)
              refine lv_goto (tgt := 5) hx hb dX10_works_124 (by decide) ?_
              exact ih5_9 f_15 f_22 n_23 n_24 rf_15 (by omega) ⟨k9 + 1, by omega, by omega, by omega, (hst9.elim (fun z => absurd z.1 (by omega)) (fun z => z.elim (fun z => absurd z.1 (by omega)) (fun z => z.2))).trans (congrArg some (by omega)), (by
                show stA f_m_code f_m_codeArg (valF f_m_knee f_m_weight v_walkers v_atW v_atL v_atT v_atH v_atM v_atI v_atQ) (fr.toNatClampNeg + k9) (runA f_m_code f_m_codeArg (valF f_m_knee f_m_weight v_walkers v_atW v_atL v_atT v_atH v_atM v_atI v_atQ) fr.toNatClampNeg (f_m_worth, f_m_isRefused, 0) k9) = _
                rw [hk5, stA_push (by omega)]
                dsimp only
                rw [if_neg (by omega), ef_22, ef_15, show l_7.toNatClampNeg = l_7.toInt.toNat from i_ix (rfl : l_7.toInt = l_7.toInt), show n_23.toInt.toNat = l_7.toInt.toNat + 1 from by omega, p_21, en_18, hA9])⟩ (by omega) _ _ _ hP hD hS (lv_sub hl [0, 1, 2, 3, 4] rfl)
            · have gc_17 : n_11.toInt = 0 := i_eq (rfl : n_11.toInt = n_11.toInt) (by decide : (0 : Int32).toInt = 0) c_17
              skip
              refine lv_aload_n hx hb dX10_works_96 rfl (lv_at hl 2 rfl) ?_
              refine gt_MD_MD_codeArg hx hb hts hown hK hP lwd_170 dX10_works_97 ?_
              refine lv_iload hx hb dX10_works_100 (lv_at hl 0 rfl) ?_
              refine al_m_codeArg hx hb hK hP (i_in (rfl : l_8.toInt = l_8.toInt) (by omega) (by omega)) dX10_works_102 (fun n_25 en_25 => ?_)
              refine lv_goto (tgt := 117) hx hb dX10_works_103 (by decide) ?_
              refine as_m_worth (x := n_25) hx hb hK hP hD hS (i_in (rfl : l_7.toInt = l_7.toInt) (by omega) (by omega)) dX10_works_117 (fun f_26 ef_26 H locs hP hD hS => ?_)
              obtain ⟨n_27, en_27⟩ : ∃ y : Int32, y = l_7 + 1 := ⟨_, rfl⟩
              have tn_27 : n_27.toInt = l_7.toInt + 1 := i_add en_27 (rfl : l_7.toInt = l_7.toInt) (by decide : (1 : Int32).toInt = 1) (by omega) (by omega)
              refine lv_iinc (v := n_27) (lv' := [(3, .int n_27), (4, .int l_8), (0, .ref (hm 0)), (1, .int fr), (2, .int to)]) hx hb dX10_works_118 hl (k := 1) rfl (by rw [en_27]; rfl) (by decide) rfl (fun ls hl => ?_)
              obtain ⟨n_28, en_28⟩ : ∃ y : Int32, y = l_8 + 1 := ⟨_, rfl⟩
              have tn_28 : n_28.toInt = l_8.toInt + 1 := i_add en_28 (rfl : l_8.toInt = l_8.toInt) (by decide : (1 : Int32).toInt = 1) (by omega) (by omega)
              refine lv_iinc (v := n_28) (lv' := [(4, .int n_28), (3, .int n_27), (0, .ref (hm 0)), (1, .int fr), (2, .int to)]) hx hb dX10_works_121 hl (k := 1) rfl (by rw [en_28]; rfl) (by decide) rfl (fun ls hl => ?_)
              refine lv_goto (tgt := 5) hx hb dX10_works_124 (by decide) ?_
              exact ih5_9 f_15 f_26 n_27 n_28 rf_15 (by omega) ⟨k9 + 1, by omega, by omega, by omega, (hst9.elim (fun z => absurd z.1 (by omega)) (fun z => z.elim (fun z => absurd z.1 (by omega)) (fun z => z.2))).trans (congrArg some (by omega)), (by
                show stA f_m_code f_m_codeArg (valF f_m_knee f_m_weight v_walkers v_atW v_atL v_atT v_atH v_atM v_atI v_atQ) (fr.toNatClampNeg + k9) (runA f_m_code f_m_codeArg (valF f_m_knee f_m_weight v_walkers v_atW v_atL v_atT v_atH v_atM v_atI v_atQ) fr.toNatClampNeg (f_m_worth, f_m_isRefused, 0) k9) = _
                rw [hk5, stA_push (by omega)]
                dsimp only
                rw [if_pos (by omega), ef_26, ef_15, show l_7.toNatClampNeg = l_7.toInt.toNat from i_ix (rfl : l_7.toInt = l_7.toInt), show n_27.toInt.toNat = l_7.toInt.toNat + 1 from by omega, en_25, hA9])⟩ (by omega) _ _ _ hP hD hS (lv_sub hl [0, 1, 2, 3, 4] rfl)
          · have gc_14 : n_11.toInt = 2 := i_eq (rfl : n_11.toInt = n_11.toInt) (by decide : (2 : Int32).toInt = 2) c_14
            skip
            refine lv_aload_n hx hb dX10_works_53 rfl (lv_at hl 2 rfl) ?_
            refine gt_MD_MD_worth hx hb hts hown hK hP lwd_178 dX10_works_54 ?_
            refine lv_iload_n hx hb dX10_works_57 rfl (lv_at hl 1 rfl) ?_
            refine lv_iconst (v := 1) hx hb dX10_works_58 (by decide) ?_
            refine lv_isub hx hb dX10_works_59 ?_
            have hb_29 := And.intro (i_bot l_7) (i_top l_7)
            refine lv_topi (fun n_30 en_30 => ?_)
            have tn_30 : n_30.toInt = l_7.toInt - 1 := i_sub en_30 (rfl : l_7.toInt = l_7.toInt) (by decide : (1 : Int32).toInt = 1) (by omega) (by omega)
            refine lv_iconst (v := 1) hx hb dX10_works_60 (by decide) ?_
            refine lv_aload_n hx hb dX10_works_61 rfl (lv_at hl 2 rfl) ?_
            refine gt_MD_MD_worth hx hb hts hown hK hP lwd_178 dX10_works_62 ?_
            refine lv_iload_n hx hb dX10_works_65 rfl (lv_at hl 1 rfl) ?_
            refine lv_iconst (v := 1) hx hb dX10_works_66 (by decide) ?_
            refine lv_isub hx hb dX10_works_67 ?_
            refine lv_topi (fun n_31 en_31 => ?_)
            have tn_31 : n_31.toInt = l_7.toInt - 1 := i_sub en_31 (rfl : l_7.toInt = l_7.toInt) (by decide : (1 : Int32).toInt = 1) (by omega) (by omega)
            refine al_m_worth hx hb hK hP (i_in tn_31 (by omega) (by omega)) dX10_works_68 (fun n_32 en_32 => ?_)
            refine lv_isub hx hb dX10_works_69 ?_
            refine lv_topi (fun n_33 en_33 => ?_)
            refine as_m_worth (x := n_33) hx hb hK hP hD hS (i_in tn_30 (by omega) (by omega)) dX10_works_70 (fun f_34 ef_34 H locs hP hD hS => ?_)
            refine lv_goto (tgt := 121) hx hb dX10_works_71 (by decide) ?_
            obtain ⟨n_35, en_35⟩ : ∃ y : Int32, y = l_8 + 1 := ⟨_, rfl⟩
            have tn_35 : n_35.toInt = l_8.toInt + 1 := i_add en_35 (rfl : l_8.toInt = l_8.toInt) (by decide : (1 : Int32).toInt = 1) (by omega) (by omega)
            refine lv_iinc (v := n_35) (lv' := [(4, .int n_35), (3, .int l_7), (0, .ref (hm 0)), (1, .int fr), (2, .int to)]) hx hb dX10_works_121 hl (k := 0) rfl (by rw [en_35]; rfl) (by decide) rfl (fun ls hl => ?_)
            refine lv_goto (tgt := 5) hx hb dX10_works_124 (by decide) ?_
            exact ih5_9 f_5 f_34 l_7 n_35 hL5_9_0 (by omega) ⟨k9 + 1, by omega, by omega, by omega, (hst9.elim (fun z => absurd z.1 (by omega)) (fun z => z.elim (fun z => z.2.2) (fun z => absurd z.1 (by omega)))).trans (congrArg some (by omega)), (by
              show stA f_m_code f_m_codeArg (valF f_m_knee f_m_weight v_walkers v_atW v_atL v_atT v_atH v_atM v_atI v_atQ) (fr.toNatClampNeg + k9) (runA f_m_code f_m_codeArg (valF f_m_knee f_m_weight v_walkers v_atW v_atL v_atT v_atH v_atM v_atI v_atQ) fr.toNatClampNeg (f_m_worth, f_m_isRefused, 0) k9) = _
              rw [hk5, stA_not (by omega)]
              dsimp only
              rw [ef_34, en_33, en_32, show n_31.toNatClampNeg = l_7.toInt.toNat - 1 from by rw [i_ix (rfl : n_31.toInt = n_31.toInt)]; omega, show n_30.toNatClampNeg = l_7.toInt.toNat - 1 from by rw [i_ix (rfl : n_30.toInt = n_30.toInt)]; omega])⟩ (by omega) _ _ _ hP hD hS (lv_sub hl [0, 1, 2, 3, 4] rfl)
        · have gc_12 : 2 < n_11.toInt := i_nle (rfl : n_11.toInt = n_11.toInt) (by decide : (2 : Int32).toInt = 2) c_12
          skip
          obtain ⟨n_36, en_36⟩ : ∃ y : Int32, y = l_7 + (-1) := ⟨_, rfl⟩
          have tn_36 : n_36.toInt = l_7.toInt + (-1) := i_add en_36 (rfl : l_7.toInt = l_7.toInt) (by decide : ((-1) : Int32).toInt = (-1)) (by omega) (by omega)
          refine lv_iinc (v := n_36) (lv' := [(3, .int n_36), (4, .int l_8), (0, .ref (hm 0)), (1, .int fr), (2, .int to)]) hx hb dX10_works_22 hl (k := 1) rfl (by rw [en_36]; rfl) (by decide) rfl (fun ls hl => ?_)
          refine lv_aload_n hx hb dX10_works_25 rfl (lv_at hl 2 rfl) ?_
          refine lv_aload_n hx hb dX10_works_26 rfl (lv_at hl 2 rfl) ?_
          refine gt_MD_MD_code hx hb hts hown hK hP lwd_169 dX10_works_27 ?_
          refine lv_iload hx hb dX10_works_30 (lv_at hl 1 rfl) ?_
          refine al_m_code hx hb hK hP (i_in (rfl : l_8.toInt = l_8.toInt) (by omega) (by omega)) dX10_works_32 (fun n_37 en_37 => ?_)
          obtain rfl : n_11 = n_37 := en_11.trans en_37.symm
          refine lv_iload_n hx hb dX10_works_33 rfl (lv_at hl 0 rfl) ?_
          refine lv_iconst (v := 1) hx hb dX10_works_34 (by decide) ?_
          refine lv_isub hx hb dX10_works_35 ?_
          have hb_38 := And.intro (i_bot n_36) (i_top n_36)
          refine lv_topi (fun n_39 en_39 => ?_)
          have tn_39 : n_39.toInt = (l_7.toInt + (-1)) - 1 := i_sub en_39 tn_36 (by decide : (1 : Int32).toInt = 1) (by omega) (by omega)
          skip
          refine xv hD hS hA (xV (As := [.int n_11, .int n_39]) (rest := []) hx hb hml hown hts hK hP hD hS hA NT_ok hN hAe hl.1 ⟨Nat.le_refl _, Nat.le_refl _⟩ 0 rfl rfl rfl (c_X10_does l D cy hm v_taped v_walkers v_loads v_pieces v_changeCosts v_planned v_isMarch v_clauseMany v_place v_end v_bad v_clauses v_codes v_open v_stacked v_isOver v_isBehind v_atW v_atL v_atT v_atH v_atM v_atI v_atQ v_packing v_packed v_goPace v_goMinutes v_spentAt v_ranChanges f_m_tape f_m_knee f_m_weight f_m_isLame f_m_loadWeight f_m_owner f_m_food f_m_miles f_m_slope f_m_clauseLetter f_m_sumFrom f_m_codeFrom f_m_codeTo f_m_code f_m_codeArg f_m_newLetter f_m_newSum f_m_newFrom f_m_newTo f_m_newCode f_m_newArg f_m_stack f_6 f_5 f_m_least f_m_packPounds f_m_packOwner f_m_room f_m_givenTo f_m_canBe f_m_setPounds f_m_plainTime f_m_muleTime f_m_planTo f_m_march f_m_tired f_m_ranMinutes f_m_tiredAhead f_m_isReached f_m_toEnd f_m_upTo f_m_upNext f_m_byChanges f_m_bandPaces H.size n_11 n_39 hL5_9_0 (by omega)) (gi_V lwd_572 lwd_573 lwd_574 lwd_5 lwd_575) ⟨rfl, hd_X10_does⟩ ⟨Nat.le_of_ble_eq_true rfl, Nat.le_of_ble_eq_true rfl⟩ rfl (Nat.le_of_ble_eq_true rfl) dX10_works_36) (fun u_40 H locs hw hP hD hS => ?_)
          obtain ⟨zworth_42, zisRefused_43⟩ := u_40
          try dsimp only at hw hP hD
          obtain ⟨p_44, p_45, p_46⟩ := hw
          refine lv_goto (tgt := 121) hx hb dX10_works_39 (by decide) ?_
          obtain ⟨n_47, en_47⟩ : ∃ y : Int32, y = l_8 + 1 := ⟨_, rfl⟩
          have tn_47 : n_47.toInt = l_8.toInt + 1 := i_add en_47 (rfl : l_8.toInt = l_8.toInt) (by decide : (1 : Int32).toInt = 1) (by omega) (by omega)
          refine lv_iinc (v := n_47) (lv' := [(4, .int n_47), (3, .int n_36), (0, .ref (hm 0)), (1, .int fr), (2, .int to)]) hx hb dX10_works_121 hl (k := 1) rfl (by rw [en_47]; rfl) (by decide) rfl (fun ls hl => ?_)
          refine lv_goto (tgt := 5) hx hb dX10_works_124 (by decide) ?_
          exact ih5_9 zisRefused_43 zworth_42 n_36 n_47 p_46 (by omega) ⟨k9 + 1, by omega, by omega, by omega, (hst9.elim (fun z => z.2.2) (fun z => z.elim (fun z => absurd z.1 (by omega)) (fun z => absurd z.1 (by omega)))).trans (congrArg some (by omega)), (by
            show stA f_m_code f_m_codeArg (valF f_m_knee f_m_weight v_walkers v_atW v_atL v_atT v_atH v_atM v_atI v_atQ) (fr.toNatClampNeg + k9) (runA f_m_code f_m_codeArg (valF f_m_knee f_m_weight v_walkers v_atW v_atL v_atT v_atH v_atM v_atI v_atQ) fr.toNatClampNeg (f_m_worth, f_m_isRefused, 0) k9) = _
            rw [hk5, stA_bin (by omega)]
            dsimp only
            rw [p_44, p_45, show n_39.toNatClampNeg = l_7.toInt.toNat - 2 from by rw [i_ix (rfl : n_39.toInt = n_39.toInt)]; omega, show n_36.toInt.toNat = l_7.toInt.toNat - 1 from by omega, en_11, hA9])⟩ (by omega) _ _ _ hP hD hS (lv_sub hl [0, 1, 2, 3, 4] rfl)
  have k_48 : (0 : Int32).toInt = 0 := by decide
  exact L5_9 8589934592 f_m_isRefused f_m_worth 0 fr hr_m_isRefused (by omega) ⟨0, by omega, by omega, by decide, rfl, rfl⟩ (by omega) _ _ _ hP hD hS (lv_sub hl [0, 1, 2, 3, 4] rfl)
set_option maxHeartbeats 16000000 in
set_option maxRecDepth 100000 in
theorem c_X10_tells (l : Launch) (D : va_G) (cy : Nat → ClassId) (hm : Nat → Nat) (v_taped v_walkers v_loads v_pieces v_changeCosts v_planned v_isMarch v_clauseMany v_place v_end v_bad v_clauses v_codes v_open v_stacked v_isOver v_isBehind v_atW v_atL v_atT v_atH v_atM v_atI v_atQ v_packing v_packed v_goPace v_goMinutes v_spentAt v_ranChanges : Int32) (f_m_tape f_m_knee f_m_weight f_m_isLame f_m_loadWeight f_m_owner f_m_food f_m_miles f_m_slope f_m_clauseLetter f_m_sumFrom f_m_codeFrom f_m_codeTo f_m_code f_m_codeArg f_m_newLetter f_m_newSum f_m_newFrom f_m_newTo f_m_newCode f_m_newArg f_m_stack f_m_worth f_m_isRefused f_m_least f_m_packPounds f_m_packOwner f_m_room f_m_givenTo f_m_canBe f_m_setPounds f_m_plainTime f_m_muleTime f_m_planTo f_m_march f_m_tired f_m_ranMinutes f_m_tiredAhead f_m_isReached f_m_toEnd f_m_upTo f_m_upNext f_m_byChanges f_m_bandPaces : Nat → Int32) (sz : Nat) (letter : Int32) (lo1 : Int32) (hi1 : Int32) (hb_v_walkers : 0 ≤ v_walkers.toInt ∧ v_walkers.toInt ≤ 6) (hb_v_clauseMany : 0 ≤ v_clauseMany.toInt ∧ v_clauseMany.toInt ≤ 14) (hb_v_atW : 0 ≤ v_atW.toInt ∧ v_atW.toInt ≤ 5) (hr_m_weight : rg (0) 250 f_m_weight) (hr_m_isRefused : rg (0) 1 f_m_isRefused) (hwf : wfC v_clauseMany f_m_sumFrom f_m_codeFrom f_m_codeTo f_m_code) (hl : lo1.toInt ≤ 0 ∧ 0 ≤ hi1.toInt) : gMi l yX10_tells cX10_tells 5 .int 4 [.ref (hm 0), .int letter, .int lo1, .int hi1] D cy (wMD cy hm v_taped v_walkers v_loads v_pieces v_changeCosts v_planned v_isMarch v_clauseMany v_place v_end v_bad v_clauses v_codes v_open v_stacked v_isOver v_isBehind v_atW v_atL v_atT v_atH v_atM v_atI v_atQ v_packing v_packed v_goPace v_goMinutes v_spentAt v_ranChanges f_m_tape f_m_knee f_m_weight f_m_isLame f_m_loadWeight f_m_owner f_m_food f_m_miles f_m_slope f_m_clauseLetter f_m_sumFrom f_m_codeFrom f_m_codeTo f_m_code f_m_codeArg f_m_newLetter f_m_newSum f_m_newFrom f_m_newTo f_m_newCode f_m_newArg f_m_stack f_m_worth f_m_isRefused f_m_least f_m_packPounds f_m_packOwner f_m_room f_m_givenTo f_m_canBe f_m_setPounds f_m_plainTime f_m_muleTime f_m_planTo f_m_march f_m_tired f_m_ranMinutes f_m_tiredAhead f_m_isReached f_m_toEnd f_m_upTo f_m_upNext f_m_byChanges f_m_bandPaces) NT sz (fun (r : Int32) (u : (Nat → Int32) × (Nat → Int32)) => (lo1.toInt ≤ r.toInt ∧ r.toInt ≤ hi1.toInt) ∧ (r = tellF f_m_clauseLetter f_m_sumFrom f_m_codeFrom f_m_codeTo f_m_code f_m_codeArg (valF f_m_knee f_m_weight v_walkers v_atW v_atL v_atT v_atH v_atM v_atI v_atQ) letter lo1 hi1 v_clauseMany.toNatClampNeg 0) ∧ (rg (0) 1 (u.2))) (fun u => wMD cy hm v_taped v_walkers v_loads v_pieces v_changeCosts v_planned v_isMarch v_clauseMany v_place v_end v_bad v_clauses v_codes v_open v_stacked v_isOver v_isBehind v_atW v_atL v_atT v_atH v_atM v_atI v_atQ v_packing v_packed v_goPace v_goMinutes v_spentAt v_ranChanges f_m_tape f_m_knee f_m_weight f_m_isLame f_m_loadWeight f_m_owner f_m_food f_m_miles f_m_slope f_m_clauseLetter f_m_sumFrom f_m_codeFrom f_m_codeTo f_m_code f_m_codeArg f_m_newLetter f_m_newSum f_m_newFrom f_m_newTo f_m_newCode f_m_newArg f_m_stack (u.1) (u.2) f_m_least f_m_packPounds f_m_packOwner f_m_room f_m_givenTo f_m_canBe f_m_setPounds f_m_plainTime f_m_muleTime f_m_planTo f_m_march f_m_tired f_m_ranMinutes f_m_tiredAhead f_m_isReached f_m_toEnd f_m_upTo f_m_upNext f_m_byChanges f_m_bandPaces) := by
  refine gMi_in (by decide) (Nat.le_of_ble_eq_true rfl) ?_
  intro p e s m args below meth c A ls Q hx hb hml hts hown hsz hP hK hD hN hAe hA hS hl hret
  subst hsz
  have hl : lv_has ls 5 [(0, .ref (hm 0)), (1, .int letter), (2, .int lo1), (3, .int hi1)] := hl
  have hrt := fun (r : Int32) (f_m_worth' : Nat → Int32) (f_m_isRefused' : Nat → Int32) (hp : (lo1.toInt ≤ r.toInt ∧ r.toInt ≤ hi1.toInt) ∧ (r = tellF f_m_clauseLetter f_m_sumFrom f_m_codeFrom f_m_codeTo f_m_code f_m_codeArg (valF f_m_knee f_m_weight v_walkers v_atW v_atL v_atT v_atH v_atM v_atI v_atQ) letter lo1 hi1 v_clauseMany.toNatClampNeg 0) ∧ (rg (0) 1 f_m_isRefused')) {H : Heap} {locs : List Loc} {pc : Nat} {ls : Array Slot} => hret r (f_m_worth', f_m_isRefused') (H := H) (locs := locs) (pc := pc) (ls := ls) hp
  clear hret
  refine lv_iconst (v := 0) hx hb dX10_tells_0 (by decide) ?_
  refine lv_istore (lv' := [(4, .int 0), (0, .ref (hm 0)), (1, .int letter), (2, .int lo1), (3, .int hi1)]) hx hb dX10_tells_1 hl (by decide) rfl (fun ls hl => ?_)
  have L3_7 : ∀ (n : Nat) (f_4 : Nat → Int32) (f_5 : Nat → Int32) (l_6 : Int32), (rg (0) 1 f_4) → (0 ≤ l_6.toInt ∧ l_6.toInt ≤ 14) → (tellF f_m_clauseLetter f_m_sumFrom f_m_codeFrom f_m_codeTo f_m_code f_m_codeArg (valF f_m_knee f_m_weight v_walkers v_atW v_atL v_atT v_atH v_atM v_atI v_atQ) letter lo1 hi1 v_clauseMany.toNatClampNeg 0 = tellF f_m_clauseLetter f_m_sumFrom f_m_codeFrom f_m_codeTo f_m_code f_m_codeArg (valF f_m_knee f_m_weight v_walkers v_atW v_atL v_atT v_atH v_atM v_atI v_atQ) letter lo1 hi1 (v_clauseMany.toNatClampNeg - l_6.toNatClampNeg) l_6.toNatClampNeg) → 15 - l_6.toInt < n → ∀ (H : Heap) (locs : List Loc) (ls : Array Slot), va_P D vwCl (wMD cy hm v_taped v_walkers v_loads v_pieces v_changeCosts v_planned v_isMarch v_clauseMany v_place v_end v_bad v_clauses v_codes v_open v_stacked v_isOver v_isBehind v_atW v_atL v_atT v_atH v_atM v_atI v_atQ v_packing v_packed v_goPace v_goMinutes v_spentAt v_ranChanges f_m_tape f_m_knee f_m_weight f_m_isLame f_m_loadWeight f_m_owner f_m_food f_m_miles f_m_slope f_m_clauseLetter f_m_sumFrom f_m_codeFrom f_m_codeTo f_m_code f_m_codeArg f_m_newLetter f_m_newSum f_m_newFrom f_m_newTo f_m_newCode f_m_newArg f_m_stack f_5 f_4 f_m_least f_m_packPounds f_m_packOwner f_m_room f_m_givenTo f_m_canBe f_m_setPounds f_m_plainTime f_m_muleTime f_m_planTo f_m_march f_m_tired f_m_ranMinutes f_m_tiredAhead f_m_isReached f_m_toEnd f_m_upTo f_m_upNext f_m_byChanges f_m_bandPaces) H → va_D A (wMD cy hm v_taped v_walkers v_loads v_pieces v_changeCosts v_planned v_isMarch v_clauseMany v_place v_end v_bad v_clauses v_codes v_open v_stacked v_isOver v_isBehind v_atW v_atL v_atT v_atH v_atM v_atI v_atQ v_packing v_packed v_goPace v_goMinutes v_spentAt v_ranChanges f_m_tape f_m_knee f_m_weight f_m_isLame f_m_loadWeight f_m_owner f_m_food f_m_miles f_m_slope f_m_clauseLetter f_m_sumFrom f_m_codeFrom f_m_codeTo f_m_code f_m_codeArg f_m_newLetter f_m_newSum f_m_newFrom f_m_newTo f_m_newCode f_m_newArg f_m_stack f_5 f_4 f_m_least f_m_packPounds f_m_packOwner f_m_room f_m_givenTo f_m_canBe f_m_setPounds f_m_plainTime f_m_muleTime f_m_planTo f_m_march f_m_tired f_m_ranMinutes f_m_tiredAhead f_m_isReached f_m_toEnd f_m_upTo f_m_upNext f_m_byChanges f_m_bandPaces) → va_S A s.heap H locs → lv_has ls 5 [(4, .int l_6), (0, .ref (hm 0)), (1, .int letter), (2, .int lo1), (3, .int hi1)] → W p l e (gRm 4) s m args below meth c H locs 0 0 Q (F0 m 3 ls []) := by
    intro n
    induction n with
    | zero => intro f_4 f_5 l_6 hL3_7_0 hL3_7_1 hL3_7_2 hm; exact absurd hm (by omega)
    | succ n ih3_7 =>
      intro f_4 f_5 l_6 hL3_7_0 hL3_7_1 hL3_7_2 hmL3_7 H locs ls hP hD hS hl
      refine lv_iload hx hb dX10_tells_3 (lv_at hl 0 rfl) ?_
      refine lv_aload_n hx hb dX10_tells_5 rfl (lv_at hl 1 rfl) ?_
      refine gt_MD_MD_clauseMany hx hb hts hown hK hP lwd_405 dX10_tells_6 ?_
      refine lv_icmp_ge (tgt := 115) hx hb dX10_tells_9 (by decide) (fun c_8 => ?_) (fun c_8 => ?_)
      · have gc_8 : v_clauseMany.toInt ≤ l_6.toInt := i_le (rfl : v_clauseMany.toInt = v_clauseMany.toInt) (rfl : l_6.toInt = l_6.toInt) c_8
        refine lv_iconst (v := 0) hx hb dX10_tells_115 (by decide) ?_
        have k_9 : (0 : Int32).toInt = 0 := by decide
        exact hrt 0 f_5 f_4 ⟨(by omega), (by
          rw [hL3_7_2, tell_end (by rw [i_ix (rfl : l_6.toInt = l_6.toInt), i_ix (rfl : v_clauseMany.toInt = v_clauseMany.toInt)]; omega)]), hL3_7_0⟩ hP hD hS rfl dX10_tells_116
      · have gc_8 : l_6.toInt < v_clauseMany.toInt := i_nle (rfl : v_clauseMany.toInt = v_clauseMany.toInt) (rfl : l_6.toInt = l_6.toInt) c_8
        skip
        refine lv_aload_n hx hb dX10_tells_12 rfl (lv_at hl 1 rfl) ?_
        refine gt_MD_MD_clauseLetter hx hb hts hown hK hP lwd_165 dX10_tells_13 ?_
        refine lv_iload hx hb dX10_tells_16 (lv_at hl 0 rfl) ?_
        refine al_m_clauseLetter hx hb hK hP (i_in (rfl : l_6.toInt = l_6.toInt) (by omega) (by omega)) dX10_tells_18 (fun n_10 en_10 => ?_)
        have qn_10 := congrArg Int32.toInt en_10
        refine lv_iload_n hx hb dX10_tells_19 rfl (lv_at hl 2 rfl) ?_
        refine lv_icmp_eq (tgt := 26) hx hb dX10_tells_20 (by decide) (fun c_11 => ?_) (fun c_11 => ?_)
        · have gc_11 : n_10.toInt = letter.toInt := i_eq (rfl : n_10.toInt = n_10.toInt) (rfl : letter.toInt = letter.toInt) c_11
          have hw9 := hwf l_6.toNatClampNeg (by rw [i_ix (rfl : l_6.toInt = l_6.toInt)]; omega)
          
          refine lv_aload_n hx hb dX10_tells_26 rfl (lv_at hl 1 rfl) ?_
          refine lv_aload_n hx hb dX10_tells_27 rfl (lv_at hl 1 rfl) ?_
          refine gt_MD_MD_codeFrom hx hb hts hown hK hP lwd_167 dX10_tells_28 ?_
          refine lv_iload hx hb dX10_tells_31 (lv_at hl 0 rfl) ?_
          refine al_m_codeFrom hx hb hK hP (i_in (rfl : l_6.toInt = l_6.toInt) (by omega) (by omega)) dX10_tells_33 (fun n_12 en_12 => ?_)
          have qn_12 := congrArg Int32.toInt en_12
          refine lv_aload_n hx hb dX10_tells_34 rfl (lv_at hl 1 rfl) ?_
          refine gt_MD_MD_codeTo hx hb hts hown hK hP lwd_168 dX10_tells_35 ?_
          refine lv_iload hx hb dX10_tells_38 (lv_at hl 0 rfl) ?_
          refine al_m_codeTo hx hb hK hP (i_in (rfl : l_6.toInt = l_6.toInt) (by omega) (by omega)) dX10_tells_40 (fun n_13 en_13 => ?_)
          have qn_13 := congrArg Int32.toInt en_13
          refine xv hD hS hA (xV (As := [.int n_12, .int n_13]) (rest := []) hx hb hml hown hts hK hP hD hS hA NT_ok hN hAe hl.1 ⟨Nat.le_refl _, Nat.le_refl _⟩ 0 rfl rfl rfl (c_X10_works l D cy hm v_taped v_walkers v_loads v_pieces v_changeCosts v_planned v_isMarch v_clauseMany v_place v_end v_bad v_clauses v_codes v_open v_stacked v_isOver v_isBehind v_atW v_atL v_atT v_atH v_atM v_atI v_atQ v_packing v_packed v_goPace v_goMinutes v_spentAt v_ranChanges f_m_tape f_m_knee f_m_weight f_m_isLame f_m_loadWeight f_m_owner f_m_food f_m_miles f_m_slope f_m_clauseLetter f_m_sumFrom f_m_codeFrom f_m_codeTo f_m_code f_m_codeArg f_m_newLetter f_m_newSum f_m_newFrom f_m_newTo f_m_newCode f_m_newArg f_m_stack f_5 f_4 f_m_least f_m_packPounds f_m_packOwner f_m_room f_m_givenTo f_m_canBe f_m_setPounds f_m_plainTime f_m_muleTime f_m_planTo f_m_march f_m_tired f_m_ranMinutes f_m_tiredAhead f_m_isReached f_m_toEnd f_m_upTo f_m_upNext f_m_byChanges f_m_bandPaces H.size n_12 n_13 (by omega) (by omega) hr_m_weight hL3_7_0 ⟨by omega, by omega, by omega, by rw [en_12, en_13]; exact hw9.2.2.2.2.2⟩) (gi_V lwd_568 lwd_569 lwd_570 lwd_5 lwd_571) ⟨rfl, hd_X10_works⟩ ⟨Nat.le_of_ble_eq_true rfl, Nat.le_of_ble_eq_true rfl⟩ rfl (Nat.le_of_ble_eq_true rfl) dX10_tells_41) (fun u_14 H locs hw hP hD hS => ?_)
          obtain ⟨zworth_16, zisRefused_17⟩ := u_14
          try dsimp only at hw hP hD
          obtain ⟨p_18, p_19⟩ := hw
          have hw1 := p_18
          rw [en_12, en_13] at hw1
          skip
          refine lv_aload_n hx hb dX10_tells_44 rfl (lv_at hl 1 rfl) ?_
          refine gt_MD_MD_isRefused hx hb hts hown hK hP lwd_179 dX10_tells_45 ?_
          refine lv_iconst (v := 0) hx hb dX10_tells_48 (by decide) ?_
          refine al_m_isRefused hx hb hK hP p_19 (i_in (by decide : (0 : Int32).toInt = 0) (by decide) (by decide)) dX10_tells_49 (fun n_20 en_20 bn_20 => ?_)
          have hy1 := congrArg Int32.toInt (en_20.trans (show _ = _ from hw1.2))
          refine lv_if_ne (tgt := 109) hx hb dX10_tells_50 (by decide) (fun c_21 => ?_) (fun c_21 => ?_)
          · have gc_21 : n_20.toInt ≠ 0 := i_ne (rfl : n_20.toInt = n_20.toInt) (by decide : (0 : Int32).toInt = 0) c_21
            obtain ⟨n_22, en_22⟩ : ∃ y : Int32, y = l_6 + 1 := ⟨_, rfl⟩
            have tn_22 : n_22.toInt = l_6.toInt + 1 := i_add en_22 (rfl : l_6.toInt = l_6.toInt) (by decide : (1 : Int32).toInt = 1) (by omega) (by omega)
            refine lv_iinc (v := n_22) (lv' := [(4, .int n_22), (0, .ref (hm 0)), (1, .int letter), (2, .int lo1), (3, .int hi1)]) hx hb dX10_tells_109 hl (k := 0) rfl (by rw [en_22]; rfl) (by decide) rfl (fun ls hl => ?_)
            refine lv_goto (tgt := 3) hx hb dX10_tells_112 (by decide) ?_
            exact ih3_7 zisRefused_17 zworth_16 n_22 p_19 (by omega) (by
              have e9 : n_22.toNatClampNeg = l_6.toNatClampNeg + 1 := by rw [i_ix tn_22, i_ix (rfl : l_6.toInt = l_6.toInt)]; omega
              rw [e9]
              have hk9 : l_6.toNatClampNeg < v_clauseMany.toNatClampNeg := by rw [i_ix (rfl : l_6.toInt = l_6.toInt), i_ix (rfl : v_clauseMany.toInt = v_clauseMany.toInt)]; omega
              exact hL3_7_2.trans (tell_next hk9 (by first | exact Or.inl (by omega) | exact Or.inr (Or.inl (by omega)) | exact Or.inr (Or.inr (by omega))))) (by omega) _ _ _ hP hD hS (lv_sub hl [0, 1, 2, 3, 4] rfl)
          · have gc_21 : n_20.toInt = 0 := i_eq (rfl : n_20.toInt = n_20.toInt) (by decide : (0 : Int32).toInt = 0) c_21
            refine lv_aload_n hx hb dX10_tells_53 rfl (lv_at hl 1 rfl) ?_
            refine gt_MD_MD_worth hx hb hts hown hK hP lwd_178 dX10_tells_54 ?_
            refine lv_iconst (v := 0) hx hb dX10_tells_57 (by decide) ?_
            refine al_m_worth hx hb hK hP (i_in (by decide : (0 : Int32).toInt = 0) (by decide) (by decide)) dX10_tells_58 (fun n_23 en_23 => ?_)
            have hy2 := congrArg Int32.toInt (en_23.trans (show _ = _ from hw1.1))
            refine lv_iconst (v := 1) hx hb dX10_tells_59 (by decide) ?_
            refine lv_icmp_eq (tgt := 66) hx hb dX10_tells_60 (by decide) (fun c_24 => ?_) (fun c_24 => ?_)
            · have gc_24 : n_23.toInt = 1 := i_eq (rfl : n_23.toInt = n_23.toInt) (by decide : (1 : Int32).toInt = 1) c_24
              refine lv_aload_n hx hb dX10_tells_66 rfl (lv_at hl 1 rfl) ?_
              refine lv_aload_n hx hb dX10_tells_67 rfl (lv_at hl 1 rfl) ?_
              refine gt_MD_MD_sumFrom hx hb hts hown hK hP lwd_166 dX10_tells_68 ?_
              refine lv_iload hx hb dX10_tells_71 (lv_at hl 0 rfl) ?_
              refine al_m_sumFrom hx hb hK hP (i_in (rfl : l_6.toInt = l_6.toInt) (by omega) (by omega)) dX10_tells_73 (fun n_25 en_25 => ?_)
              have qn_25 := congrArg Int32.toInt en_25
              refine lv_aload_n hx hb dX10_tells_74 rfl (lv_at hl 1 rfl) ?_
              refine gt_MD_MD_codeFrom hx hb hts hown hK hP lwd_167 dX10_tells_75 ?_
              refine lv_iload hx hb dX10_tells_78 (lv_at hl 0 rfl) ?_
              refine al_m_codeFrom hx hb hK hP (i_in (rfl : l_6.toInt = l_6.toInt) (by omega) (by omega)) dX10_tells_80 (fun n_26 en_26 => ?_)
              have qn_26 := congrArg Int32.toInt en_26
              obtain rfl : n_12 = n_26 := en_12.trans en_26.symm
              refine xv hD hS hA (xV (As := [.int n_25, .int n_12]) (rest := []) hx hb hml hown hts hK hP hD hS hA NT_ok hN hAe hl.1 ⟨Nat.le_refl _, Nat.le_refl _⟩ 0 rfl rfl rfl (c_X10_works l D cy hm v_taped v_walkers v_loads v_pieces v_changeCosts v_planned v_isMarch v_clauseMany v_place v_end v_bad v_clauses v_codes v_open v_stacked v_isOver v_isBehind v_atW v_atL v_atT v_atH v_atM v_atI v_atQ v_packing v_packed v_goPace v_goMinutes v_spentAt v_ranChanges f_m_tape f_m_knee f_m_weight f_m_isLame f_m_loadWeight f_m_owner f_m_food f_m_miles f_m_slope f_m_clauseLetter f_m_sumFrom f_m_codeFrom f_m_codeTo f_m_code f_m_codeArg f_m_newLetter f_m_newSum f_m_newFrom f_m_newTo f_m_newCode f_m_newArg f_m_stack zworth_16 zisRefused_17 f_m_least f_m_packPounds f_m_packOwner f_m_room f_m_givenTo f_m_canBe f_m_setPounds f_m_plainTime f_m_muleTime f_m_planTo f_m_march f_m_tired f_m_ranMinutes f_m_tiredAhead f_m_isReached f_m_toEnd f_m_upTo f_m_upNext f_m_byChanges f_m_bandPaces H.size n_25 n_12 (by omega) (by omega) hr_m_weight p_19 ⟨by omega, by omega, by omega, by rw [en_25, en_12]; exact hw9.2.2.2.2.1⟩) (gi_V lwd_568 lwd_569 lwd_570 lwd_5 lwd_571) ⟨rfl, hd_X10_works⟩ ⟨Nat.le_of_ble_eq_true rfl, Nat.le_of_ble_eq_true rfl⟩ rfl (Nat.le_of_ble_eq_true rfl) dX10_tells_81) (fun u_27 H locs hw hP hD hS => ?_)
              obtain ⟨zworth_29, zisRefused_30⟩ := u_27
              try dsimp only at hw hP hD
              obtain ⟨p_31, p_32⟩ := hw
              have hw2 := p_31
              rw [en_25, en_12] at hw2
              skip
              refine lv_aload_n hx hb dX10_tells_84 rfl (lv_at hl 1 rfl) ?_
              refine gt_MD_MD_isRefused hx hb hts hown hK hP lwd_179 dX10_tells_85 ?_
              refine lv_iconst (v := 0) hx hb dX10_tells_88 (by decide) ?_
              refine al_m_isRefused hx hb hK hP p_32 (i_in (by decide : (0 : Int32).toInt = 0) (by decide) (by decide)) dX10_tells_89 (fun n_33 en_33 bn_33 => ?_)
              have hy3 := congrArg Int32.toInt (en_33.trans (show _ = _ from hw2.2))
              refine lv_if_eq (tgt := 97) hx hb dX10_tells_90 (by decide) (fun c_34 => ?_) (fun c_34 => ?_)
              · have gc_34 : n_33.toInt = 0 := i_eq (rfl : n_33.toInt = n_33.toInt) (by decide : (0 : Int32).toInt = 0) c_34
                skip
                refine lv_aload_n hx hb dX10_tells_97 rfl (lv_at hl 1 rfl) ?_
                refine gt_MD_MD_worth hx hb hts hown hK hP lwd_178 dX10_tells_98 ?_
                refine lv_iconst (v := 0) hx hb dX10_tells_101 (by decide) ?_
                refine al_m_worth hx hb hK hP (i_in (by decide : (0 : Int32).toInt = 0) (by decide) (by decide)) dX10_tells_102 (fun n_35 en_35 => ?_)
                have hy4 := congrArg Int32.toInt (en_35.trans (show _ = _ from hw2.1))
                refine lv_iload_n hx hb dX10_tells_103 rfl (lv_at hl 3 rfl) ?_
                refine lv_iload_n hx hb dX10_tells_104 rfl (lv_at hl 4 rfl) ?_
                refine xi hD hS hA (xS (As := [.int n_35, .int lo1, .int hi1]) (rest := []) hx hb hml hown hts hK hP hD hS hA NT_ok hN hAe hl.1 ⟨Nat.le_refl _, Nat.le_refl _⟩ (c_X10_held l D cy hm v_taped v_walkers v_loads v_pieces v_changeCosts v_planned v_isMarch v_clauseMany v_place v_end v_bad v_clauses v_codes v_open v_stacked v_isOver v_isBehind v_atW v_atL v_atT v_atH v_atM v_atI v_atQ v_packing v_packed v_goPace v_goMinutes v_spentAt v_ranChanges f_m_tape f_m_knee f_m_weight f_m_isLame f_m_loadWeight f_m_owner f_m_food f_m_miles f_m_slope f_m_clauseLetter f_m_sumFrom f_m_codeFrom f_m_codeTo f_m_code f_m_codeArg f_m_newLetter f_m_newSum f_m_newFrom f_m_newTo f_m_newCode f_m_newArg f_m_stack zworth_29 zisRefused_30 f_m_least f_m_packPounds f_m_packOwner f_m_room f_m_givenTo f_m_canBe f_m_setPounds f_m_plainTime f_m_muleTime f_m_planTo f_m_march f_m_tired f_m_ranMinutes f_m_tiredAhead f_m_isReached f_m_toEnd f_m_upTo f_m_upNext f_m_byChanges f_m_bandPaces H.size n_35 lo1 hi1 (by omega)) (gi_S lwd_583 lwd_584 lwd_5 lwd_585) hd_X10_held ⟨Nat.le_of_ble_eq_true rfl, Nat.le_of_ble_eq_true rfl⟩ rfl (Nat.le_of_ble_eq_true rfl) dX10_tells_105) (fun r_37 u_36 H locs hw hP hD hS => ?_)
                try dsimp only at hw hP hD
                obtain ⟨p_38, p_39⟩ := hw
                exact hrt r_37 zworth_29 zisRefused_30 ⟨(by omega), (by
                  have hk9 : l_6.toNatClampNeg < v_clauseMany.toNatClampNeg := by rw [i_ix (rfl : l_6.toInt = l_6.toInt), i_ix (rfl : v_clauseMany.toInt = v_clauseMany.toInt)]; omega
                  rw [hL3_7_2, tell_here hk9 (by omega) (by omega) (by omega), p_39]
                  rw [if_neg (by omega)]; exact congrArg (fun z => heldF z lo1 hi1) (en_35.trans (show _ = _ from hw2.1))), p_32⟩ hP hD hS rfl dX10_tells_108
              · have gc_34 : n_33.toInt ≠ 0 := i_ne (rfl : n_33.toInt = n_33.toInt) (by decide : (0 : Int32).toInt = 0) c_34
                skip
                refine lv_iconst (v := 0) hx hb dX10_tells_93 (by decide) ?_
                refine lv_goto (tgt := 103) hx hb dX10_tells_94 (by decide) ?_
                refine lv_iload_n hx hb dX10_tells_103 rfl (lv_at hl 3 rfl) ?_
                refine lv_iload_n hx hb dX10_tells_104 rfl (lv_at hl 4 rfl) ?_
                have k_40 : (0 : Int32).toInt = 0 := by decide
                refine xi hD hS hA (xS (As := [.int 0, .int lo1, .int hi1]) (rest := []) hx hb hml hown hts hK hP hD hS hA NT_ok hN hAe hl.1 ⟨Nat.le_refl _, Nat.le_refl _⟩ (c_X10_held l D cy hm v_taped v_walkers v_loads v_pieces v_changeCosts v_planned v_isMarch v_clauseMany v_place v_end v_bad v_clauses v_codes v_open v_stacked v_isOver v_isBehind v_atW v_atL v_atT v_atH v_atM v_atI v_atQ v_packing v_packed v_goPace v_goMinutes v_spentAt v_ranChanges f_m_tape f_m_knee f_m_weight f_m_isLame f_m_loadWeight f_m_owner f_m_food f_m_miles f_m_slope f_m_clauseLetter f_m_sumFrom f_m_codeFrom f_m_codeTo f_m_code f_m_codeArg f_m_newLetter f_m_newSum f_m_newFrom f_m_newTo f_m_newCode f_m_newArg f_m_stack zworth_29 zisRefused_30 f_m_least f_m_packPounds f_m_packOwner f_m_room f_m_givenTo f_m_canBe f_m_setPounds f_m_plainTime f_m_muleTime f_m_planTo f_m_march f_m_tired f_m_ranMinutes f_m_tiredAhead f_m_isReached f_m_toEnd f_m_upTo f_m_upNext f_m_byChanges f_m_bandPaces H.size 0 lo1 hi1 (by omega)) (gi_S lwd_583 lwd_584 lwd_5 lwd_585) hd_X10_held ⟨Nat.le_of_ble_eq_true rfl, Nat.le_of_ble_eq_true rfl⟩ rfl (Nat.le_of_ble_eq_true rfl) dX10_tells_105) (fun r_42 u_41 H locs hw hP hD hS => ?_)
                try dsimp only at hw hP hD
                obtain ⟨p_43, p_44⟩ := hw
                exact hrt r_42 zworth_29 zisRefused_30 ⟨(by omega), (by
                  have hk9 : l_6.toNatClampNeg < v_clauseMany.toNatClampNeg := by rw [i_ix (rfl : l_6.toInt = l_6.toInt), i_ix (rfl : v_clauseMany.toInt = v_clauseMany.toInt)]; omega
                  rw [hL3_7_2, tell_here hk9 (by omega) (by omega) (by omega), p_44]
                  rw [if_pos (by omega)]), p_32⟩ hP hD hS rfl dX10_tells_108
            · have gc_24 : n_23.toInt ≠ 1 := i_ne (rfl : n_23.toInt = n_23.toInt) (by decide : (1 : Int32).toInt = 1) c_24
              refine lv_goto (tgt := 109) hx hb dX10_tells_63 (by decide) ?_
              obtain ⟨n_45, en_45⟩ : ∃ y : Int32, y = l_6 + 1 := ⟨_, rfl⟩
              have tn_45 : n_45.toInt = l_6.toInt + 1 := i_add en_45 (rfl : l_6.toInt = l_6.toInt) (by decide : (1 : Int32).toInt = 1) (by omega) (by omega)
              refine lv_iinc (v := n_45) (lv' := [(4, .int n_45), (0, .ref (hm 0)), (1, .int letter), (2, .int lo1), (3, .int hi1)]) hx hb dX10_tells_109 hl (k := 0) rfl (by rw [en_45]; rfl) (by decide) rfl (fun ls hl => ?_)
              refine lv_goto (tgt := 3) hx hb dX10_tells_112 (by decide) ?_
              exact ih3_7 zisRefused_17 zworth_16 n_45 p_19 (by omega) (by
                have e9 : n_45.toNatClampNeg = l_6.toNatClampNeg + 1 := by rw [i_ix tn_45, i_ix (rfl : l_6.toInt = l_6.toInt)]; omega
                rw [e9]
                have hk9 : l_6.toNatClampNeg < v_clauseMany.toNatClampNeg := by rw [i_ix (rfl : l_6.toInt = l_6.toInt), i_ix (rfl : v_clauseMany.toInt = v_clauseMany.toInt)]; omega
                exact hL3_7_2.trans (tell_next hk9 (by first | exact Or.inl (by omega) | exact Or.inr (Or.inl (by omega)) | exact Or.inr (Or.inr (by omega))))) (by omega) _ _ _ hP hD hS (lv_sub hl [0, 1, 2, 3, 4] rfl)
        · have gc_11 : n_10.toInt ≠ letter.toInt := i_ne (rfl : n_10.toInt = n_10.toInt) (rfl : letter.toInt = letter.toInt) c_11
          refine lv_goto (tgt := 109) hx hb dX10_tells_23 (by decide) ?_
          obtain ⟨n_46, en_46⟩ : ∃ y : Int32, y = l_6 + 1 := ⟨_, rfl⟩
          have tn_46 : n_46.toInt = l_6.toInt + 1 := i_add en_46 (rfl : l_6.toInt = l_6.toInt) (by decide : (1 : Int32).toInt = 1) (by omega) (by omega)
          refine lv_iinc (v := n_46) (lv' := [(4, .int n_46), (0, .ref (hm 0)), (1, .int letter), (2, .int lo1), (3, .int hi1)]) hx hb dX10_tells_109 hl (k := 0) rfl (by rw [en_46]; rfl) (by decide) rfl (fun ls hl => ?_)
          refine lv_goto (tgt := 3) hx hb dX10_tells_112 (by decide) ?_
          exact ih3_7 f_4 f_5 n_46 hL3_7_0 (by omega) (by
            have e9 : n_46.toNatClampNeg = l_6.toNatClampNeg + 1 := by rw [i_ix tn_46, i_ix (rfl : l_6.toInt = l_6.toInt)]; omega
            rw [e9]
            have hk9 : l_6.toNatClampNeg < v_clauseMany.toNatClampNeg := by rw [i_ix (rfl : l_6.toInt = l_6.toInt), i_ix (rfl : v_clauseMany.toInt = v_clauseMany.toInt)]; omega
            exact hL3_7_2.trans (tell_next hk9 (by first | exact Or.inl (by omega) | exact Or.inr (Or.inl (by omega)) | exact Or.inr (Or.inr (by omega))))) (by omega) _ _ _ hP hD hS (lv_sub hl [0, 1, 2, 3, 4] rfl)
  have k_47 : (0 : Int32).toInt = 0 := by decide
  exact L3_7 8589934592 f_m_isRefused f_m_worth 0 hr_m_isRefused (by omega) (by
    rw [show (0 : Int32).toNatClampNeg = 0 from by decide]; rfl) (by omega) _ _ _ hP hD hS (lv_sub hl [0, 1, 2, 3, 4] rfl)
set_option maxHeartbeats 16000000 in
set_option maxRecDepth 100000 in
theorem c_X10_paceOf (l : Launch) (D : va_G) (cy : Nat → ClassId) (hm : Nat → Nat) (v_taped v_walkers v_loads v_pieces v_changeCosts v_planned v_isMarch v_clauseMany v_place v_end v_bad v_clauses v_codes v_open v_stacked v_isOver v_isBehind v_atW v_atL v_atT v_atH v_atM v_atI v_atQ v_packing v_packed v_goPace v_goMinutes v_spentAt v_ranChanges : Int32) (f_m_tape f_m_knee f_m_weight f_m_isLame f_m_loadWeight f_m_owner f_m_food f_m_miles f_m_slope f_m_clauseLetter f_m_sumFrom f_m_codeFrom f_m_codeTo f_m_code f_m_codeArg f_m_newLetter f_m_newSum f_m_newFrom f_m_newTo f_m_newCode f_m_newArg f_m_stack f_m_worth f_m_isRefused f_m_least f_m_packPounds f_m_packOwner f_m_room f_m_givenTo f_m_canBe f_m_setPounds f_m_plainTime f_m_muleTime f_m_planTo f_m_march f_m_tired f_m_ranMinutes f_m_tiredAhead f_m_isReached f_m_toEnd f_m_upTo f_m_upNext f_m_byChanges f_m_bandPaces : Nat → Int32) (sz : Nat) (w : Int32) (l1 : Int32) (t1 : Int32) (i : Int32) (tn : Int32) (hb_v_walkers : 0 ≤ v_walkers.toInt ∧ v_walkers.toInt ≤ 6) (hb_v_clauseMany : 0 ≤ v_clauseMany.toInt ∧ v_clauseMany.toInt ≤ 14) (hb_v_atW : 0 ≤ v_atW.toInt ∧ v_atW.toInt ≤ 5) (hr_m_weight : rg (0) 250 f_m_weight) (hr_m_isLame : rg (0) 1 f_m_isLame) (hr_m_miles : rg (0) 20 f_m_miles) (hr_m_isRefused : rg (0) 1 f_m_isRefused) (ha_w : 0 ≤ w.toInt ∧ w.toInt ≤ 5) (ha_i : 0 ≤ i.toInt ∧ i.toInt ≤ 9) (ha_tn : 0 ≤ tn.toInt ∧ tn.toInt ≤ 1) (hwf : wfC v_clauseMany f_m_sumFrom f_m_codeFrom f_m_codeTo f_m_code) : gMi l yX10_paceOf cX10_paceOf 7 .int 5 [.ref (hm 0), .int w, .int l1, .int t1, .int i, .int tn] D cy (wMD cy hm v_taped v_walkers v_loads v_pieces v_changeCosts v_planned v_isMarch v_clauseMany v_place v_end v_bad v_clauses v_codes v_open v_stacked v_isOver v_isBehind v_atW v_atL v_atT v_atH v_atM v_atI v_atQ v_packing v_packed v_goPace v_goMinutes v_spentAt v_ranChanges f_m_tape f_m_knee f_m_weight f_m_isLame f_m_loadWeight f_m_owner f_m_food f_m_miles f_m_slope f_m_clauseLetter f_m_sumFrom f_m_codeFrom f_m_codeTo f_m_code f_m_codeArg f_m_newLetter f_m_newSum f_m_newFrom f_m_newTo f_m_newCode f_m_newArg f_m_stack f_m_worth f_m_isRefused f_m_least f_m_packPounds f_m_packOwner f_m_room f_m_givenTo f_m_canBe f_m_setPounds f_m_plainTime f_m_muleTime f_m_planTo f_m_march f_m_tired f_m_ranMinutes f_m_tiredAhead f_m_isReached f_m_toEnd f_m_upTo f_m_upNext f_m_byChanges f_m_bandPaces) NT sz (fun (r : Int32) (u : Int32 × Int32 × Int32 × Int32 × Int32 × Int32 × Int32 × (Nat → Int32) × (Nat → Int32)) => (0 ≤ r.toInt ∧ r.toInt ≤ 60) ∧ (r = paceF f_m_clauseLetter f_m_sumFrom f_m_codeFrom f_m_codeTo f_m_code f_m_codeArg f_m_knee f_m_weight f_m_isLame f_m_slope f_m_miles v_clauseMany v_walkers w l1 t1 i tn) ∧ (0 ≤ (u.1).toInt ∧ (u.1).toInt ≤ 5) ∧ (rg (0) 1 (u.2.2.2.2.2.2.2.2))) (fun u => wMD cy hm v_taped v_walkers v_loads v_pieces v_changeCosts v_planned v_isMarch v_clauseMany v_place v_end v_bad v_clauses v_codes v_open v_stacked v_isOver v_isBehind (u.1) (u.2.1) (u.2.2.1) (u.2.2.2.1) (u.2.2.2.2.1) (u.2.2.2.2.2.1) (u.2.2.2.2.2.2.1) v_packing v_packed v_goPace v_goMinutes v_spentAt v_ranChanges f_m_tape f_m_knee f_m_weight f_m_isLame f_m_loadWeight f_m_owner f_m_food f_m_miles f_m_slope f_m_clauseLetter f_m_sumFrom f_m_codeFrom f_m_codeTo f_m_code f_m_codeArg f_m_newLetter f_m_newSum f_m_newFrom f_m_newTo f_m_newCode f_m_newArg f_m_stack (u.2.2.2.2.2.2.2.1) (u.2.2.2.2.2.2.2.2) f_m_least f_m_packPounds f_m_packOwner f_m_room f_m_givenTo f_m_canBe f_m_setPounds f_m_plainTime f_m_muleTime f_m_planTo f_m_march f_m_tired f_m_ranMinutes f_m_tiredAhead f_m_isReached f_m_toEnd f_m_upTo f_m_upNext f_m_byChanges f_m_bandPaces) := by
  refine gMi_in (by decide) (Nat.le_of_ble_eq_true rfl) ?_
  intro p e s m args below meth c A ls Q hx hb hml hts hown hsz hP hK hD hN hAe hA hS hl hret
  subst hsz
  have hl : lv_has ls 7 [(0, .ref (hm 0)), (1, .int w), (2, .int l1), (3, .int t1), (4, .int i), (5, .int tn)] := hl
  have hrt := fun (r : Int32) (v_atW' : Int32) (v_atL' : Int32) (v_atT' : Int32) (v_atH' : Int32) (v_atM' : Int32) (v_atI' : Int32) (v_atQ' : Int32) (f_m_worth' : Nat → Int32) (f_m_isRefused' : Nat → Int32) (hp : (0 ≤ r.toInt ∧ r.toInt ≤ 60) ∧ (r = paceF f_m_clauseLetter f_m_sumFrom f_m_codeFrom f_m_codeTo f_m_code f_m_codeArg f_m_knee f_m_weight f_m_isLame f_m_slope f_m_miles v_clauseMany v_walkers w l1 t1 i tn) ∧ (0 ≤ v_atW'.toInt ∧ v_atW'.toInt ≤ 5) ∧ (rg (0) 1 f_m_isRefused')) {H : Heap} {locs : List Loc} {pc : Nat} {ls : Array Slot} => hret r (v_atW', v_atL', v_atT', v_atH', v_atM', v_atI', v_atQ', f_m_worth', f_m_isRefused') (H := H) (locs := locs) (pc := pc) (ls := ls) hp
  clear hret
  refine lv_aload_n hx hb dX10_paceOf_0 rfl (lv_at hl 0 rfl) ?_
  refine lv_iload_n hx hb dX10_paceOf_1 rfl (lv_at hl 1 rfl) ?_
  refine pt_MD_MD_atW (x := w) hx hb hts hown hK hP hD hS lwd_557 dX10_paceOf_2 (fun H locs hP hD hS => ?_)
  refine lv_aload_n hx hb dX10_paceOf_5 rfl (lv_at hl 0 rfl) ?_
  refine lv_iload_n hx hb dX10_paceOf_6 rfl (lv_at hl 2 rfl) ?_
  refine pt_MD_MD_atL (x := l1) hx hb hts hown hK hP hD hS lwd_558 dX10_paceOf_7 (fun H locs hP hD hS => ?_)
  refine lv_aload_n hx hb dX10_paceOf_10 rfl (lv_at hl 0 rfl) ?_
  refine lv_iload_n hx hb dX10_paceOf_11 rfl (lv_at hl 3 rfl) ?_
  refine pt_MD_MD_atT (x := t1) hx hb hts hown hK hP hD hS lwd_559 dX10_paceOf_12 (fun H locs hP hD hS => ?_)
  refine lv_aload_n hx hb dX10_paceOf_15 rfl (lv_at hl 0 rfl) ?_
  refine lv_iload hx hb dX10_paceOf_16 (lv_at hl 5 rfl) ?_
  refine lv_if_eq (tgt := 32) hx hb dX10_paceOf_18 (by decide) (fun c_1 => ?_) (fun c_1 => ?_)
  · have gc_1 : tn.toInt = 0 := i_eq (rfl : tn.toInt = tn.toInt) (by decide : (0 : Int32).toInt = 0) c_1
    refine lv_aload_n hx hb dX10_paceOf_32 rfl (lv_at hl 0 rfl) ?_
    refine gt_MD_MD_slope hx hb hts hown hK hP lwd_164 dX10_paceOf_33 ?_
    refine lv_iload hx hb dX10_paceOf_36 (lv_at hl 4 rfl) ?_
    refine al_m_slope hx hb hK hP (i_in (rfl : i.toInt = i.toInt) (by omega) (by omega)) dX10_paceOf_38 (fun n_2 en_2 => ?_)
    skip
    refine pt_MD_MD_atH (x := n_2) hx hb hts hown hK hP hD hS lwd_560 dX10_paceOf_39 (fun H locs hP hD hS => ?_)
    refine lv_aload_n hx hb dX10_paceOf_42 rfl (lv_at hl 0 rfl) ?_
    refine lv_aload_n hx hb dX10_paceOf_43 rfl (lv_at hl 0 rfl) ?_
    refine gt_MD_MD_miles hx hb hts hown hK hP lwd_163 dX10_paceOf_44 ?_
    refine lv_iload hx hb dX10_paceOf_47 (lv_at hl 4 rfl) ?_
    refine al_m_miles hx hb hK hP hr_m_miles (i_in (rfl : i.toInt = i.toInt) (by omega) (by omega)) dX10_paceOf_49 (fun n_3 en_3 bn_3 => ?_)
    refine pt_MD_MD_atM (x := n_3) hx hb hts hown hK hP hD hS lwd_561 dX10_paceOf_50 (fun H locs hP hD hS => ?_)
    refine lv_aload_n hx hb dX10_paceOf_53 rfl (lv_at hl 0 rfl) ?_
    refine lv_iload hx hb dX10_paceOf_54 (lv_at hl 4 rfl) ?_
    refine pt_MD_MD_atI (x := i) hx hb hts hown hK hP hD hS lwd_562 dX10_paceOf_56 (fun H locs hP hD hS => ?_)
    refine lv_aload_n hx hb dX10_paceOf_59 rfl (lv_at hl 0 rfl) ?_
    refine lv_iconst (v := 0) hx hb dX10_paceOf_60 (by decide) ?_
    refine pt_MD_MD_atQ (x := 0) hx hb hts hown hK hP hD hS lwd_563 dX10_paceOf_61 (fun H locs hP hD hS => ?_)
    refine lv_aload_n hx hb dX10_paceOf_64 rfl (lv_at hl 0 rfl) ?_
    refine lv_bipush (v := 118) hx hb dX10_paceOf_65 (by decide) ?_
    refine lv_iconst (v := 0) hx hb dX10_paceOf_67 (by decide) ?_
    refine lv_bipush (v := 60) hx hb dX10_paceOf_68 (by decide) ?_
    have k_4 : (118 : Int32).toInt = 118 := by decide
    have k_5 : (0 : Int32).toInt = 0 := by decide
    have k_6 : (60 : Int32).toInt = 60 := by decide
    refine xi hD hS hA (xV (As := [.int 118, .int 0, .int 60]) (rest := []) hx hb hml hown hts hK hP hD hS hA NT_ok hN hAe hl.1 ⟨Nat.le_refl _, Nat.le_refl _⟩ 0 rfl rfl rfl (c_X10_tells l D cy hm v_taped v_walkers v_loads v_pieces v_changeCosts v_planned v_isMarch v_clauseMany v_place v_end v_bad v_clauses v_codes v_open v_stacked v_isOver v_isBehind w l1 t1 n_2 n_3 i 0 v_packing v_packed v_goPace v_goMinutes v_spentAt v_ranChanges f_m_tape f_m_knee f_m_weight f_m_isLame f_m_loadWeight f_m_owner f_m_food f_m_miles f_m_slope f_m_clauseLetter f_m_sumFrom f_m_codeFrom f_m_codeTo f_m_code f_m_codeArg f_m_newLetter f_m_newSum f_m_newFrom f_m_newTo f_m_newCode f_m_newArg f_m_stack f_m_worth f_m_isRefused f_m_least f_m_packPounds f_m_packOwner f_m_room f_m_givenTo f_m_canBe f_m_setPounds f_m_plainTime f_m_muleTime f_m_planTo f_m_march f_m_tired f_m_ranMinutes f_m_tiredAhead f_m_isReached f_m_toEnd f_m_upTo f_m_upNext f_m_byChanges f_m_bandPaces H.size 118 0 60 (by omega) (by omega) (by omega) hr_m_weight hr_m_isRefused hwf (by omega)) (gi_V lwd_564 lwd_565 lwd_566 lwd_5 lwd_567) ⟨rfl, hd_X10_tells⟩ ⟨Nat.le_of_ble_eq_true rfl, Nat.le_of_ble_eq_true rfl⟩ rfl (Nat.le_of_ble_eq_true rfl) dX10_paceOf_70) (fun r_8 u_7 H locs hw hP hD hS => ?_)
    obtain ⟨zworth_9, zisRefused_10⟩ := u_7
    try dsimp only at hw hP hD
    obtain ⟨p_11, p_12, p_13⟩ := hw
    refine lv_istore (lv' := [(6, .int r_8), (0, .ref (hm 0)), (1, .int w), (2, .int l1), (3, .int t1), (4, .int i), (5, .int tn)]) hx hb dX10_paceOf_73 hl (by decide) rfl (fun ls hl => ?_)
    refine lv_aload_n hx hb dX10_paceOf_75 rfl (lv_at hl 1 rfl) ?_
    refine gt_MD_MD_isLame hx hb hts hown hK hP lwd_159 dX10_paceOf_76 ?_
    refine lv_iload_n hx hb dX10_paceOf_79 rfl (lv_at hl 2 rfl) ?_
    refine al_m_isLame hx hb hK hP hr_m_isLame (i_in (rfl : w.toInt = w.toInt) (by omega) (by omega)) dX10_paceOf_80 (fun n_14 en_14 bn_14 => ?_)
    have qn_14 := congrArg Int32.toInt en_14
    refine lv_if_eq (tgt := 91) hx hb dX10_paceOf_81 (by decide) (fun c_15 => ?_) (fun c_15 => ?_)
    · have gc_15 : n_14.toInt = 0 := i_eq (rfl : n_14.toInt = n_14.toInt) (by decide : (0 : Int32).toInt = 0) c_15
      refine lv_iload hx hb dX10_paceOf_91 (lv_at hl 0 rfl) ?_
      have k_16 : (0 : Int32).toInt = 0 := by decide
      exact hrt r_8 w l1 t1 n_2 n_3 i 0 zworth_9 zisRefused_10 ⟨(by omega), (by
        unfold paceF
        first | rw [if_pos (by omega)] | rw [if_neg (by omega)]
        first | rw [if_pos (by omega)] | rw [if_neg (by omega)]
        simp only [p_12, en_2, en_3]), (by omega), p_13⟩ hP hD hS rfl dX10_paceOf_93
    · have gc_15 : n_14.toInt ≠ 0 := i_ne (rfl : n_14.toInt = n_14.toInt) (by decide : (0 : Int32).toInt = 0) c_15
      refine lv_iload hx hb dX10_paceOf_84 (lv_at hl 0 rfl) ?_
      refine lv_iconst (v := 2) hx hb dX10_paceOf_86 (by decide) ?_
      refine lv_idiv hx hb dX10_paceOf_87 (by decide) ?_
      refine lv_topi (fun n_17 en_17 => ?_)
      have tn_17 : n_17.toInt = r_8.toInt / 2 := i_div en_17 (rfl : r_8.toInt = r_8.toInt) (by decide : (2 : Int32).toInt = 2) (by omega) (by omega)
      refine lv_goto (tgt := 93) hx hb dX10_paceOf_88 (by decide) ?_
      have k_18 : (0 : Int32).toInt = 0 := by decide
      exact hrt n_17 w l1 t1 n_2 n_3 i 0 zworth_9 zisRefused_10 ⟨(by omega), (by
        unfold paceF
        first | rw [if_pos (by omega)] | rw [if_neg (by omega)]
        first | rw [if_pos (by omega)] | rw [if_neg (by omega)]
        simp only [p_12, en_17, en_2, en_3]), (by omega), p_13⟩ hP hD hS rfl dX10_paceOf_93
  · have gc_1 : tn.toInt ≠ 0 := i_ne (rfl : tn.toInt = tn.toInt) (by decide : (0 : Int32).toInt = 0) c_1
    refine lv_aload_n hx hb dX10_paceOf_21 rfl (lv_at hl 0 rfl) ?_
    refine gt_MD_MD_slope hx hb hts hown hK hP lwd_164 dX10_paceOf_22 ?_
    refine lv_iload hx hb dX10_paceOf_25 (lv_at hl 4 rfl) ?_
    refine al_m_slope hx hb hK hP (i_in (rfl : i.toInt = i.toInt) (by omega) (by omega)) dX10_paceOf_27 (fun n_19 en_19 => ?_)
    refine lv_ineg hx hb dX10_paceOf_28 ?_
    refine lv_topi (fun n_20 en_20 => ?_)
    refine lv_goto (tgt := 39) hx hb dX10_paceOf_29 (by decide) ?_
    skip
    refine pt_MD_MD_atH (x := n_20) hx hb hts hown hK hP hD hS lwd_560 dX10_paceOf_39 (fun H locs hP hD hS => ?_)
    refine lv_aload_n hx hb dX10_paceOf_42 rfl (lv_at hl 0 rfl) ?_
    refine lv_aload_n hx hb dX10_paceOf_43 rfl (lv_at hl 0 rfl) ?_
    refine gt_MD_MD_miles hx hb hts hown hK hP lwd_163 dX10_paceOf_44 ?_
    refine lv_iload hx hb dX10_paceOf_47 (lv_at hl 4 rfl) ?_
    refine al_m_miles hx hb hK hP hr_m_miles (i_in (rfl : i.toInt = i.toInt) (by omega) (by omega)) dX10_paceOf_49 (fun n_21 en_21 bn_21 => ?_)
    refine pt_MD_MD_atM (x := n_21) hx hb hts hown hK hP hD hS lwd_561 dX10_paceOf_50 (fun H locs hP hD hS => ?_)
    refine lv_aload_n hx hb dX10_paceOf_53 rfl (lv_at hl 0 rfl) ?_
    refine lv_iload hx hb dX10_paceOf_54 (lv_at hl 4 rfl) ?_
    refine pt_MD_MD_atI (x := i) hx hb hts hown hK hP hD hS lwd_562 dX10_paceOf_56 (fun H locs hP hD hS => ?_)
    refine lv_aload_n hx hb dX10_paceOf_59 rfl (lv_at hl 0 rfl) ?_
    refine lv_iconst (v := 0) hx hb dX10_paceOf_60 (by decide) ?_
    refine pt_MD_MD_atQ (x := 0) hx hb hts hown hK hP hD hS lwd_563 dX10_paceOf_61 (fun H locs hP hD hS => ?_)
    refine lv_aload_n hx hb dX10_paceOf_64 rfl (lv_at hl 0 rfl) ?_
    refine lv_bipush (v := 118) hx hb dX10_paceOf_65 (by decide) ?_
    refine lv_iconst (v := 0) hx hb dX10_paceOf_67 (by decide) ?_
    refine lv_bipush (v := 60) hx hb dX10_paceOf_68 (by decide) ?_
    have k_22 : (118 : Int32).toInt = 118 := by decide
    have k_23 : (0 : Int32).toInt = 0 := by decide
    have k_24 : (60 : Int32).toInt = 60 := by decide
    refine xi hD hS hA (xV (As := [.int 118, .int 0, .int 60]) (rest := []) hx hb hml hown hts hK hP hD hS hA NT_ok hN hAe hl.1 ⟨Nat.le_refl _, Nat.le_refl _⟩ 0 rfl rfl rfl (c_X10_tells l D cy hm v_taped v_walkers v_loads v_pieces v_changeCosts v_planned v_isMarch v_clauseMany v_place v_end v_bad v_clauses v_codes v_open v_stacked v_isOver v_isBehind w l1 t1 n_20 n_21 i 0 v_packing v_packed v_goPace v_goMinutes v_spentAt v_ranChanges f_m_tape f_m_knee f_m_weight f_m_isLame f_m_loadWeight f_m_owner f_m_food f_m_miles f_m_slope f_m_clauseLetter f_m_sumFrom f_m_codeFrom f_m_codeTo f_m_code f_m_codeArg f_m_newLetter f_m_newSum f_m_newFrom f_m_newTo f_m_newCode f_m_newArg f_m_stack f_m_worth f_m_isRefused f_m_least f_m_packPounds f_m_packOwner f_m_room f_m_givenTo f_m_canBe f_m_setPounds f_m_plainTime f_m_muleTime f_m_planTo f_m_march f_m_tired f_m_ranMinutes f_m_tiredAhead f_m_isReached f_m_toEnd f_m_upTo f_m_upNext f_m_byChanges f_m_bandPaces H.size 118 0 60 (by omega) (by omega) (by omega) hr_m_weight hr_m_isRefused hwf (by omega)) (gi_V lwd_564 lwd_565 lwd_566 lwd_5 lwd_567) ⟨rfl, hd_X10_tells⟩ ⟨Nat.le_of_ble_eq_true rfl, Nat.le_of_ble_eq_true rfl⟩ rfl (Nat.le_of_ble_eq_true rfl) dX10_paceOf_70) (fun r_26 u_25 H locs hw hP hD hS => ?_)
    obtain ⟨zworth_27, zisRefused_28⟩ := u_25
    try dsimp only at hw hP hD
    obtain ⟨p_29, p_30, p_31⟩ := hw
    refine lv_istore (lv' := [(6, .int r_26), (0, .ref (hm 0)), (1, .int w), (2, .int l1), (3, .int t1), (4, .int i), (5, .int tn)]) hx hb dX10_paceOf_73 hl (by decide) rfl (fun ls hl => ?_)
    refine lv_aload_n hx hb dX10_paceOf_75 rfl (lv_at hl 1 rfl) ?_
    refine gt_MD_MD_isLame hx hb hts hown hK hP lwd_159 dX10_paceOf_76 ?_
    refine lv_iload_n hx hb dX10_paceOf_79 rfl (lv_at hl 2 rfl) ?_
    refine al_m_isLame hx hb hK hP hr_m_isLame (i_in (rfl : w.toInt = w.toInt) (by omega) (by omega)) dX10_paceOf_80 (fun n_32 en_32 bn_32 => ?_)
    have qn_32 := congrArg Int32.toInt en_32
    refine lv_if_eq (tgt := 91) hx hb dX10_paceOf_81 (by decide) (fun c_33 => ?_) (fun c_33 => ?_)
    · have gc_33 : n_32.toInt = 0 := i_eq (rfl : n_32.toInt = n_32.toInt) (by decide : (0 : Int32).toInt = 0) c_33
      refine lv_iload hx hb dX10_paceOf_91 (lv_at hl 0 rfl) ?_
      have k_34 : (0 : Int32).toInt = 0 := by decide
      exact hrt r_26 w l1 t1 n_20 n_21 i 0 zworth_27 zisRefused_28 ⟨(by omega), (by
        unfold paceF
        first | rw [if_pos (by omega)] | rw [if_neg (by omega)]
        first | rw [if_pos (by omega)] | rw [if_neg (by omega)]
        simp only [p_30, en_20, en_19, en_21]), (by omega), p_31⟩ hP hD hS rfl dX10_paceOf_93
    · have gc_33 : n_32.toInt ≠ 0 := i_ne (rfl : n_32.toInt = n_32.toInt) (by decide : (0 : Int32).toInt = 0) c_33
      refine lv_iload hx hb dX10_paceOf_84 (lv_at hl 0 rfl) ?_
      refine lv_iconst (v := 2) hx hb dX10_paceOf_86 (by decide) ?_
      refine lv_idiv hx hb dX10_paceOf_87 (by decide) ?_
      refine lv_topi (fun n_35 en_35 => ?_)
      have tn_35 : n_35.toInt = r_26.toInt / 2 := i_div en_35 (rfl : r_26.toInt = r_26.toInt) (by decide : (2 : Int32).toInt = 2) (by omega) (by omega)
      refine lv_goto (tgt := 93) hx hb dX10_paceOf_88 (by decide) ?_
      have k_36 : (0 : Int32).toInt = 0 := by decide
      exact hrt n_35 w l1 t1 n_20 n_21 i 0 zworth_27 zisRefused_28 ⟨(by omega), (by
        unfold paceF
        first | rw [if_pos (by omega)] | rw [if_neg (by omega)]
        first | rw [if_pos (by omega)] | rw [if_neg (by omega)]
        simp only [p_30, en_35, en_20, en_19, en_21]), (by omega), p_31⟩ hP hD hS rfl dX10_paceOf_93
