set_option maxHeartbeats 16000000 in
set_option maxRecDepth 100000 in
theorem c_X10_minutesOf_p (l : Launch) (D : va_G) (cy : Nat → ClassId) (hm : Nat → Nat) (v_taped v_walkers v_loads v_pieces v_changeCosts v_planned v_isMarch v_clauseMany v_place v_end v_bad v_clauses v_codes v_open v_stacked v_isOver v_isBehind v_atW v_atL v_atT v_atH v_atM v_atI v_atQ v_packing v_packed v_goPace v_goMinutes v_spentAt v_ranChanges : Int32) (f_m_tape f_m_knee f_m_weight f_m_isLame f_m_loadWeight f_m_owner f_m_food f_m_miles f_m_slope f_m_clauseLetter f_m_sumFrom f_m_codeFrom f_m_codeTo f_m_code f_m_codeArg f_m_newLetter f_m_newSum f_m_newFrom f_m_newTo f_m_newCode f_m_newArg f_m_stack f_m_worth f_m_isRefused f_m_least f_m_packPounds f_m_packOwner f_m_room f_m_givenTo f_m_canBe f_m_setPounds f_m_plainTime f_m_muleTime f_m_planTo f_m_march f_m_tired f_m_ranMinutes f_m_tiredAhead f_m_isReached f_m_toEnd f_m_upTo f_m_upNext f_m_byChanges f_m_bandPaces : Nat → Int32) (sz : Nat) (i : Int32) (q : Int32) (hr_m_miles : rg (0) 20 f_m_miles) (ha_i : 0 ≤ i.toInt ∧ i.toInt ≤ 9) (ha_q : 1 ≤ q.toInt ∧ q.toInt ≤ 60) : gMi l yX10_minutesOf cX10_minutesOf 3 .int 1 [.ref (hm 0), .int i, .int q] D cy (wMD cy hm v_taped v_walkers v_loads v_pieces v_changeCosts v_planned v_isMarch v_clauseMany v_place v_end v_bad v_clauses v_codes v_open v_stacked v_isOver v_isBehind v_atW v_atL v_atT v_atH v_atM v_atI v_atQ v_packing v_packed v_goPace v_goMinutes v_spentAt v_ranChanges f_m_tape f_m_knee f_m_weight f_m_isLame f_m_loadWeight f_m_owner f_m_food f_m_miles f_m_slope f_m_clauseLetter f_m_sumFrom f_m_codeFrom f_m_codeTo f_m_code f_m_codeArg f_m_newLetter f_m_newSum f_m_newFrom f_m_newTo f_m_newCode f_m_newArg f_m_stack f_m_worth f_m_isRefused f_m_least f_m_packPounds f_m_packOwner f_m_room f_m_givenTo f_m_canBe f_m_setPounds f_m_plainTime f_m_muleTime f_m_planTo f_m_march f_m_tired f_m_ranMinutes f_m_tiredAhead f_m_isReached f_m_toEnd f_m_upTo f_m_upNext f_m_byChanges f_m_bandPaces) NT sz (fun (r : Int32) (u : Unit) => (0 ≤ r.toInt ∧ r.toInt ≤ 12059)) (fun u => wMD cy hm v_taped v_walkers v_loads v_pieces v_changeCosts v_planned v_isMarch v_clauseMany v_place v_end v_bad v_clauses v_codes v_open v_stacked v_isOver v_isBehind v_atW v_atL v_atT v_atH v_atM v_atI v_atQ v_packing v_packed v_goPace v_goMinutes v_spentAt v_ranChanges f_m_tape f_m_knee f_m_weight f_m_isLame f_m_loadWeight f_m_owner f_m_food f_m_miles f_m_slope f_m_clauseLetter f_m_sumFrom f_m_codeFrom f_m_codeTo f_m_code f_m_codeArg f_m_newLetter f_m_newSum f_m_newFrom f_m_newTo f_m_newCode f_m_newArg f_m_stack f_m_worth f_m_isRefused f_m_least f_m_packPounds f_m_packOwner f_m_room f_m_givenTo f_m_canBe f_m_setPounds f_m_plainTime f_m_muleTime f_m_planTo f_m_march f_m_tired f_m_ranMinutes f_m_tiredAhead f_m_isReached f_m_toEnd f_m_upTo f_m_upNext f_m_byChanges f_m_bandPaces) := by
  refine gMi_in (by decide) (Nat.le_of_ble_eq_true rfl) ?_
  intro p e s m args below meth c A ls Q hx hb hml hts hown hsz hP hK hD hN hAe hA hS hl hret
  subst hsz
  have hl : lv_has ls 3 [(0, .ref (hm 0)), (1, .int i), (2, .int q)] := hl
  have hrt := fun (r : Int32)  (hp : (0 ≤ r.toInt ∧ r.toInt ≤ 12059)) {H : Heap} {locs : List Loc} {pc : Nat} {ls : Array Slot} => hret r () (H := H) (locs := locs) (pc := pc) (ls := ls) hp
  clear hret
  refine lv_sipush (v := 600) hx hb dX10_minutesOf_0 (by decide) ?_
  refine lv_aload_n hx hb dX10_minutesOf_3 rfl (lv_at hl 0 rfl) ?_
  refine gt_MD_MD_miles hx hb hts hown hK hP lwd_163 dX10_minutesOf_4 ?_
  refine lv_iload_n hx hb dX10_minutesOf_7 rfl (lv_at hl 1 rfl) ?_
  refine al_m_miles hx hb hK hP hr_m_miles (i_in (rfl : i.toInt = i.toInt) (by omega) (by omega)) dX10_minutesOf_8 (fun n_1 en_1 bn_1 => ?_)
  refine lv_imul hx hb dX10_minutesOf_9 ?_
  refine lv_topi (fun n_2 en_2 => ?_)
  have tn_2 : n_2.toInt = 600 * n_1.toInt := i_mul en_2 (by decide : (600 : Int32).toInt = 600) (rfl : n_1.toInt = n_1.toInt) (by omega) (by omega)
  refine lv_iload_n hx hb dX10_minutesOf_10 rfl (lv_at hl 2 rfl) ?_
  refine lv_iadd hx hb dX10_minutesOf_11 ?_
  refine lv_topi (fun n_3 en_3 => ?_)
  have tn_3 : n_3.toInt = (600 * n_1.toInt) + q.toInt := i_add en_3 tn_2 (rfl : q.toInt = q.toInt) (by omega) (by omega)
  refine lv_iconst (v := 1) hx hb dX10_minutesOf_12 (by decide) ?_
  refine lv_isub hx hb dX10_minutesOf_13 ?_
  refine lv_topi (fun n_4 en_4 => ?_)
  have tn_4 : n_4.toInt = ((600 * n_1.toInt) + q.toInt) - 1 := i_sub en_4 tn_3 (by decide : (1 : Int32).toInt = 1) (by omega) (by omega)
  refine lv_iload_n hx hb dX10_minutesOf_14 rfl (lv_at hl 2 rfl) ?_
  refine lv_idiv hx hb dX10_minutesOf_15 (i_nz (rfl : q.toInt = q.toInt) (by omega)) ?_
  refine lv_topi (fun n_5 en_5 => ?_)
  have bn_5 : 0 ≤ n_5.toInt ∧ n_5.toInt ≤ ((600 * n_1.toInt) + q.toInt) - 1 := i_divb en_5 tn_4 (rfl : q.toInt = q.toInt) (by omega) (by omega)
  exact hrt n_5  (by omega) hP hD hS rfl dX10_minutesOf_16
set_option maxHeartbeats 16000000 in
set_option maxRecDepth 100000 in
theorem c_X10_goneIn (l : Launch) (D : va_G) (cy : Nat → ClassId) (hm : Nat → Nat) (v_taped v_walkers v_loads v_pieces v_changeCosts v_planned v_isMarch v_clauseMany v_place v_end v_bad v_clauses v_codes v_open v_stacked v_isOver v_isBehind v_atW v_atL v_atT v_atH v_atM v_atI v_atQ v_packing v_packed v_goPace v_goMinutes v_spentAt v_ranChanges : Int32) (f_m_tape f_m_knee f_m_weight f_m_isLame f_m_loadWeight f_m_owner f_m_food f_m_miles f_m_slope f_m_clauseLetter f_m_sumFrom f_m_codeFrom f_m_codeTo f_m_code f_m_codeArg f_m_newLetter f_m_newSum f_m_newFrom f_m_newTo f_m_newCode f_m_newArg f_m_stack f_m_worth f_m_isRefused f_m_least f_m_packPounds f_m_packOwner f_m_room f_m_givenTo f_m_canBe f_m_setPounds f_m_plainTime f_m_muleTime f_m_planTo f_m_march f_m_tired f_m_ranMinutes f_m_tiredAhead f_m_isReached f_m_toEnd f_m_upTo f_m_upNext f_m_byChanges f_m_bandPaces : Nat → Int32) (sz : Nat) (bd : Int32) (mi : Int32) (hb_v_pieces : 0 ≤ v_pieces.toInt ∧ v_pieces.toInt ≤ 10) (hr_m_miles : rg (0) 20 f_m_miles) (ha_bd : 0 ≤ bd.toInt ∧ bd.toInt ≤ 1) (ha_mi : 0 ≤ mi.toInt ∧ mi.toInt ≤ 200000) (hp : bpOK f_m_bandPaces (10 * bd.toNatClampNeg) v_pieces.toNatClampNeg) : gMi l yX10_goneIn cX10_goneIn 10 .int 2 [.ref (hm 0), .int bd, .int mi] D cy (wMD cy hm v_taped v_walkers v_loads v_pieces v_changeCosts v_planned v_isMarch v_clauseMany v_place v_end v_bad v_clauses v_codes v_open v_stacked v_isOver v_isBehind v_atW v_atL v_atT v_atH v_atM v_atI v_atQ v_packing v_packed v_goPace v_goMinutes v_spentAt v_ranChanges f_m_tape f_m_knee f_m_weight f_m_isLame f_m_loadWeight f_m_owner f_m_food f_m_miles f_m_slope f_m_clauseLetter f_m_sumFrom f_m_codeFrom f_m_codeTo f_m_code f_m_codeArg f_m_newLetter f_m_newSum f_m_newFrom f_m_newTo f_m_newCode f_m_newArg f_m_stack f_m_worth f_m_isRefused f_m_least f_m_packPounds f_m_packOwner f_m_room f_m_givenTo f_m_canBe f_m_setPounds f_m_plainTime f_m_muleTime f_m_planTo f_m_march f_m_tired f_m_ranMinutes f_m_tiredAhead f_m_isReached f_m_toEnd f_m_upTo f_m_upNext f_m_byChanges f_m_bandPaces) NT sz (fun (r : Int32) (u : Unit) => (0 ≤ r.toInt ∧ r.toInt ≤ 2200) ∧ (bd.toInt = 0 → 12100 * v_pieces.toInt ≤ mi.toInt → r.toInt = 10 * sumM f_m_miles v_pieces.toNatClampNeg)) (fun u => wMD cy hm v_taped v_walkers v_loads v_pieces v_changeCosts v_planned v_isMarch v_clauseMany v_place v_end v_bad v_clauses v_codes v_open v_stacked v_isOver v_isBehind v_atW v_atL v_atT v_atH v_atM v_atI v_atQ v_packing v_packed v_goPace v_goMinutes v_spentAt v_ranChanges f_m_tape f_m_knee f_m_weight f_m_isLame f_m_loadWeight f_m_owner f_m_food f_m_miles f_m_slope f_m_clauseLetter f_m_sumFrom f_m_codeFrom f_m_codeTo f_m_code f_m_codeArg f_m_newLetter f_m_newSum f_m_newFrom f_m_newTo f_m_newCode f_m_newArg f_m_stack f_m_worth f_m_isRefused f_m_least f_m_packPounds f_m_packOwner f_m_room f_m_givenTo f_m_canBe f_m_setPounds f_m_plainTime f_m_muleTime f_m_planTo f_m_march f_m_tired f_m_ranMinutes f_m_tiredAhead f_m_isReached f_m_toEnd f_m_upTo f_m_upNext f_m_byChanges f_m_bandPaces) := by
  refine gMi_in (by decide) (Nat.le_of_ble_eq_true rfl) ?_
  intro p e s m args below meth c A ls Q hx hb hml hts hown hsz hP hK hD hN hAe hA hS hl hret
  subst hsz
  have hl : lv_has ls 10 [(0, .ref (hm 0)), (1, .int bd), (2, .int mi)] := hl
  have hrt := fun (r : Int32)  (hp : (0 ≤ r.toInt ∧ r.toInt ≤ 2200) ∧ (bd.toInt = 0 → 12100 * v_pieces.toInt ≤ mi.toInt → r.toInt = 10 * sumM f_m_miles v_pieces.toNatClampNeg)) {H : Heap} {locs : List Loc} {pc : Nat} {ls : Array Slot} => hret r () (H := H) (locs := locs) (pc := pc) (ls := ls) hp
  clear hret
  refine lv_iload_n hx hb dX10_goneIn_0 rfl (lv_at hl 2 rfl) ?_
  refine lv_istore_n (lv' := [(3, .int mi), (0, .ref (hm 0)), (1, .int bd), (2, .int mi)]) hx hb dX10_goneIn_1 rfl hl (by decide) rfl (fun ls hl => ?_)
  refine lv_iconst (v := 0) hx hb dX10_goneIn_2 (by decide) ?_
  refine lv_istore (lv' := [(4, .int 0), (3, .int mi), (0, .ref (hm 0)), (1, .int bd), (2, .int mi)]) hx hb dX10_goneIn_3 hl (by decide) rfl (fun ls hl => ?_)
  refine lv_iconst (v := 0) hx hb dX10_goneIn_5 (by decide) ?_
  refine lv_istore (lv' := [(5, .int 0), (4, .int 0), (3, .int mi), (0, .ref (hm 0)), (1, .int bd), (2, .int mi)]) hx hb dX10_goneIn_6 hl (by decide) rfl (fun ls hl => ?_)
  have L8_7 : ∀ (n : Nat) (l_4 : Int32) (l_5 : Int32) (l_6 : Int32), (0 ≤ l_4.toInt ∧ l_4.toInt ≤ 200000) → (0 ≤ l_5.toInt ∧ l_5.toInt ≤ 2000) → (0 ≤ l_6.toInt ∧ l_6.toInt ≤ 10) → (l_5.toInt ≤ 200 * l_6.toInt ∧ l_6.toInt ≤ v_pieces.toInt) → (bd.toInt = 0 → 12100 * v_pieces.toInt ≤ mi.toInt → l_5.toInt = 10 * sumM f_m_miles l_6.toNatClampNeg ∧ 12100 * (v_pieces.toInt - l_6.toInt) ≤ l_4.toInt) → 11 - l_6.toInt < n → ∀ (H : Heap) (locs : List Loc) (ls : Array Slot), va_P D vwCl (wMD cy hm v_taped v_walkers v_loads v_pieces v_changeCosts v_planned v_isMarch v_clauseMany v_place v_end v_bad v_clauses v_codes v_open v_stacked v_isOver v_isBehind v_atW v_atL v_atT v_atH v_atM v_atI v_atQ v_packing v_packed v_goPace v_goMinutes v_spentAt v_ranChanges f_m_tape f_m_knee f_m_weight f_m_isLame f_m_loadWeight f_m_owner f_m_food f_m_miles f_m_slope f_m_clauseLetter f_m_sumFrom f_m_codeFrom f_m_codeTo f_m_code f_m_codeArg f_m_newLetter f_m_newSum f_m_newFrom f_m_newTo f_m_newCode f_m_newArg f_m_stack f_m_worth f_m_isRefused f_m_least f_m_packPounds f_m_packOwner f_m_room f_m_givenTo f_m_canBe f_m_setPounds f_m_plainTime f_m_muleTime f_m_planTo f_m_march f_m_tired f_m_ranMinutes f_m_tiredAhead f_m_isReached f_m_toEnd f_m_upTo f_m_upNext f_m_byChanges f_m_bandPaces) H → va_D A (wMD cy hm v_taped v_walkers v_loads v_pieces v_changeCosts v_planned v_isMarch v_clauseMany v_place v_end v_bad v_clauses v_codes v_open v_stacked v_isOver v_isBehind v_atW v_atL v_atT v_atH v_atM v_atI v_atQ v_packing v_packed v_goPace v_goMinutes v_spentAt v_ranChanges f_m_tape f_m_knee f_m_weight f_m_isLame f_m_loadWeight f_m_owner f_m_food f_m_miles f_m_slope f_m_clauseLetter f_m_sumFrom f_m_codeFrom f_m_codeTo f_m_code f_m_codeArg f_m_newLetter f_m_newSum f_m_newFrom f_m_newTo f_m_newCode f_m_newArg f_m_stack f_m_worth f_m_isRefused f_m_least f_m_packPounds f_m_packOwner f_m_room f_m_givenTo f_m_canBe f_m_setPounds f_m_plainTime f_m_muleTime f_m_planTo f_m_march f_m_tired f_m_ranMinutes f_m_tiredAhead f_m_isReached f_m_toEnd f_m_upTo f_m_upNext f_m_byChanges f_m_bandPaces) → va_S A s.heap H locs → lv_has ls 10 [(5, .int l_6), (4, .int l_5), (3, .int l_4), (0, .ref (hm 0)), (1, .int bd), (2, .int mi)] → W p l e (gRm 2) s m args below meth c H locs 0 0 Q (F0 m 8 ls []) := by
    intro n
    induction n with
    | zero => intro l_4 l_5 l_6 hL8_7_0 hL8_7_1 hL8_7_2 hL8_7_3 hL8_7_4 hm; exact absurd hm (by omega)
    | succ n ih8_7 =>
      intro l_4 l_5 l_6 hL8_7_0 hL8_7_1 hL8_7_2 hL8_7_3 hL8_7_4 hmL8_7 H locs ls hP hD hS hl
      refine lv_iload hx hb dX10_goneIn_8 (lv_at hl 0 rfl) ?_
      refine lv_aload_n hx hb dX10_goneIn_10 rfl (lv_at hl 3 rfl) ?_
      refine gt_MD_MD_pieces hx hb hts hown hK hP lwd_265 dX10_goneIn_11 ?_
      refine lv_icmp_ge (tgt := 139) hx hb dX10_goneIn_14 (by decide) (fun c_8 => ?_) (fun c_8 => ?_)
      · have gc_8 : v_pieces.toInt ≤ l_6.toInt := i_le (rfl : v_pieces.toInt = v_pieces.toInt) (rfl : l_6.toInt = l_6.toInt) c_8
        refine lv_iload hx hb dX10_goneIn_139 (lv_at hl 1 rfl) ?_
        exact hrt l_5  ⟨(by omega), (fun h0 h1 => by
          obtain ⟨q1, q2⟩ := hL8_7_4 h0 h1
          have e9 : l_6.toNatClampNeg = v_pieces.toNatClampNeg := by rw [i_ix (rfl : l_6.toInt = l_6.toInt), i_ix (rfl : v_pieces.toInt = v_pieces.toInt)]; omega
          rw [← e9]; exact q1)⟩ hP hD hS rfl dX10_goneIn_141
      · have gc_8 : l_6.toInt < v_pieces.toInt := i_nle (rfl : v_pieces.toInt = v_pieces.toInt) (rfl : l_6.toInt = l_6.toInt) c_8
        refine lv_iload_n hx hb dX10_goneIn_17 rfl (lv_at hl 4 rfl) ?_
        refine lv_if_ne (tgt := 26) hx hb dX10_goneIn_18 (by decide) (fun c_9 => ?_) (fun c_9 => ?_)
        · have gc_9 : bd.toInt ≠ 0 := i_ne (rfl : bd.toInt = bd.toInt) (by decide : (0 : Int32).toInt = 0) c_9
          refine lv_aload_n hx hb dX10_goneIn_26 rfl (lv_at hl 3 rfl) ?_
          refine gt_MD_MD_pieces hx hb hts hown hK hP lwd_265 dX10_goneIn_27 ?_
          refine lv_iconst (v := 1) hx hb dX10_goneIn_30 (by decide) ?_
          refine lv_isub hx hb dX10_goneIn_31 ?_
          refine lv_topi (fun n_10 en_10 => ?_)
          have tn_10 : n_10.toInt = v_pieces.toInt - 1 := i_sub en_10 (rfl : v_pieces.toInt = v_pieces.toInt) (by decide : (1 : Int32).toInt = 1) (by omega) (by omega)
          refine lv_iload hx hb dX10_goneIn_32 (lv_at hl 0 rfl) ?_
          refine lv_isub hx hb dX10_goneIn_34 ?_
          refine lv_topi (fun n_11 en_11 => ?_)
          have tn_11 : n_11.toInt = (v_pieces.toInt - 1) - l_6.toInt := i_sub en_11 tn_10 (rfl : l_6.toInt = l_6.toInt) (by omega) (by omega)
          refine lv_istore (lv' := [(6, .int n_11), (5, .int l_6), (4, .int l_5), (3, .int l_4), (0, .ref (hm 0)), (1, .int bd), (2, .int mi)]) hx hb dX10_goneIn_35 hl (by decide) rfl (fun ls hl => ?_)
          refine lv_aload_n hx hb dX10_goneIn_37 rfl (lv_at hl 4 rfl) ?_
          refine gt_MD_MD_bandPaces hx hb hts hown hK hP lwd_201 dX10_goneIn_38 ?_
          refine lv_bipush (v := 10) hx hb dX10_goneIn_41 (by decide) ?_
          refine lv_iload_n hx hb dX10_goneIn_43 rfl (lv_at hl 5 rfl) ?_
          refine lv_imul hx hb dX10_goneIn_44 ?_
          refine lv_topi (fun n_12 en_12 => ?_)
          have tn_12 : n_12.toInt = 10 * bd.toInt := i_mul en_12 (by decide : (10 : Int32).toInt = 10) (rfl : bd.toInt = bd.toInt) (by omega) (by omega)
          refine lv_iload hx hb dX10_goneIn_45 (lv_at hl 0 rfl) ?_
          refine lv_iadd hx hb dX10_goneIn_47 ?_
          refine lv_topi (fun n_13 en_13 => ?_)
          have tn_13 : n_13.toInt = (10 * bd.toInt) + ((v_pieces.toInt - 1) - l_6.toInt) := i_add en_13 tn_12 tn_11 (by omega) (by omega)
          refine al_m_bandPaces hx hb hK hP (i_in tn_13 (by omega) (by omega)) dX10_goneIn_48 (fun n_14 en_14 => ?_)
          have hj9 : n_13.toNatClampNeg = 10 * bd.toNatClampNeg + n_11.toNatClampNeg := by rw [i_ix tn_13, i_ix tn_11, i_ix (rfl : bd.toInt = bd.toInt)]; omega
          have hb9 := hp n_11.toNatClampNeg (by rw [i_ix tn_11, i_ix (rfl : v_pieces.toInt = v_pieces.toInt)]; omega)
          rw [← hj9, ← en_14] at hb9
          refine lv_istore (lv' := [(7, .int n_14), (6, .int n_11), (5, .int l_6), (4, .int l_5), (3, .int l_4), (0, .ref (hm 0)), (1, .int bd), (2, .int mi)]) hx hb dX10_goneIn_49 hl (by decide) rfl (fun ls hl => ?_)
          refine lv_aload_n hx hb dX10_goneIn_51 rfl (lv_at hl 5 rfl) ?_
          refine lv_iload hx hb dX10_goneIn_52 (lv_at hl 1 rfl) ?_
          refine lv_iload hx hb dX10_goneIn_54 (lv_at hl 0 rfl) ?_
          refine xi hD hS hA (xV (As := [.int n_11, .int n_14]) (rest := []) hx hb hml hown hts hK hP hD hS hA NT_ok hN hAe hl.1 ⟨Nat.le_refl _, Nat.le_refl _⟩ 0 rfl rfl rfl (c_X10_minutesOf_p l D cy hm v_taped v_walkers v_loads v_pieces v_changeCosts v_planned v_isMarch v_clauseMany v_place v_end v_bad v_clauses v_codes v_open v_stacked v_isOver v_isBehind v_atW v_atL v_atT v_atH v_atM v_atI v_atQ v_packing v_packed v_goPace v_goMinutes v_spentAt v_ranChanges f_m_tape f_m_knee f_m_weight f_m_isLame f_m_loadWeight f_m_owner f_m_food f_m_miles f_m_slope f_m_clauseLetter f_m_sumFrom f_m_codeFrom f_m_codeTo f_m_code f_m_codeArg f_m_newLetter f_m_newSum f_m_newFrom f_m_newTo f_m_newCode f_m_newArg f_m_stack f_m_worth f_m_isRefused f_m_least f_m_packPounds f_m_packOwner f_m_room f_m_givenTo f_m_canBe f_m_setPounds f_m_plainTime f_m_muleTime f_m_planTo f_m_march f_m_tired f_m_ranMinutes f_m_tiredAhead f_m_isReached f_m_toEnd f_m_upTo f_m_upNext f_m_byChanges f_m_bandPaces H.size n_11 n_14 hr_m_miles (by omega) (by omega)) (gi_V lwd_668 lwd_669 lwd_670 lwd_5 lwd_671) ⟨rfl, hd_X10_minutesOf⟩ ⟨Nat.le_of_ble_eq_true rfl, Nat.le_of_ble_eq_true rfl⟩ rfl (Nat.le_of_ble_eq_true rfl) dX10_goneIn_56) (fun r_16 u_15 H locs hw hP hD hS => ?_)
          try dsimp only at hw hP hD
          have p_17 := hw
          clear hw
          refine lv_istore (lv' := [(8, .int r_16), (7, .int n_14), (6, .int n_11), (5, .int l_6), (4, .int l_5), (3, .int l_4), (0, .ref (hm 0)), (1, .int bd), (2, .int mi)]) hx hb dX10_goneIn_59 hl (by decide) rfl (fun ls hl => ?_)
          refine lv_iload_n hx hb dX10_goneIn_61 rfl (lv_at hl 5 rfl) ?_
          refine lv_iload hx hb dX10_goneIn_62 (lv_at hl 0 rfl) ?_
          refine lv_icmp_lt (tgt := 90) hx hb dX10_goneIn_64 (by decide) (fun c_18 => ?_) (fun c_18 => ?_)
          · have gc_18 : l_4.toInt < r_16.toInt := i_lt (rfl : l_4.toInt = l_4.toInt) (rfl : r_16.toInt = r_16.toInt) c_18
            skip
            refine lv_iload hx hb dX10_goneIn_90 (lv_at hl 1 rfl) ?_
            refine lv_iload_n hx hb dX10_goneIn_92 rfl (lv_at hl 5 rfl) ?_
            refine lv_imul hx hb dX10_goneIn_93 ?_
            have mb_19 := mul_bd (a := n_14.toInt) (b := l_4.toInt) (A := 60) (B := 12058) (by omega) (by omega) (by omega) (by omega)
            refine lv_topi (fun n_20 en_20 => ?_)
            have tn_20 : n_20.toInt = n_14.toInt * l_4.toInt := i_mul en_20 (rfl : n_14.toInt = n_14.toInt) (rfl : l_4.toInt = l_4.toInt) (by omega) (by omega)
            refine lv_bipush (v := 60) hx hb dX10_goneIn_94 (by decide) ?_
            refine lv_idiv hx hb dX10_goneIn_96 (by decide) ?_
            refine lv_topi (fun n_21 en_21 => ?_)
            have tn_21 : n_21.toInt = (n_14.toInt * l_4.toInt) / 60 := i_div en_21 tn_20 (by decide : (60 : Int32).toInt = 60) (by omega) (by omega)
            refine lv_istore (lv' := [(9, .int n_21), (8, .int r_16), (7, .int n_14), (6, .int n_11), (5, .int l_6), (4, .int l_5), (3, .int l_4), (0, .ref (hm 0)), (1, .int bd), (2, .int mi)]) hx hb dX10_goneIn_97 hl (by decide) rfl (fun ls hl => ?_)
            refine lv_iload hx hb dX10_goneIn_99 (lv_at hl 5 rfl) ?_
            refine lv_iload hx hb dX10_goneIn_101 (lv_at hl 0 rfl) ?_
            refine lv_bipush (v := 10) hx hb dX10_goneIn_103 (by decide) ?_
            refine lv_aload_n hx hb dX10_goneIn_105 rfl (lv_at hl 7 rfl) ?_
            refine gt_MD_MD_miles hx hb hts hown hK hP lwd_163 dX10_goneIn_106 ?_
            refine lv_iload hx hb dX10_goneIn_109 (lv_at hl 3 rfl) ?_
            refine al_m_miles hx hb hK hP hr_m_miles (i_in tn_11 (by omega) (by omega)) dX10_goneIn_111 (fun n_22 en_22 bn_22 => ?_)
            refine lv_imul hx hb dX10_goneIn_112 ?_
            refine lv_topi (fun n_23 en_23 => ?_)
            have tn_23 : n_23.toInt = 10 * n_22.toInt := i_mul en_23 (by decide : (10 : Int32).toInt = 10) (rfl : n_22.toInt = n_22.toInt) (by omega) (by omega)
            refine lv_icmp_ge (tgt := 121) hx hb dX10_goneIn_113 (by decide) (fun c_24 => ?_) (fun c_24 => ?_)
            · have gc_24 : 10 * n_22.toInt ≤ (n_14.toInt * l_4.toInt) / 60 := i_le tn_23 tn_21 c_24
              refine lv_bipush (v := 10) hx hb dX10_goneIn_121 (by decide) ?_
              refine lv_aload_n hx hb dX10_goneIn_123 rfl (lv_at hl 7 rfl) ?_
              refine gt_MD_MD_miles hx hb hts hown hK hP lwd_163 dX10_goneIn_124 ?_
              refine lv_iload hx hb dX10_goneIn_127 (lv_at hl 3 rfl) ?_
              refine al_m_miles hx hb hK hP hr_m_miles (i_in tn_11 (by omega) (by omega)) dX10_goneIn_129 (fun n_25 en_25 bn_25 => ?_)
              obtain rfl : n_22 = n_25 := en_22.trans en_25.symm
              refine lv_imul hx hb dX10_goneIn_130 ?_
              refine lv_topi (fun n_26 en_26 => ?_)
              have tn_26 : n_26.toInt = 10 * n_22.toInt := i_mul en_26 (by decide : (10 : Int32).toInt = 10) (rfl : n_22.toInt = n_22.toInt) (by omega) (by omega)
              refine lv_iadd hx hb dX10_goneIn_131 ?_
              refine lv_topi (fun n_27 en_27 => ?_)
              have tn_27 : n_27.toInt = l_5.toInt + (10 * n_22.toInt) := i_add en_27 (rfl : l_5.toInt = l_5.toInt) tn_26 (by omega) (by omega)
              exact hrt n_27  ⟨(by omega), (fun h0 h1 => by have q := hL8_7_4 h0 h1; omega)⟩ hP hD hS rfl dX10_goneIn_132
            · have gc_24 : (n_14.toInt * l_4.toInt) / 60 < 10 * n_22.toInt := i_nle tn_23 tn_21 c_24
              refine lv_iload hx hb dX10_goneIn_116 (lv_at hl 0 rfl) ?_
              refine lv_goto (tgt := 131) hx hb dX10_goneIn_118 (by decide) ?_
              refine lv_iadd hx hb dX10_goneIn_131 ?_
              refine lv_topi (fun n_28 en_28 => ?_)
              have tn_28 : n_28.toInt = l_5.toInt + ((n_14.toInt * l_4.toInt) / 60) := i_add en_28 (rfl : l_5.toInt = l_5.toInt) tn_21 (by omega) (by omega)
              exact hrt n_28  ⟨(by omega), (fun h0 h1 => by have q := hL8_7_4 h0 h1; omega)⟩ hP hD hS rfl dX10_goneIn_132
          · have gc_18 : r_16.toInt ≤ l_4.toInt := i_nlt (rfl : l_4.toInt = l_4.toInt) (rfl : r_16.toInt = r_16.toInt) c_18
            refine lv_iload_n hx hb dX10_goneIn_67 rfl (lv_at hl 5 rfl) ?_
            refine lv_iload hx hb dX10_goneIn_68 (lv_at hl 0 rfl) ?_
            refine lv_isub hx hb dX10_goneIn_70 ?_
            refine lv_topi (fun n_29 en_29 => ?_)
            have tn_29 : n_29.toInt = l_4.toInt - r_16.toInt := i_sub en_29 (rfl : l_4.toInt = l_4.toInt) (rfl : r_16.toInt = r_16.toInt) (by omega) (by omega)
            refine lv_istore_n (lv' := [(3, .int n_29), (8, .int r_16), (7, .int n_14), (6, .int n_11), (5, .int l_6), (4, .int l_5), (0, .ref (hm 0)), (1, .int bd), (2, .int mi)]) hx hb dX10_goneIn_71 rfl hl (by decide) rfl (fun ls hl => ?_)
            refine lv_iload hx hb dX10_goneIn_72 (lv_at hl 5 rfl) ?_
            refine lv_bipush (v := 10) hx hb dX10_goneIn_74 (by decide) ?_
            refine lv_aload_n hx hb dX10_goneIn_76 rfl (lv_at hl 6 rfl) ?_
            refine gt_MD_MD_miles hx hb hts hown hK hP lwd_163 dX10_goneIn_77 ?_
            refine lv_iload hx hb dX10_goneIn_80 (lv_at hl 3 rfl) ?_
            refine al_m_miles hx hb hK hP hr_m_miles (i_in tn_11 (by omega) (by omega)) dX10_goneIn_82 (fun n_30 en_30 bn_30 => ?_)
            refine lv_imul hx hb dX10_goneIn_83 ?_
            refine lv_topi (fun n_31 en_31 => ?_)
            have tn_31 : n_31.toInt = 10 * n_30.toInt := i_mul en_31 (by decide : (10 : Int32).toInt = 10) (rfl : n_30.toInt = n_30.toInt) (by omega) (by omega)
            refine lv_iadd hx hb dX10_goneIn_84 ?_
            refine lv_topi (fun n_32 en_32 => ?_)
            have tn_32 : n_32.toInt = l_5.toInt + (10 * n_30.toInt) := i_add en_32 (rfl : l_5.toInt = l_5.toInt) tn_31 (by omega) (by omega)
            refine lv_istore (lv' := [(4, .int n_32), (3, .int n_29), (8, .int r_16), (7, .int n_14), (6, .int n_11), (5, .int l_6), (0, .ref (hm 0)), (1, .int bd), (2, .int mi)]) hx hb dX10_goneIn_85 hl (by decide) rfl (fun ls hl => ?_)
            refine lv_goto (tgt := 133) hx hb dX10_goneIn_87 (by decide) ?_
            obtain ⟨n_33, en_33⟩ : ∃ y : Int32, y = l_6 + 1 := ⟨_, rfl⟩
            have tn_33 : n_33.toInt = l_6.toInt + 1 := i_add en_33 (rfl : l_6.toInt = l_6.toInt) (by decide : (1 : Int32).toInt = 1) (by omega) (by omega)
            refine lv_iinc (v := n_33) (lv' := [(5, .int n_33), (4, .int n_32), (3, .int n_29), (8, .int r_16), (7, .int n_14), (6, .int n_11), (0, .ref (hm 0)), (1, .int bd), (2, .int mi)]) hx hb dX10_goneIn_133 hl (k := 5) rfl (by rw [en_33]; rfl) (by decide) rfl (fun ls hl => ?_)
            refine lv_goto (tgt := 8) hx hb dX10_goneIn_136 (by decide) ?_
            exact ih8_7 n_29 n_32 n_33 (by omega) (by omega) (by omega) (by omega) (fun h0 _ => absurd h0 (by omega)) (by omega) _ _ _ hP hD hS (lv_sub hl [0, 1, 2, 6, 7, 8] rfl)
        · have gc_9 : bd.toInt = 0 := i_eq (rfl : bd.toInt = bd.toInt) (by decide : (0 : Int32).toInt = 0) c_9
          refine lv_iload hx hb dX10_goneIn_21 (lv_at hl 0 rfl) ?_
          refine lv_goto (tgt := 35) hx hb dX10_goneIn_23 (by decide) ?_
          refine lv_istore (lv' := [(6, .int l_6), (5, .int l_6), (4, .int l_5), (3, .int l_4), (0, .ref (hm 0)), (1, .int bd), (2, .int mi)]) hx hb dX10_goneIn_35 hl (by decide) rfl (fun ls hl => ?_)
          refine lv_aload_n hx hb dX10_goneIn_37 rfl (lv_at hl 4 rfl) ?_
          refine gt_MD_MD_bandPaces hx hb hts hown hK hP lwd_201 dX10_goneIn_38 ?_
          refine lv_bipush (v := 10) hx hb dX10_goneIn_41 (by decide) ?_
          refine lv_iload_n hx hb dX10_goneIn_43 rfl (lv_at hl 5 rfl) ?_
          refine lv_imul hx hb dX10_goneIn_44 ?_
          refine lv_topi (fun n_34 en_34 => ?_)
          have tn_34 : n_34.toInt = 10 * bd.toInt := i_mul en_34 (by decide : (10 : Int32).toInt = 10) (rfl : bd.toInt = bd.toInt) (by omega) (by omega)
          refine lv_iload hx hb dX10_goneIn_45 (lv_at hl 0 rfl) ?_
          refine lv_iadd hx hb dX10_goneIn_47 ?_
          refine lv_topi (fun n_35 en_35 => ?_)
          have tn_35 : n_35.toInt = (10 * bd.toInt) + l_6.toInt := i_add en_35 tn_34 (rfl : l_6.toInt = l_6.toInt) (by omega) (by omega)
          refine al_m_bandPaces hx hb hK hP (i_in tn_35 (by omega) (by omega)) dX10_goneIn_48 (fun n_36 en_36 => ?_)
          have hj9 : n_35.toNatClampNeg = 10 * bd.toNatClampNeg + l_6.toNatClampNeg := by rw [i_ix tn_35, i_ix (rfl : l_6.toInt = l_6.toInt), i_ix (rfl : bd.toInt = bd.toInt)]; omega
          have hb9 := hp l_6.toNatClampNeg (by rw [i_ix (rfl : l_6.toInt = l_6.toInt), i_ix (rfl : v_pieces.toInt = v_pieces.toInt)]; omega)
          rw [← hj9, ← en_36] at hb9
          refine lv_istore (lv' := [(7, .int n_36), (6, .int l_6), (5, .int l_6), (4, .int l_5), (3, .int l_4), (0, .ref (hm 0)), (1, .int bd), (2, .int mi)]) hx hb dX10_goneIn_49 hl (by decide) rfl (fun ls hl => ?_)
          refine lv_aload_n hx hb dX10_goneIn_51 rfl (lv_at hl 5 rfl) ?_
          refine lv_iload hx hb dX10_goneIn_52 (lv_at hl 1 rfl) ?_
          refine lv_iload hx hb dX10_goneIn_54 (lv_at hl 0 rfl) ?_
          refine xi hD hS hA (xV (As := [.int l_6, .int n_36]) (rest := []) hx hb hml hown hts hK hP hD hS hA NT_ok hN hAe hl.1 ⟨Nat.le_refl _, Nat.le_refl _⟩ 0 rfl rfl rfl (c_X10_minutesOf_p l D cy hm v_taped v_walkers v_loads v_pieces v_changeCosts v_planned v_isMarch v_clauseMany v_place v_end v_bad v_clauses v_codes v_open v_stacked v_isOver v_isBehind v_atW v_atL v_atT v_atH v_atM v_atI v_atQ v_packing v_packed v_goPace v_goMinutes v_spentAt v_ranChanges f_m_tape f_m_knee f_m_weight f_m_isLame f_m_loadWeight f_m_owner f_m_food f_m_miles f_m_slope f_m_clauseLetter f_m_sumFrom f_m_codeFrom f_m_codeTo f_m_code f_m_codeArg f_m_newLetter f_m_newSum f_m_newFrom f_m_newTo f_m_newCode f_m_newArg f_m_stack f_m_worth f_m_isRefused f_m_least f_m_packPounds f_m_packOwner f_m_room f_m_givenTo f_m_canBe f_m_setPounds f_m_plainTime f_m_muleTime f_m_planTo f_m_march f_m_tired f_m_ranMinutes f_m_tiredAhead f_m_isReached f_m_toEnd f_m_upTo f_m_upNext f_m_byChanges f_m_bandPaces H.size l_6 n_36 hr_m_miles (by omega) (by omega)) (gi_V lwd_668 lwd_669 lwd_670 lwd_5 lwd_671) ⟨rfl, hd_X10_minutesOf⟩ ⟨Nat.le_of_ble_eq_true rfl, Nat.le_of_ble_eq_true rfl⟩ rfl (Nat.le_of_ble_eq_true rfl) dX10_goneIn_56) (fun r_38 u_37 H locs hw hP hD hS => ?_)
          try dsimp only at hw hP hD
          have p_39 := hw
          clear hw
          refine lv_istore (lv' := [(8, .int r_38), (7, .int n_36), (6, .int l_6), (5, .int l_6), (4, .int l_5), (3, .int l_4), (0, .ref (hm 0)), (1, .int bd), (2, .int mi)]) hx hb dX10_goneIn_59 hl (by decide) rfl (fun ls hl => ?_)
          refine lv_iload_n hx hb dX10_goneIn_61 rfl (lv_at hl 5 rfl) ?_
          refine lv_iload hx hb dX10_goneIn_62 (lv_at hl 0 rfl) ?_
          refine lv_icmp_lt (tgt := 90) hx hb dX10_goneIn_64 (by decide) (fun c_40 => ?_) (fun c_40 => ?_)
          · have gc_40 : l_4.toInt < r_38.toInt := i_lt (rfl : l_4.toInt = l_4.toInt) (rfl : r_38.toInt = r_38.toInt) c_40
            skip
            refine lv_iload hx hb dX10_goneIn_90 (lv_at hl 1 rfl) ?_
            refine lv_iload_n hx hb dX10_goneIn_92 rfl (lv_at hl 5 rfl) ?_
            refine lv_imul hx hb dX10_goneIn_93 ?_
            have mb_41 := mul_bd (a := n_36.toInt) (b := l_4.toInt) (A := 60) (B := 12058) (by omega) (by omega) (by omega) (by omega)
            refine lv_topi (fun n_42 en_42 => ?_)
            have tn_42 : n_42.toInt = n_36.toInt * l_4.toInt := i_mul en_42 (rfl : n_36.toInt = n_36.toInt) (rfl : l_4.toInt = l_4.toInt) (by omega) (by omega)
            refine lv_bipush (v := 60) hx hb dX10_goneIn_94 (by decide) ?_
            refine lv_idiv hx hb dX10_goneIn_96 (by decide) ?_
            refine lv_topi (fun n_43 en_43 => ?_)
            have tn_43 : n_43.toInt = (n_36.toInt * l_4.toInt) / 60 := i_div en_43 tn_42 (by decide : (60 : Int32).toInt = 60) (by omega) (by omega)
            refine lv_istore (lv' := [(9, .int n_43), (8, .int r_38), (7, .int n_36), (6, .int l_6), (5, .int l_6), (4, .int l_5), (3, .int l_4), (0, .ref (hm 0)), (1, .int bd), (2, .int mi)]) hx hb dX10_goneIn_97 hl (by decide) rfl (fun ls hl => ?_)
            refine lv_iload hx hb dX10_goneIn_99 (lv_at hl 5 rfl) ?_
            refine lv_iload hx hb dX10_goneIn_101 (lv_at hl 0 rfl) ?_
            refine lv_bipush (v := 10) hx hb dX10_goneIn_103 (by decide) ?_
            refine lv_aload_n hx hb dX10_goneIn_105 rfl (lv_at hl 7 rfl) ?_
            refine gt_MD_MD_miles hx hb hts hown hK hP lwd_163 dX10_goneIn_106 ?_
            refine lv_iload hx hb dX10_goneIn_109 (lv_at hl 3 rfl) ?_
            refine al_m_miles hx hb hK hP hr_m_miles (i_in (rfl : l_6.toInt = l_6.toInt) (by omega) (by omega)) dX10_goneIn_111 (fun n_44 en_44 bn_44 => ?_)
            refine lv_imul hx hb dX10_goneIn_112 ?_
            refine lv_topi (fun n_45 en_45 => ?_)
            have tn_45 : n_45.toInt = 10 * n_44.toInt := i_mul en_45 (by decide : (10 : Int32).toInt = 10) (rfl : n_44.toInt = n_44.toInt) (by omega) (by omega)
            refine lv_icmp_ge (tgt := 121) hx hb dX10_goneIn_113 (by decide) (fun c_46 => ?_) (fun c_46 => ?_)
            · have gc_46 : 10 * n_44.toInt ≤ (n_36.toInt * l_4.toInt) / 60 := i_le tn_45 tn_43 c_46
              refine lv_bipush (v := 10) hx hb dX10_goneIn_121 (by decide) ?_
              refine lv_aload_n hx hb dX10_goneIn_123 rfl (lv_at hl 7 rfl) ?_
              refine gt_MD_MD_miles hx hb hts hown hK hP lwd_163 dX10_goneIn_124 ?_
              refine lv_iload hx hb dX10_goneIn_127 (lv_at hl 3 rfl) ?_
              refine al_m_miles hx hb hK hP hr_m_miles (i_in (rfl : l_6.toInt = l_6.toInt) (by omega) (by omega)) dX10_goneIn_129 (fun n_47 en_47 bn_47 => ?_)
              obtain rfl : n_44 = n_47 := en_44.trans en_47.symm
              refine lv_imul hx hb dX10_goneIn_130 ?_
              refine lv_topi (fun n_48 en_48 => ?_)
              have tn_48 : n_48.toInt = 10 * n_44.toInt := i_mul en_48 (by decide : (10 : Int32).toInt = 10) (rfl : n_44.toInt = n_44.toInt) (by omega) (by omega)
              refine lv_iadd hx hb dX10_goneIn_131 ?_
              refine lv_topi (fun n_49 en_49 => ?_)
              have tn_49 : n_49.toInt = l_5.toInt + (10 * n_44.toInt) := i_add en_49 (rfl : l_5.toInt = l_5.toInt) tn_48 (by omega) (by omega)
              exact hrt n_49  ⟨(by omega), (fun h0 h1 => by have q := hL8_7_4 h0 h1; omega)⟩ hP hD hS rfl dX10_goneIn_132
            · have gc_46 : (n_36.toInt * l_4.toInt) / 60 < 10 * n_44.toInt := i_nle tn_45 tn_43 c_46
              refine lv_iload hx hb dX10_goneIn_116 (lv_at hl 0 rfl) ?_
              refine lv_goto (tgt := 131) hx hb dX10_goneIn_118 (by decide) ?_
              refine lv_iadd hx hb dX10_goneIn_131 ?_
              refine lv_topi (fun n_50 en_50 => ?_)
              have tn_50 : n_50.toInt = l_5.toInt + ((n_36.toInt * l_4.toInt) / 60) := i_add en_50 (rfl : l_5.toInt = l_5.toInt) tn_43 (by omega) (by omega)
              exact hrt n_50  ⟨(by omega), (fun h0 h1 => by have q := hL8_7_4 h0 h1; omega)⟩ hP hD hS rfl dX10_goneIn_132
          · have gc_40 : r_38.toInt ≤ l_4.toInt := i_nlt (rfl : l_4.toInt = l_4.toInt) (rfl : r_38.toInt = r_38.toInt) c_40
            refine lv_iload_n hx hb dX10_goneIn_67 rfl (lv_at hl 5 rfl) ?_
            refine lv_iload hx hb dX10_goneIn_68 (lv_at hl 0 rfl) ?_
            refine lv_isub hx hb dX10_goneIn_70 ?_
            refine lv_topi (fun n_51 en_51 => ?_)
            have tn_51 : n_51.toInt = l_4.toInt - r_38.toInt := i_sub en_51 (rfl : l_4.toInt = l_4.toInt) (rfl : r_38.toInt = r_38.toInt) (by omega) (by omega)
            refine lv_istore_n (lv' := [(3, .int n_51), (8, .int r_38), (7, .int n_36), (6, .int l_6), (5, .int l_6), (4, .int l_5), (0, .ref (hm 0)), (1, .int bd), (2, .int mi)]) hx hb dX10_goneIn_71 rfl hl (by decide) rfl (fun ls hl => ?_)
            refine lv_iload hx hb dX10_goneIn_72 (lv_at hl 5 rfl) ?_
            refine lv_bipush (v := 10) hx hb dX10_goneIn_74 (by decide) ?_
            refine lv_aload_n hx hb dX10_goneIn_76 rfl (lv_at hl 6 rfl) ?_
            refine gt_MD_MD_miles hx hb hts hown hK hP lwd_163 dX10_goneIn_77 ?_
            refine lv_iload hx hb dX10_goneIn_80 (lv_at hl 3 rfl) ?_
            refine al_m_miles hx hb hK hP hr_m_miles (i_in (rfl : l_6.toInt = l_6.toInt) (by omega) (by omega)) dX10_goneIn_82 (fun n_52 en_52 bn_52 => ?_)
            refine lv_imul hx hb dX10_goneIn_83 ?_
            refine lv_topi (fun n_53 en_53 => ?_)
            have tn_53 : n_53.toInt = 10 * n_52.toInt := i_mul en_53 (by decide : (10 : Int32).toInt = 10) (rfl : n_52.toInt = n_52.toInt) (by omega) (by omega)
            refine lv_iadd hx hb dX10_goneIn_84 ?_
            refine lv_topi (fun n_54 en_54 => ?_)
            have tn_54 : n_54.toInt = l_5.toInt + (10 * n_52.toInt) := i_add en_54 (rfl : l_5.toInt = l_5.toInt) tn_53 (by omega) (by omega)
            refine lv_istore (lv' := [(4, .int n_54), (3, .int n_51), (8, .int r_38), (7, .int n_36), (6, .int l_6), (5, .int l_6), (0, .ref (hm 0)), (1, .int bd), (2, .int mi)]) hx hb dX10_goneIn_85 hl (by decide) rfl (fun ls hl => ?_)
            refine lv_goto (tgt := 133) hx hb dX10_goneIn_87 (by decide) ?_
            obtain ⟨n_55, en_55⟩ : ∃ y : Int32, y = l_6 + 1 := ⟨_, rfl⟩
            have tn_55 : n_55.toInt = l_6.toInt + 1 := i_add en_55 (rfl : l_6.toInt = l_6.toInt) (by decide : (1 : Int32).toInt = 1) (by omega) (by omega)
            refine lv_iinc (v := n_55) (lv' := [(5, .int n_55), (4, .int n_54), (3, .int n_51), (8, .int r_38), (7, .int n_36), (6, .int l_6), (0, .ref (hm 0)), (1, .int bd), (2, .int mi)]) hx hb dX10_goneIn_133 hl (k := 5) rfl (by rw [en_55]; rfl) (by decide) rfl (fun ls hl => ?_)
            refine lv_goto (tgt := 8) hx hb dX10_goneIn_136 (by decide) ?_
            exact ih8_7 n_51 n_54 n_55 (by omega) (by omega) (by omega) (by omega) (fun h0 h1 => by
              obtain ⟨q1, q2⟩ := hL8_7_4 h0 h1
              have e9 : n_55.toNatClampNeg = l_6.toNatClampNeg + 1 := by rw [i_ix tn_55, i_ix (rfl : l_6.toInt = l_6.toInt)]; omega
              rw [e9, sumM, ← en_52]
              omega) (by omega) _ _ _ hP hD hS (lv_sub hl [0, 1, 2, 6, 7, 8] rfl)
  have k_56 : (0 : Int32).toInt = 0 := by decide
  have k_57 : (0 : Int32).toInt = 0 := by decide
  exact L8_7 8589934592 mi 0 0 (by omega) (by omega) (by omega) (by omega) (fun _ _ => ⟨rfl, by omega⟩) (by omega) _ _ _ hP hD hS (lv_sub hl [0, 1, 2, 3, 4, 5] rfl)
set_option maxHeartbeats 16000000 in
set_option maxRecDepth 100000 in
theorem c_X10_bands (l : Launch) (D : va_G) (cy : Nat → ClassId) (hm : Nat → Nat) (v_taped v_walkers v_loads v_pieces v_changeCosts v_planned v_isMarch v_clauseMany v_place v_end v_bad v_clauses v_codes v_open v_stacked v_isOver v_isBehind v_atW v_atL v_atT v_atH v_atM v_atI v_atQ v_packing v_packed v_goPace v_goMinutes v_spentAt v_ranChanges : Int32) (f_m_tape f_m_knee f_m_weight f_m_isLame f_m_loadWeight f_m_owner f_m_food f_m_miles f_m_slope f_m_clauseLetter f_m_sumFrom f_m_codeFrom f_m_codeTo f_m_code f_m_codeArg f_m_newLetter f_m_newSum f_m_newFrom f_m_newTo f_m_newCode f_m_newArg f_m_stack f_m_worth f_m_isRefused f_m_least f_m_packPounds f_m_packOwner f_m_room f_m_givenTo f_m_canBe f_m_setPounds f_m_plainTime f_m_muleTime f_m_planTo f_m_march f_m_tired f_m_ranMinutes f_m_tiredAhead f_m_isReached f_m_toEnd f_m_upTo f_m_upNext f_m_byChanges f_m_bandPaces : Nat → Int32) (sz : Nat) (a1 : Int32) (b1 : Int32) (what : Int32) (hb_v_walkers : 0 ≤ v_walkers.toInt ∧ v_walkers.toInt ≤ 6) (hb_v_pieces : 0 ≤ v_pieces.toInt ∧ v_pieces.toInt ≤ 10) (hb_v_clauseMany : 0 ≤ v_clauseMany.toInt ∧ v_clauseMany.toInt ≤ 14) (hb_v_atW : 0 ≤ v_atW.toInt ∧ v_atW.toInt ≤ 5) (hr_m_weight : rg (0) 250 f_m_weight) (hr_m_isLame : rg (0) 1 f_m_isLame) (hr_m_miles : rg (0) 20 f_m_miles) (hr_m_isRefused : rg (0) 1 f_m_isRefused) (hwf : wfC v_clauseMany f_m_sumFrom f_m_codeFrom f_m_codeTo f_m_code) : gMi l yX10_bands cX10_bands 6 .int 7 [.ref (hm 0), .int a1, .int b1, .int what] D cy (wMD cy hm v_taped v_walkers v_loads v_pieces v_changeCosts v_planned v_isMarch v_clauseMany v_place v_end v_bad v_clauses v_codes v_open v_stacked v_isOver v_isBehind v_atW v_atL v_atT v_atH v_atM v_atI v_atQ v_packing v_packed v_goPace v_goMinutes v_spentAt v_ranChanges f_m_tape f_m_knee f_m_weight f_m_isLame f_m_loadWeight f_m_owner f_m_food f_m_miles f_m_slope f_m_clauseLetter f_m_sumFrom f_m_codeFrom f_m_codeTo f_m_code f_m_codeArg f_m_newLetter f_m_newSum f_m_newFrom f_m_newTo f_m_newCode f_m_newArg f_m_stack f_m_worth f_m_isRefused f_m_least f_m_packPounds f_m_packOwner f_m_room f_m_givenTo f_m_canBe f_m_setPounds f_m_plainTime f_m_muleTime f_m_planTo f_m_march f_m_tired f_m_ranMinutes f_m_tiredAhead f_m_isReached f_m_toEnd f_m_upTo f_m_upNext f_m_byChanges f_m_bandPaces) NT sz (fun (r : Int32) (u : Int32 × Int32 × Int32 × Int32 × Int32 × Int32 × Int32 × (Nat → Int32) × (Nat → Int32) × (Nat → Int32)) => (0 ≤ (u.1).toInt ∧ (u.1).toInt ≤ 5) ∧ (rg (0) 1 (u.2.2.2.2.2.2.2.2.1))) (fun u => wMD cy hm v_taped v_walkers v_loads v_pieces v_changeCosts v_planned v_isMarch v_clauseMany v_place v_end v_bad v_clauses v_codes v_open v_stacked v_isOver v_isBehind (u.1) (u.2.1) (u.2.2.1) (u.2.2.2.1) (u.2.2.2.2.1) (u.2.2.2.2.2.1) (u.2.2.2.2.2.2.1) v_packing v_packed v_goPace v_goMinutes v_spentAt v_ranChanges f_m_tape f_m_knee f_m_weight f_m_isLame f_m_loadWeight f_m_owner f_m_food f_m_miles f_m_slope f_m_clauseLetter f_m_sumFrom f_m_codeFrom f_m_codeTo f_m_code f_m_codeArg f_m_newLetter f_m_newSum f_m_newFrom f_m_newTo f_m_newCode f_m_newArg f_m_stack (u.2.2.2.2.2.2.2.1) (u.2.2.2.2.2.2.2.2.1) f_m_least f_m_packPounds f_m_packOwner f_m_room f_m_givenTo f_m_canBe f_m_setPounds f_m_plainTime f_m_muleTime f_m_planTo f_m_march f_m_tired f_m_ranMinutes f_m_tiredAhead f_m_isReached f_m_toEnd f_m_upTo f_m_upNext f_m_byChanges (u.2.2.2.2.2.2.2.2.2)) := by
  refine gMi_in (by decide) (Nat.le_of_ble_eq_true rfl) ?_
  intro p e s m args below meth c A ls Q hx hb hml hts hown hsz hP hK hD hN hAe hA hS hl hret
  subst hsz
  have hl : lv_has ls 6 [(0, .ref (hm 0)), (1, .int a1), (2, .int b1), (3, .int what)] := hl
  have hrt := fun (r : Int32) (v_atW' : Int32) (v_atL' : Int32) (v_atT' : Int32) (v_atH' : Int32) (v_atM' : Int32) (v_atI' : Int32) (v_atQ' : Int32) (f_m_worth' : Nat → Int32) (f_m_isRefused' : Nat → Int32) (f_m_bandPaces' : Nat → Int32) (hp : (0 ≤ v_atW'.toInt ∧ v_atW'.toInt ≤ 5) ∧ (rg (0) 1 f_m_isRefused')) {H : Heap} {locs : List Loc} {pc : Nat} {ls : Array Slot} => hret r (v_atW', v_atL', v_atT', v_atH', v_atM', v_atI', v_atQ', f_m_worth', f_m_isRefused', f_m_bandPaces') (H := H) (locs := locs) (pc := pc) (ls := ls) hp
  clear hret
  refine lv_aload_n hx hb dX10_bands_0 rfl (lv_at hl 0 rfl) ?_
  refine gt_MD_MD_pieces hx hb hts hown hK hP lwd_265 dX10_bands_1 ?_
  refine lv_if_eq (tgt := 51) hx hb dX10_bands_4 (by decide) (fun c_1 => ?_) (fun c_1 => ?_)
  · have gc_1 : v_pieces.toInt = 0 := i_eq (rfl : v_pieces.toInt = v_pieces.toInt) (by decide : (0 : Int32).toInt = 0) c_1
    refine lv_iconst (v := (-1)) hx hb dX10_bands_51 (by decide) ?_
    have k_2 : ((-1) : Int32).toInt = (-1) := by decide
    exact hrt (-1) v_atW v_atL v_atT v_atH v_atM v_atI v_atQ f_m_worth f_m_isRefused f_m_bandPaces ⟨(by omega), hr_m_isRefused⟩ hP hD hS rfl dX10_bands_52
  · have gc_1 : v_pieces.toInt ≠ 0 := i_ne (rfl : v_pieces.toInt = v_pieces.toInt) (by decide : (0 : Int32).toInt = 0) c_1
    refine lv_iload_n hx hb dX10_bands_7 rfl (lv_at hl 1 rfl) ?_
    refine lv_i2l (v := a1.toInt64) hx hb dX10_bands_8 rfl ?_
    have hl_3 : a1.toInt64.toInt = a1.toInt := i_l (rfl : a1.toInt = a1.toInt)
    refine lv_lconst (v := 1) hx hb dX10_bands_9 (by decide) ?_
    refine lv_aload_n hx hb dX10_bands_10 rfl (lv_at hl 0 rfl) ?_
    refine xi hD hS hA (xV (As := []) (rest := [.long 1, .long a1.toInt64]) hx hb hml hown hts hK hP hD hS hA NT_ok hN hAe hl.1 ⟨Nat.le_refl _, Nat.le_refl _⟩ 0 rfl rfl rfl (c_X10_everybody l D cy hm v_taped v_walkers v_loads v_pieces v_changeCosts v_planned v_isMarch v_clauseMany v_place v_end v_bad v_clauses v_codes v_open v_stacked v_isOver v_isBehind v_atW v_atL v_atT v_atH v_atM v_atI v_atQ v_packing v_packed v_goPace v_goMinutes v_spentAt v_ranChanges f_m_tape f_m_knee f_m_weight f_m_isLame f_m_loadWeight f_m_owner f_m_food f_m_miles f_m_slope f_m_clauseLetter f_m_sumFrom f_m_codeFrom f_m_codeTo f_m_code f_m_codeArg f_m_newLetter f_m_newSum f_m_newFrom f_m_newTo f_m_newCode f_m_newArg f_m_stack f_m_worth f_m_isRefused f_m_least f_m_packPounds f_m_packOwner f_m_room f_m_givenTo f_m_canBe f_m_setPounds f_m_plainTime f_m_muleTime f_m_planTo f_m_march f_m_tired f_m_ranMinutes f_m_tiredAhead f_m_isReached f_m_toEnd f_m_upTo f_m_upNext f_m_byChanges f_m_bandPaces s.heap.size (by omega)) (gi_V lwd_736 lwd_737 lwd_738 lwd_5 lwd_739) ⟨rfl, hd_X10_everybody⟩ ⟨Nat.le_of_ble_eq_true rfl, Nat.le_of_ble_eq_true rfl⟩ rfl (Nat.le_of_ble_eq_true rfl) dX10_bands_11) (fun r_5 u_4 H locs hw hP hD hS => ?_)
    try dsimp only at hw hP hD
    clear hw
    refine lv_i2l (v := r_5.toInt64) hx hb dX10_bands_14 rfl ?_
    have hl_6 : r_5.toInt64.toInt = r_5.toInt := i_l (rfl : r_5.toInt = r_5.toInt)
    have k_7 : (1 : Int64).toInt = 1 := by decide
    refine xi hD hS hA (xS (As := [.long a1.toInt64, .long 1, .long r_5.toInt64]) (rest := []) hx hb hml hown hts hK hP hD hS hA NT_ok hN hAe hl.1 ⟨Nat.le_refl _, Nat.le_refl _⟩ (c_X10_lies l D cy hm v_taped v_walkers v_loads v_pieces v_changeCosts v_planned v_isMarch v_clauseMany v_place v_end v_bad v_clauses v_codes v_open v_stacked v_isOver v_isBehind v_atW v_atL v_atT v_atH v_atM v_atI v_atQ v_packing v_packed v_goPace v_goMinutes v_spentAt v_ranChanges f_m_tape f_m_knee f_m_weight f_m_isLame f_m_loadWeight f_m_owner f_m_food f_m_miles f_m_slope f_m_clauseLetter f_m_sumFrom f_m_codeFrom f_m_codeTo f_m_code f_m_codeArg f_m_newLetter f_m_newSum f_m_newFrom f_m_newTo f_m_newCode f_m_newArg f_m_stack f_m_worth f_m_isRefused f_m_least f_m_packPounds f_m_packOwner f_m_room f_m_givenTo f_m_canBe f_m_setPounds f_m_plainTime f_m_muleTime f_m_planTo f_m_march f_m_tired f_m_ranMinutes f_m_tiredAhead f_m_isReached f_m_toEnd f_m_upTo f_m_upNext f_m_byChanges f_m_bandPaces H.size a1.toInt64 1 r_5.toInt64) (gi_S lwd_226 lwd_227 lwd_5 lwd_228) hd_X10_lies ⟨Nat.le_of_ble_eq_true rfl, Nat.le_of_ble_eq_true rfl⟩ rfl (Nat.le_of_ble_eq_true rfl) dX10_bands_15) (fun r_9 u_8 H locs hw hP hD hS => ?_)
    try dsimp only at hw hP hD
    obtain ⟨p_10, p_11⟩ := hw
    refine lv_if_eq (tgt := 51) hx hb dX10_bands_18 (by decide) (fun c_12 => ?_) (fun c_12 => ?_)
    · have gc_12 : r_9.toInt = 0 := i_eq (rfl : r_9.toInt = r_9.toInt) (by decide : (0 : Int32).toInt = 0) c_12
      refine lv_iconst (v := (-1)) hx hb dX10_bands_51 (by decide) ?_
      have k_13 : ((-1) : Int32).toInt = (-1) := by decide
      exact hrt (-1) v_atW v_atL v_atT v_atH v_atM v_atI v_atQ f_m_worth f_m_isRefused f_m_bandPaces ⟨(by omega), hr_m_isRefused⟩ hP hD hS rfl dX10_bands_52
    · have gc_12 : r_9.toInt ≠ 0 := i_ne (rfl : r_9.toInt = r_9.toInt) (by decide : (0 : Int32).toInt = 0) c_12
      refine lv_iload_n hx hb dX10_bands_21 rfl (lv_at hl 2 rfl) ?_
      refine lv_i2l (v := b1.toInt64) hx hb dX10_bands_22 rfl ?_
      have hl_14 : b1.toInt64.toInt = b1.toInt := i_l (rfl : b1.toInt = b1.toInt)
      refine lv_lconst (v := 1) hx hb dX10_bands_23 (by decide) ?_
      refine lv_aload_n hx hb dX10_bands_24 rfl (lv_at hl 0 rfl) ?_
      refine xi hD hS hA (xV (As := []) (rest := [.long 1, .long b1.toInt64]) hx hb hml hown hts hK hP hD hS hA NT_ok hN hAe hl.1 ⟨Nat.le_refl _, Nat.le_refl _⟩ 0 rfl rfl rfl (c_X10_everybody l D cy hm v_taped v_walkers v_loads v_pieces v_changeCosts v_planned v_isMarch v_clauseMany v_place v_end v_bad v_clauses v_codes v_open v_stacked v_isOver v_isBehind v_atW v_atL v_atT v_atH v_atM v_atI v_atQ v_packing v_packed v_goPace v_goMinutes v_spentAt v_ranChanges f_m_tape f_m_knee f_m_weight f_m_isLame f_m_loadWeight f_m_owner f_m_food f_m_miles f_m_slope f_m_clauseLetter f_m_sumFrom f_m_codeFrom f_m_codeTo f_m_code f_m_codeArg f_m_newLetter f_m_newSum f_m_newFrom f_m_newTo f_m_newCode f_m_newArg f_m_stack f_m_worth f_m_isRefused f_m_least f_m_packPounds f_m_packOwner f_m_room f_m_givenTo f_m_canBe f_m_setPounds f_m_plainTime f_m_muleTime f_m_planTo f_m_march f_m_tired f_m_ranMinutes f_m_tiredAhead f_m_isReached f_m_toEnd f_m_upTo f_m_upNext f_m_byChanges f_m_bandPaces H.size (by omega)) (gi_V lwd_736 lwd_737 lwd_738 lwd_5 lwd_739) ⟨rfl, hd_X10_everybody⟩ ⟨Nat.le_of_ble_eq_true rfl, Nat.le_of_ble_eq_true rfl⟩ rfl (Nat.le_of_ble_eq_true rfl) dX10_bands_25) (fun r_16 u_15 H locs hw hP hD hS => ?_)
      try dsimp only at hw hP hD
      clear hw
      refine lv_i2l (v := r_16.toInt64) hx hb dX10_bands_28 rfl ?_
      have hl_17 : r_16.toInt64.toInt = r_16.toInt := i_l (rfl : r_16.toInt = r_16.toInt)
      refine xi hD hS hA (xS (As := [.long b1.toInt64, .long 1, .long r_16.toInt64]) (rest := []) hx hb hml hown hts hK hP hD hS hA NT_ok hN hAe hl.1 ⟨Nat.le_refl _, Nat.le_refl _⟩ (c_X10_lies l D cy hm v_taped v_walkers v_loads v_pieces v_changeCosts v_planned v_isMarch v_clauseMany v_place v_end v_bad v_clauses v_codes v_open v_stacked v_isOver v_isBehind v_atW v_atL v_atT v_atH v_atM v_atI v_atQ v_packing v_packed v_goPace v_goMinutes v_spentAt v_ranChanges f_m_tape f_m_knee f_m_weight f_m_isLame f_m_loadWeight f_m_owner f_m_food f_m_miles f_m_slope f_m_clauseLetter f_m_sumFrom f_m_codeFrom f_m_codeTo f_m_code f_m_codeArg f_m_newLetter f_m_newSum f_m_newFrom f_m_newTo f_m_newCode f_m_newArg f_m_stack f_m_worth f_m_isRefused f_m_least f_m_packPounds f_m_packOwner f_m_room f_m_givenTo f_m_canBe f_m_setPounds f_m_plainTime f_m_muleTime f_m_planTo f_m_march f_m_tired f_m_ranMinutes f_m_tiredAhead f_m_isReached f_m_toEnd f_m_upTo f_m_upNext f_m_byChanges f_m_bandPaces H.size b1.toInt64 1 r_16.toInt64) (gi_S lwd_226 lwd_227 lwd_5 lwd_228) hd_X10_lies ⟨Nat.le_of_ble_eq_true rfl, Nat.le_of_ble_eq_true rfl⟩ rfl (Nat.le_of_ble_eq_true rfl) dX10_bands_29) (fun r_19 u_18 H locs hw hP hD hS => ?_)
      try dsimp only at hw hP hD
      obtain ⟨p_20, p_21⟩ := hw
      refine lv_if_eq (tgt := 51) hx hb dX10_bands_32 (by decide) (fun c_22 => ?_) (fun c_22 => ?_)
      · have gc_22 : r_19.toInt = 0 := i_eq (rfl : r_19.toInt = r_19.toInt) (by decide : (0 : Int32).toInt = 0) c_22
        refine lv_iconst (v := (-1)) hx hb dX10_bands_51 (by decide) ?_
        have k_23 : ((-1) : Int32).toInt = (-1) := by decide
        exact hrt (-1) v_atW v_atL v_atT v_atH v_atM v_atI v_atQ f_m_worth f_m_isRefused f_m_bandPaces ⟨(by omega), hr_m_isRefused⟩ hP hD hS rfl dX10_bands_52
      · have gc_22 : r_19.toInt ≠ 0 := i_ne (rfl : r_19.toInt = r_19.toInt) (by decide : (0 : Int32).toInt = 0) c_22
        refine lv_iload_n hx hb dX10_bands_35 rfl (lv_at hl 1 rfl) ?_
        refine lv_iload_n hx hb dX10_bands_36 rfl (lv_at hl 2 rfl) ?_
        refine lv_iand hx hb dX10_bands_37 ?_
        refine lv_topi (fun n_24 en_24 => ?_)
        refine lv_if_ne (tgt := 51) hx hb dX10_bands_38 (by decide) (fun c_25 => ?_) (fun c_25 => ?_)
        · have gc_25 : n_24.toInt ≠ 0 := i_ne (rfl : n_24.toInt = n_24.toInt) (by decide : (0 : Int32).toInt = 0) c_25
          refine lv_iconst (v := (-1)) hx hb dX10_bands_51 (by decide) ?_
          have k_26 : ((-1) : Int32).toInt = (-1) := by decide
          exact hrt (-1) v_atW v_atL v_atT v_atH v_atM v_atI v_atQ f_m_worth f_m_isRefused f_m_bandPaces ⟨(by omega), hr_m_isRefused⟩ hP hD hS rfl dX10_bands_52
        · have gc_25 : n_24.toInt = 0 := i_eq (rfl : n_24.toInt = n_24.toInt) (by decide : (0 : Int32).toInt = 0) c_25
          refine lv_iload_n hx hb dX10_bands_41 rfl (lv_at hl 3 rfl) ?_
          refine lv_i2l (v := what.toInt64) hx hb dX10_bands_42 rfl ?_
          have hl_27 : what.toInt64.toInt = what.toInt := i_l (rfl : what.toInt = what.toInt)
          refine lv_lconst (v := 0) hx hb dX10_bands_43 (by decide) ?_
          refine lv_lconst (v := 1) hx hb dX10_bands_44 (by decide) ?_
          have k_28 : (0 : Int64).toInt = 0 := by decide
          refine xi hD hS hA (xS (As := [.long what.toInt64, .long 0, .long 1]) (rest := []) hx hb hml hown hts hK hP hD hS hA NT_ok hN hAe hl.1 ⟨Nat.le_refl _, Nat.le_refl _⟩ (c_X10_lies l D cy hm v_taped v_walkers v_loads v_pieces v_changeCosts v_planned v_isMarch v_clauseMany v_place v_end v_bad v_clauses v_codes v_open v_stacked v_isOver v_isBehind v_atW v_atL v_atT v_atH v_atM v_atI v_atQ v_packing v_packed v_goPace v_goMinutes v_spentAt v_ranChanges f_m_tape f_m_knee f_m_weight f_m_isLame f_m_loadWeight f_m_owner f_m_food f_m_miles f_m_slope f_m_clauseLetter f_m_sumFrom f_m_codeFrom f_m_codeTo f_m_code f_m_codeArg f_m_newLetter f_m_newSum f_m_newFrom f_m_newTo f_m_newCode f_m_newArg f_m_stack f_m_worth f_m_isRefused f_m_least f_m_packPounds f_m_packOwner f_m_room f_m_givenTo f_m_canBe f_m_setPounds f_m_plainTime f_m_muleTime f_m_planTo f_m_march f_m_tired f_m_ranMinutes f_m_tiredAhead f_m_isReached f_m_toEnd f_m_upTo f_m_upNext f_m_byChanges f_m_bandPaces H.size what.toInt64 0 1) (gi_S lwd_226 lwd_227 lwd_5 lwd_228) hd_X10_lies ⟨Nat.le_of_ble_eq_true rfl, Nat.le_of_ble_eq_true rfl⟩ rfl (Nat.le_of_ble_eq_true rfl) dX10_bands_45) (fun r_30 u_29 H locs hw hP hD hS => ?_)
          try dsimp only at hw hP hD
          obtain ⟨p_31, p_32⟩ := hw
          refine lv_if_ne (tgt := 53) hx hb dX10_bands_48 (by decide) (fun c_33 => ?_) (fun c_33 => ?_)
          · have gc_33 : r_30.toInt ≠ 0 := i_ne (rfl : r_30.toInt = r_30.toInt) (by decide : (0 : Int32).toInt = 0) c_33
            refine lv_iconst (v := 0) hx hb dX10_bands_53 (by decide) ?_
            refine lv_istore (lv' := [(4, .int 0), (0, .ref (hm 0)), (1, .int a1), (2, .int b1), (3, .int what)]) hx hb dX10_bands_54 hl (by decide) rfl (fun ls hl => ?_)
            refine lv_iconst (v := 0) hx hb dX10_bands_56 (by decide) ?_
            refine lv_istore (lv' := [(5, .int 0), (4, .int 0), (0, .ref (hm 0)), (1, .int a1), (2, .int b1), (3, .int what)]) hx hb dX10_bands_57 hl (by decide) rfl (fun ls hl => ?_)
            have L59_58 : ∀ (n : Nat) (f_46 : Nat → Int32) (f_47 : Nat → Int32) (f_48 : Nat → Int32) (l_49 : Int32) (l_50 : Int32) (w_51 : Int32) (w_52 : Int32) (w_53 : Int32) (w_54 : Int32) (w_55 : Int32) (w_56 : Int32) (w_57 : Int32), (rg (0) 1 f_47) → (0 ≤ l_49.toInt ∧ l_49.toInt ≤ 2000) → (0 ≤ l_50.toInt ∧ l_50.toInt ≤ 10) → (0 ≤ w_57.toInt ∧ w_57.toInt ≤ 5) → (l_49.toInt ≤ 200 * l_50.toInt ∧ l_50.toInt ≤ v_pieces.toInt) → (bpOK f_46 0 l_50.toNatClampNeg) → (bpOK f_46 10 l_50.toNatClampNeg) → (l_49.toInt = 10 * sumM f_m_miles l_50.toNatClampNeg) → 11 - l_50.toInt < n → ∀ (H : Heap) (locs : List Loc) (ls : Array Slot), va_P D vwCl (wMD cy hm v_taped v_walkers v_loads v_pieces v_changeCosts v_planned v_isMarch v_clauseMany v_place v_end v_bad v_clauses v_codes v_open v_stacked v_isOver v_isBehind w_57 w_53 w_56 w_51 w_54 w_52 w_55 v_packing v_packed v_goPace v_goMinutes v_spentAt v_ranChanges f_m_tape f_m_knee f_m_weight f_m_isLame f_m_loadWeight f_m_owner f_m_food f_m_miles f_m_slope f_m_clauseLetter f_m_sumFrom f_m_codeFrom f_m_codeTo f_m_code f_m_codeArg f_m_newLetter f_m_newSum f_m_newFrom f_m_newTo f_m_newCode f_m_newArg f_m_stack f_48 f_47 f_m_least f_m_packPounds f_m_packOwner f_m_room f_m_givenTo f_m_canBe f_m_setPounds f_m_plainTime f_m_muleTime f_m_planTo f_m_march f_m_tired f_m_ranMinutes f_m_tiredAhead f_m_isReached f_m_toEnd f_m_upTo f_m_upNext f_m_byChanges f_46) H → va_D A (wMD cy hm v_taped v_walkers v_loads v_pieces v_changeCosts v_planned v_isMarch v_clauseMany v_place v_end v_bad v_clauses v_codes v_open v_stacked v_isOver v_isBehind w_57 w_53 w_56 w_51 w_54 w_52 w_55 v_packing v_packed v_goPace v_goMinutes v_spentAt v_ranChanges f_m_tape f_m_knee f_m_weight f_m_isLame f_m_loadWeight f_m_owner f_m_food f_m_miles f_m_slope f_m_clauseLetter f_m_sumFrom f_m_codeFrom f_m_codeTo f_m_code f_m_codeArg f_m_newLetter f_m_newSum f_m_newFrom f_m_newTo f_m_newCode f_m_newArg f_m_stack f_48 f_47 f_m_least f_m_packPounds f_m_packOwner f_m_room f_m_givenTo f_m_canBe f_m_setPounds f_m_plainTime f_m_muleTime f_m_planTo f_m_march f_m_tired f_m_ranMinutes f_m_tiredAhead f_m_isReached f_m_toEnd f_m_upTo f_m_upNext f_m_byChanges f_46) → va_S A s.heap H locs → lv_has ls 6 [(5, .int l_50), (4, .int l_49), (0, .ref (hm 0)), (1, .int a1), (2, .int b1), (3, .int what)] → W p l e (gRm 7) s m args below meth c H locs 0 0 Q (F0 m 59 ls []) := by
              intro n
              induction n with
              | zero => intro f_46 f_47 f_48 l_49 l_50 w_51 w_52 w_53 w_54 w_55 w_56 w_57 hL59_58_0 hL59_58_1 hL59_58_2 hL59_58_3 hL59_58_4 hL59_58_5 hL59_58_6 hL59_58_7 hm; exact absurd hm (by omega)
              | succ n ih59_58 =>
                intro f_46 f_47 f_48 l_49 l_50 w_51 w_52 w_53 w_54 w_55 w_56 w_57 hL59_58_0 hL59_58_1 hL59_58_2 hL59_58_3 hL59_58_4 hL59_58_5 hL59_58_6 hL59_58_7 hmL59_58 H locs ls hP hD hS hl
                refine lv_iload hx hb dX10_bands_59 (lv_at hl 0 rfl) ?_
                refine lv_aload_n hx hb dX10_bands_61 rfl (lv_at hl 2 rfl) ?_
                refine gt_MD_MD_pieces hx hb hts hown hK hP lwd_265 dX10_bands_62 ?_
                refine lv_icmp_ge (tgt := 148) hx hb dX10_bands_65 (by decide) (fun c_59 => ?_) (fun c_59 => ?_)
                · have gc_59 : v_pieces.toInt ≤ l_50.toInt := i_le (rfl : v_pieces.toInt = v_pieces.toInt) (rfl : l_50.toInt = l_50.toInt) c_59
                  have hn59 : v_pieces.toNatClampNeg = l_50.toNatClampNeg := by rw [i_ix (rfl : v_pieces.toInt = v_pieces.toInt), i_ix (rfl : l_50.toInt = l_50.toInt)]; omega
                  skip
                  refine lv_iconst (v := 0) hx hb dX10_bands_148 (by decide) ?_
                  refine lv_istore (lv' := [(5, .int 0), (4, .int l_49), (0, .ref (hm 0)), (1, .int a1), (2, .int b1), (3, .int what)]) hx hb dX10_bands_149 hl (by decide) rfl (fun ls hl => ?_)
                  have L151_62 : ∀ (n : Nat) (l_61 : Int32), (0 ≤ l_61.toInt ∧ l_61.toInt ≤ 121000) → 121001 - l_61.toInt < n → ∀ (H : Heap) (locs : List Loc) (ls : Array Slot), va_P D vwCl (wMD cy hm v_taped v_walkers v_loads v_pieces v_changeCosts v_planned v_isMarch v_clauseMany v_place v_end v_bad v_clauses v_codes v_open v_stacked v_isOver v_isBehind w_57 w_53 w_56 w_51 w_54 w_52 w_55 v_packing v_packed v_goPace v_goMinutes v_spentAt v_ranChanges f_m_tape f_m_knee f_m_weight f_m_isLame f_m_loadWeight f_m_owner f_m_food f_m_miles f_m_slope f_m_clauseLetter f_m_sumFrom f_m_codeFrom f_m_codeTo f_m_code f_m_codeArg f_m_newLetter f_m_newSum f_m_newFrom f_m_newTo f_m_newCode f_m_newArg f_m_stack f_48 f_47 f_m_least f_m_packPounds f_m_packOwner f_m_room f_m_givenTo f_m_canBe f_m_setPounds f_m_plainTime f_m_muleTime f_m_planTo f_m_march f_m_tired f_m_ranMinutes f_m_tiredAhead f_m_isReached f_m_toEnd f_m_upTo f_m_upNext f_m_byChanges f_46) H → va_D A (wMD cy hm v_taped v_walkers v_loads v_pieces v_changeCosts v_planned v_isMarch v_clauseMany v_place v_end v_bad v_clauses v_codes v_open v_stacked v_isOver v_isBehind w_57 w_53 w_56 w_51 w_54 w_52 w_55 v_packing v_packed v_goPace v_goMinutes v_spentAt v_ranChanges f_m_tape f_m_knee f_m_weight f_m_isLame f_m_loadWeight f_m_owner f_m_food f_m_miles f_m_slope f_m_clauseLetter f_m_sumFrom f_m_codeFrom f_m_codeTo f_m_code f_m_codeArg f_m_newLetter f_m_newSum f_m_newFrom f_m_newTo f_m_newCode f_m_newArg f_m_stack f_48 f_47 f_m_least f_m_packPounds f_m_packOwner f_m_room f_m_givenTo f_m_canBe f_m_setPounds f_m_plainTime f_m_muleTime f_m_planTo f_m_march f_m_tired f_m_ranMinutes f_m_tiredAhead f_m_isReached f_m_toEnd f_m_upTo f_m_upNext f_m_byChanges f_46) → va_S A s.heap H locs → lv_has ls 6 [(5, .int l_61), (4, .int l_49), (0, .ref (hm 0)), (1, .int a1), (2, .int b1), (3, .int what)] → W p l e (gRm 7) s m args below meth c H locs 0 0 Q (F0 m 151 ls []) := by
                    intro n
                    induction n with
                    | zero => intro l_61 hL151_62_0 hm; exact absurd hm (by omega)
                    | succ n ih151_62 =>
                      intro l_61 hL151_62_0 hmL151_62 H locs ls hP hD hS hl
                      refine lv_aload_n hx hb dX10_bands_151 rfl (lv_at hl 2 rfl) ?_
                      refine lv_iconst (v := 0) hx hb dX10_bands_152 (by decide) ?_
                      refine lv_iload hx hb dX10_bands_153 (lv_at hl 0 rfl) ?_
                      have k_63 : (0 : Int32).toInt = 0 := by decide
                      refine xi hD hS hA (xV (As := [.int 0, .int l_61]) (rest := []) hx hb hml hown hts hK hP hD hS hA NT_ok hN hAe hl.1 ⟨Nat.le_refl _, Nat.le_refl _⟩ 0 rfl rfl rfl (c_X10_goneIn l D cy hm v_taped v_walkers v_loads v_pieces v_changeCosts v_planned v_isMarch v_clauseMany v_place v_end v_bad v_clauses v_codes v_open v_stacked v_isOver v_isBehind w_57 w_53 w_56 w_51 w_54 w_52 w_55 v_packing v_packed v_goPace v_goMinutes v_spentAt v_ranChanges f_m_tape f_m_knee f_m_weight f_m_isLame f_m_loadWeight f_m_owner f_m_food f_m_miles f_m_slope f_m_clauseLetter f_m_sumFrom f_m_codeFrom f_m_codeTo f_m_code f_m_codeArg f_m_newLetter f_m_newSum f_m_newFrom f_m_newTo f_m_newCode f_m_newArg f_m_stack f_48 f_47 f_m_least f_m_packPounds f_m_packOwner f_m_room f_m_givenTo f_m_canBe f_m_setPounds f_m_plainTime f_m_muleTime f_m_planTo f_m_march f_m_tired f_m_ranMinutes f_m_tiredAhead f_m_isReached f_m_toEnd f_m_upTo f_m_upNext f_m_byChanges f_46 H.size 0 l_61 (by omega) hr_m_miles (by omega) (by omega) (by rw [show 10 * (0 : Int32).toNatClampNeg = 0 from by decide, show v_pieces.toNatClampNeg = l_50.toNatClampNeg from hn59]; exact hL59_58_5)) (gi_V lwd_1206 lwd_1207 lwd_1208 lwd_5 lwd_1209) ⟨rfl, hd_X10_goneIn⟩ ⟨Nat.le_of_ble_eq_true rfl, Nat.le_of_ble_eq_true rfl⟩ rfl (Nat.le_of_ble_eq_true rfl) dX10_bands_155) (fun r_65 u_64 H locs hw hP hD hS => ?_)
                      try dsimp only at hw hP hD
                      obtain ⟨p_66, p_67⟩ := hw
                      have hA9 : l_61.toInt < 12100 * v_pieces.toInt ∨ r_65.toInt = l_49.toInt := by
                        by_cases q : 12100 * v_pieces.toInt ≤ l_61.toInt
                        · right; rw [hL59_58_7, p_67 (by decide) q, hn59]
                        · left; omega
                      refine lv_aload_n hx hb dX10_bands_158 rfl (lv_at hl 2 rfl) ?_
                      refine lv_iconst (v := 1) hx hb dX10_bands_159 (by decide) ?_
                      refine lv_iload hx hb dX10_bands_160 (lv_at hl 0 rfl) ?_
                      have k_68 : (1 : Int32).toInt = 1 := by decide
                      refine xi hD hS hA (xV (As := [.int 1, .int l_61]) (rest := [.int r_65]) hx hb hml hown hts hK hP hD hS hA NT_ok hN hAe hl.1 ⟨Nat.le_refl _, Nat.le_refl _⟩ 0 rfl rfl rfl (c_X10_goneIn l D cy hm v_taped v_walkers v_loads v_pieces v_changeCosts v_planned v_isMarch v_clauseMany v_place v_end v_bad v_clauses v_codes v_open v_stacked v_isOver v_isBehind w_57 w_53 w_56 w_51 w_54 w_52 w_55 v_packing v_packed v_goPace v_goMinutes v_spentAt v_ranChanges f_m_tape f_m_knee f_m_weight f_m_isLame f_m_loadWeight f_m_owner f_m_food f_m_miles f_m_slope f_m_clauseLetter f_m_sumFrom f_m_codeFrom f_m_codeTo f_m_code f_m_codeArg f_m_newLetter f_m_newSum f_m_newFrom f_m_newTo f_m_newCode f_m_newArg f_m_stack f_48 f_47 f_m_least f_m_packPounds f_m_packOwner f_m_room f_m_givenTo f_m_canBe f_m_setPounds f_m_plainTime f_m_muleTime f_m_planTo f_m_march f_m_tired f_m_ranMinutes f_m_tiredAhead f_m_isReached f_m_toEnd f_m_upTo f_m_upNext f_m_byChanges f_46 H.size 1 l_61 (by omega) hr_m_miles (by omega) (by omega) (by rw [show 10 * (1 : Int32).toNatClampNeg = 10 from by decide, show v_pieces.toNatClampNeg = l_50.toNatClampNeg from hn59]; exact hL59_58_6)) (gi_V lwd_1206 lwd_1207 lwd_1208 lwd_5 lwd_1209) ⟨rfl, hd_X10_goneIn⟩ ⟨Nat.le_of_ble_eq_true rfl, Nat.le_of_ble_eq_true rfl⟩ rfl (Nat.le_of_ble_eq_true rfl) dX10_bands_162) (fun r_70 u_69 H locs hw hP hD hS => ?_)
                      try dsimp only at hw hP hD
                      obtain ⟨p_71, p_72⟩ := hw
                      refine lv_iadd hx hb dX10_bands_165 ?_
                      refine lv_topi (fun n_73 en_73 => ?_)
                      have tn_73 : n_73.toInt = r_65.toInt + r_70.toInt := i_add en_73 (rfl : r_65.toInt = r_65.toInt) (rfl : r_70.toInt = r_70.toInt) (by omega) (by omega)
                      refine lv_iload hx hb dX10_bands_166 (lv_at hl 1 rfl) ?_
                      refine lv_icmp_ge (tgt := 177) hx hb dX10_bands_168 (by decide) (fun c_74 => ?_) (fun c_74 => ?_)
                      · have gc_74 : l_49.toInt ≤ r_65.toInt + r_70.toInt := i_le (rfl : l_49.toInt = l_49.toInt) tn_73 c_74
                        refine lv_iload_n hx hb dX10_bands_177 rfl (lv_at hl 5 rfl) ?_
                        refine lv_if_ne (tgt := 186) hx hb dX10_bands_178 (by decide) (fun c_75 => ?_) (fun c_75 => ?_)
                        · have gc_75 : what.toInt ≠ 0 := i_ne (rfl : what.toInt = what.toInt) (by decide : (0 : Int32).toInt = 0) c_75
                          refine lv_aload_n hx hb dX10_bands_186 rfl (lv_at hl 2 rfl) ?_
                          refine lv_iconst (v := 0) hx hb dX10_bands_187 (by decide) ?_
                          refine lv_iload hx hb dX10_bands_188 (lv_at hl 0 rfl) ?_
                          refine xi hD hS hA (xV (As := [.int 0, .int l_61]) (rest := []) hx hb hml hown hts hK hP hD hS hA NT_ok hN hAe hl.1 ⟨Nat.le_refl _, Nat.le_refl _⟩ 0 rfl rfl rfl (c_X10_goneIn l D cy hm v_taped v_walkers v_loads v_pieces v_changeCosts v_planned v_isMarch v_clauseMany v_place v_end v_bad v_clauses v_codes v_open v_stacked v_isOver v_isBehind w_57 w_53 w_56 w_51 w_54 w_52 w_55 v_packing v_packed v_goPace v_goMinutes v_spentAt v_ranChanges f_m_tape f_m_knee f_m_weight f_m_isLame f_m_loadWeight f_m_owner f_m_food f_m_miles f_m_slope f_m_clauseLetter f_m_sumFrom f_m_codeFrom f_m_codeTo f_m_code f_m_codeArg f_m_newLetter f_m_newSum f_m_newFrom f_m_newTo f_m_newCode f_m_newArg f_m_stack f_48 f_47 f_m_least f_m_packPounds f_m_packOwner f_m_room f_m_givenTo f_m_canBe f_m_setPounds f_m_plainTime f_m_muleTime f_m_planTo f_m_march f_m_tired f_m_ranMinutes f_m_tiredAhead f_m_isReached f_m_toEnd f_m_upTo f_m_upNext f_m_byChanges f_46 H.size 0 l_61 (by omega) hr_m_miles (by omega) (by omega) (by rw [show 10 * (0 : Int32).toNatClampNeg = 0 from by decide, show v_pieces.toNatClampNeg = l_50.toNatClampNeg from hn59]; exact hL59_58_5)) (gi_V lwd_1206 lwd_1207 lwd_1208 lwd_5 lwd_1209) ⟨rfl, hd_X10_goneIn⟩ ⟨Nat.le_of_ble_eq_true rfl, Nat.le_of_ble_eq_true rfl⟩ rfl (Nat.le_of_ble_eq_true rfl) dX10_bands_190) (fun r_77 u_76 H locs hw hP hD hS => ?_)
                          try dsimp only at hw hP hD
                          obtain ⟨p_78, p_79⟩ := hw
                          exact hrt r_77 w_57 w_53 w_56 w_51 w_54 w_52 w_55 f_48 f_47 f_46 ⟨(by omega), hL59_58_0⟩ hP hD hS rfl dX10_bands_193
                        · have gc_75 : what.toInt = 0 := i_eq (rfl : what.toInt = what.toInt) (by decide : (0 : Int32).toInt = 0) c_75
                          refine lv_iload hx hb dX10_bands_181 (lv_at hl 0 rfl) ?_
                          refine lv_goto (tgt := 193) hx hb dX10_bands_183 (by decide) ?_
                          exact hrt l_61 w_57 w_53 w_56 w_51 w_54 w_52 w_55 f_48 f_47 f_46 ⟨(by omega), hL59_58_0⟩ hP hD hS rfl dX10_bands_193
                      · have gc_74 : r_65.toInt + r_70.toInt < l_49.toInt := i_nle (rfl : l_49.toInt = l_49.toInt) tn_73 c_74
                        obtain ⟨n_80, en_80⟩ : ∃ y : Int32, y = l_61 + 1 := ⟨_, rfl⟩
                        have tn_80 : n_80.toInt = l_61.toInt + 1 := i_add en_80 (rfl : l_61.toInt = l_61.toInt) (by decide : (1 : Int32).toInt = 1) (by omega) (by omega)
                        refine lv_iinc (v := n_80) (lv' := [(5, .int n_80), (4, .int l_49), (0, .ref (hm 0)), (1, .int a1), (2, .int b1), (3, .int what)]) hx hb dX10_bands_171 hl (k := 0) rfl (by rw [en_80]; rfl) (by decide) rfl (fun ls hl => ?_)
                        refine lv_goto (tgt := 151) hx hb dX10_bands_174 (by decide) ?_
                        exact ih151_62 n_80 (by omega) (by omega) _ _ _ hP hD hS (lv_sub hl [0, 1, 2, 3, 4, 5] rfl)
                  have k_81 : (0 : Int32).toInt = 0 := by decide
                  exact L151_62 8589934592 0 (by omega) (by omega) _ _ _ hP hD hS (lv_sub hl [0, 1, 2, 3, 4, 5] rfl)
                · have gc_59 : l_50.toInt < v_pieces.toInt := i_nle (rfl : v_pieces.toInt = v_pieces.toInt) (rfl : l_50.toInt = l_50.toInt) c_59
                  skip
                  refine lv_aload_n hx hb dX10_bands_68 rfl (lv_at hl 2 rfl) ?_
                  refine gt_MD_MD_bandPaces hx hb hts hown hK hP lwd_201 dX10_bands_69 ?_
                  refine lv_iload hx hb dX10_bands_72 (lv_at hl 0 rfl) ?_
                  refine lv_aload_n hx hb dX10_bands_74 rfl (lv_at hl 2 rfl) ?_
                  refine lv_iload_n hx hb dX10_bands_75 rfl (lv_at hl 3 rfl) ?_
                  refine lv_iload hx hb dX10_bands_76 (lv_at hl 0 rfl) ?_
                  refine lv_iconst (v := 0) hx hb dX10_bands_78 (by decide) ?_
                  have k_82 : (0 : Int32).toInt = 0 := by decide
                  refine xi hD hS hA (xV (As := [.int a1, .int l_50, .int 0]) (rest := [.int l_50, .ref (hm 44)]) hx hb hml hown hts hK hP hD hS hA NT_ok hN hAe hl.1 ⟨Nat.le_refl _, Nat.le_refl _⟩ 0 rfl rfl rfl (c_X10_setPace l D cy hm v_taped v_walkers v_loads v_pieces v_changeCosts v_planned v_isMarch v_clauseMany v_place v_end v_bad v_clauses v_codes v_open v_stacked v_isOver v_isBehind w_57 w_53 w_56 w_51 w_54 w_52 w_55 v_packing v_packed v_goPace v_goMinutes v_spentAt v_ranChanges f_m_tape f_m_knee f_m_weight f_m_isLame f_m_loadWeight f_m_owner f_m_food f_m_miles f_m_slope f_m_clauseLetter f_m_sumFrom f_m_codeFrom f_m_codeTo f_m_code f_m_codeArg f_m_newLetter f_m_newSum f_m_newFrom f_m_newTo f_m_newCode f_m_newArg f_m_stack f_48 f_47 f_m_least f_m_packPounds f_m_packOwner f_m_room f_m_givenTo f_m_canBe f_m_setPounds f_m_plainTime f_m_muleTime f_m_planTo f_m_march f_m_tired f_m_ranMinutes f_m_tiredAhead f_m_isReached f_m_toEnd f_m_upTo f_m_upNext f_m_byChanges f_46 H.size a1 l_50 0 (by omega) (by omega) (by omega) hr_m_weight hr_m_isLame hr_m_miles hL59_58_0 (by omega) (by omega) hwf) (gi_V lwd_1202 lwd_1203 lwd_1204 lwd_5 lwd_1205) ⟨rfl, hd_X10_setPace⟩ ⟨Nat.le_of_ble_eq_true rfl, Nat.le_of_ble_eq_true rfl⟩ rfl (Nat.le_of_ble_eq_true rfl) dX10_bands_79) (fun r_84 u_83 H locs hw hP hD hS => ?_)
                  obtain ⟨zatW_85, zatL_86, zatT_87, zatH_88, zatM_89, zatI_90, zatQ_91, zworth_92, zisRefused_93⟩ := u_83
                  try dsimp only at hw hP hD
                  obtain ⟨p_94, p_95, p_96⟩ := hw
                  refine as_m_bandPaces (x := r_84) hx hb hK hP hD hS (i_in (rfl : l_50.toInt = l_50.toInt) (by omega) (by omega)) dX10_bands_82 (fun f_97 ef_97 H locs hP hD hS => ?_)
                  refine lv_aload_n hx hb dX10_bands_83 rfl (lv_at hl 2 rfl) ?_
                  refine gt_MD_MD_bandPaces hx hb hts hown hK hP lwd_201 dX10_bands_84 ?_
                  refine lv_bipush (v := 10) hx hb dX10_bands_87 (by decide) ?_
                  refine lv_iload hx hb dX10_bands_89 (lv_at hl 0 rfl) ?_
                  refine lv_iadd hx hb dX10_bands_91 ?_
                  refine lv_topi (fun n_98 en_98 => ?_)
                  have tn_98 : n_98.toInt = 10 + l_50.toInt := i_add en_98 (by decide : (10 : Int32).toInt = 10) (rfl : l_50.toInt = l_50.toInt) (by omega) (by omega)
                  refine lv_aload_n hx hb dX10_bands_92 rfl (lv_at hl 2 rfl) ?_
                  refine lv_iload_n hx hb dX10_bands_93 rfl (lv_at hl 4 rfl) ?_
                  refine lv_iload hx hb dX10_bands_94 (lv_at hl 0 rfl) ?_
                  refine lv_iconst (v := 1) hx hb dX10_bands_96 (by decide) ?_
                  have k_99 : (1 : Int32).toInt = 1 := by decide
                  refine xi hD hS hA (xV (As := [.int b1, .int l_50, .int 1]) (rest := [.int n_98, .ref (hm 44)]) hx hb hml hown hts hK hP hD hS hA NT_ok hN hAe hl.1 ⟨Nat.le_refl _, Nat.le_refl _⟩ 0 rfl rfl rfl (c_X10_setPace l D cy hm v_taped v_walkers v_loads v_pieces v_changeCosts v_planned v_isMarch v_clauseMany v_place v_end v_bad v_clauses v_codes v_open v_stacked v_isOver v_isBehind zatW_85 zatL_86 zatT_87 zatH_88 zatM_89 zatI_90 zatQ_91 v_packing v_packed v_goPace v_goMinutes v_spentAt v_ranChanges f_m_tape f_m_knee f_m_weight f_m_isLame f_m_loadWeight f_m_owner f_m_food f_m_miles f_m_slope f_m_clauseLetter f_m_sumFrom f_m_codeFrom f_m_codeTo f_m_code f_m_codeArg f_m_newLetter f_m_newSum f_m_newFrom f_m_newTo f_m_newCode f_m_newArg f_m_stack zworth_92 zisRefused_93 f_m_least f_m_packPounds f_m_packOwner f_m_room f_m_givenTo f_m_canBe f_m_setPounds f_m_plainTime f_m_muleTime f_m_planTo f_m_march f_m_tired f_m_ranMinutes f_m_tiredAhead f_m_isReached f_m_toEnd f_m_upTo f_m_upNext f_m_byChanges f_97 H.size b1 l_50 1 (by omega) (by omega) (by omega) hr_m_weight hr_m_isLame hr_m_miles p_96 (by omega) (by omega) hwf) (gi_V lwd_1202 lwd_1203 lwd_1204 lwd_5 lwd_1205) ⟨rfl, hd_X10_setPace⟩ ⟨Nat.le_of_ble_eq_true rfl, Nat.le_of_ble_eq_true rfl⟩ rfl (Nat.le_of_ble_eq_true rfl) dX10_bands_97) (fun r_101 u_100 H locs hw hP hD hS => ?_)
                  obtain ⟨zatW_102, zatL_103, zatT_104, zatH_105, zatM_106, zatI_107, zatQ_108, zworth_109, zisRefused_110⟩ := u_100
                  try dsimp only at hw hP hD
                  obtain ⟨p_111, p_112, p_113⟩ := hw
                  refine as_m_bandPaces (x := r_101) hx hb hK hP hD hS (i_in tn_98 (by omega) (by omega)) dX10_bands_100 (fun f_114 ef_114 H locs hP hD hS => ?_)
                  refine lv_aload_n hx hb dX10_bands_101 rfl (lv_at hl 2 rfl) ?_
                  refine gt_MD_MD_bandPaces hx hb hts hown hK hP lwd_201 dX10_bands_102 ?_
                  refine lv_iload hx hb dX10_bands_105 (lv_at hl 0 rfl) ?_
                  refine al_m_bandPaces hx hb hK hP (i_in (rfl : l_50.toInt = l_50.toInt) (by omega) (by omega)) dX10_bands_107 (fun n_115 en_115 => ?_)
                  refine lv_if_eq (tgt := 124) hx hb dX10_bands_108 (by decide) (fun c_116 => ?_) (fun c_116 => ?_)
                  · have gc_116 : n_115.toInt = 0 := i_eq (rfl : n_115.toInt = n_115.toInt) (by decide : (0 : Int32).toInt = 0) c_116
                    refine lv_bipush (v := (-2)) hx hb dX10_bands_124 (by decide) ?_
                    have k_117 : ((-2) : Int32).toInt = (-2) := by decide
                    exact hrt (-2) zatW_102 zatL_103 zatT_104 zatH_105 zatM_106 zatI_107 zatQ_108 zworth_109 zisRefused_110 f_114 ⟨(by omega), p_113⟩ hP hD hS rfl dX10_bands_126
                  · have gc_116 : n_115.toInt ≠ 0 := i_ne (rfl : n_115.toInt = n_115.toInt) (by decide : (0 : Int32).toInt = 0) c_116
                    refine lv_aload_n hx hb dX10_bands_111 rfl (lv_at hl 2 rfl) ?_
                    refine gt_MD_MD_bandPaces hx hb hts hown hK hP lwd_201 dX10_bands_112 ?_
                    refine lv_bipush (v := 10) hx hb dX10_bands_115 (by decide) ?_
                    refine lv_iload hx hb dX10_bands_117 (lv_at hl 0 rfl) ?_
                    refine lv_iadd hx hb dX10_bands_119 ?_
                    refine lv_topi (fun n_118 en_118 => ?_)
                    have tn_118 : n_118.toInt = 10 + l_50.toInt := i_add en_118 (by decide : (10 : Int32).toInt = 10) (rfl : l_50.toInt = l_50.toInt) (by omega) (by omega)
                    refine al_m_bandPaces hx hb hK hP (i_in tn_118 (by omega) (by omega)) dX10_bands_120 (fun n_119 en_119 => ?_)
                    have hb2 : n_119.toInt = r_101.toInt := by rw [en_119, ef_114, show n_118.toNatClampNeg = n_98.toNatClampNeg by rw [i_ix tn_118, i_ix tn_98], upd_at]
                    refine lv_if_ne (tgt := 127) hx hb dX10_bands_121 (by decide) (fun c_120 => ?_) (fun c_120 => ?_)
                    · have gc_120 : n_119.toInt ≠ 0 := i_ne (rfl : n_119.toInt = n_119.toInt) (by decide : (0 : Int32).toInt = 0) c_120
                      refine lv_iload hx hb dX10_bands_127 (lv_at hl 1 rfl) ?_
                      refine lv_bipush (v := 10) hx hb dX10_bands_129 (by decide) ?_
                      refine lv_aload_n hx hb dX10_bands_131 rfl (lv_at hl 2 rfl) ?_
                      refine gt_MD_MD_miles hx hb hts hown hK hP lwd_163 dX10_bands_132 ?_
                      refine lv_iload hx hb dX10_bands_135 (lv_at hl 0 rfl) ?_
                      refine al_m_miles hx hb hK hP hr_m_miles (i_in (rfl : l_50.toInt = l_50.toInt) (by omega) (by omega)) dX10_bands_137 (fun n_121 en_121 bn_121 => ?_)
                      refine lv_imul hx hb dX10_bands_138 ?_
                      refine lv_topi (fun n_122 en_122 => ?_)
                      have tn_122 : n_122.toInt = 10 * n_121.toInt := i_mul en_122 (by decide : (10 : Int32).toInt = 10) (rfl : n_121.toInt = n_121.toInt) (by omega) (by omega)
                      refine lv_iadd hx hb dX10_bands_139 ?_
                      refine lv_topi (fun n_123 en_123 => ?_)
                      have tn_123 : n_123.toInt = l_49.toInt + (10 * n_121.toInt) := i_add en_123 (rfl : l_49.toInt = l_49.toInt) tn_122 (by omega) (by omega)
                      refine lv_istore (lv' := [(4, .int n_123), (5, .int l_50), (0, .ref (hm 0)), (1, .int a1), (2, .int b1), (3, .int what)]) hx hb dX10_bands_140 hl (by decide) rfl (fun ls hl => ?_)
                      obtain ⟨n_124, en_124⟩ : ∃ y : Int32, y = l_50 + 1 := ⟨_, rfl⟩
                      have tn_124 : n_124.toInt = l_50.toInt + 1 := i_add en_124 (rfl : l_50.toInt = l_50.toInt) (by decide : (1 : Int32).toInt = 1) (by omega) (by omega)
                      refine lv_iinc (v := n_124) (lv' := [(5, .int n_124), (4, .int n_123), (0, .ref (hm 0)), (1, .int a1), (2, .int b1), (3, .int what)]) hx hb dX10_bands_142 hl (k := 1) rfl (by rw [en_124]; rfl) (by decide) rfl (fun ls hl => ?_)
                      refine lv_goto (tgt := 59) hx hb dX10_bands_145 (by decide) ?_
                      exact ih59_58 f_114 zisRefused_110 zworth_109 n_123 n_124 zatH_105 zatI_107 zatL_103 zatM_106 zatQ_108 zatT_104 zatW_102 p_113 (by omega) (by omega) (by omega) (by omega) (by
                        have e9 : n_124.toNatClampNeg = l_50.toNatClampNeg + 1 := by rw [i_ix tn_124, i_ix (rfl : l_50.toInt = l_50.toInt)]; omega
                        have e8 : n_98.toNatClampNeg = 10 + l_50.toNatClampNeg := by rw [i_ix tn_98, i_ix (rfl : l_50.toInt = l_50.toInt)]; omega
                        have e7 := i_ix (rfl : l_50.toInt = l_50.toInt)
                        rw [e9]
                        refine bpOK_up hL59_58_5 (fun j hj => ?_) ?_
                        · rw [ef_114, ef_97, upd_off _ _ (by omega), upd_off _ _ (by omega)]
                        · rw [show 0 + l_50.toNatClampNeg = l_50.toNatClampNeg by omega, ← en_115]
                          have e6 : n_115.toInt = r_84.toInt := by rw [en_115, ef_114, ef_97, upd_off _ _ (by omega), upd_at]
                          omega) (by
                        have e9 : n_124.toNatClampNeg = l_50.toNatClampNeg + 1 := by rw [i_ix tn_124, i_ix (rfl : l_50.toInt = l_50.toInt)]; omega
                        have e8 : n_98.toNatClampNeg = 10 + l_50.toNatClampNeg := by rw [i_ix tn_98, i_ix (rfl : l_50.toInt = l_50.toInt)]; omega
                        have e7 := i_ix (rfl : l_50.toInt = l_50.toInt)
                        rw [e9]
                        refine bpOK_up hL59_58_6 (fun j hj => ?_) ?_
                        · rw [ef_114, ef_97, upd_off _ _ (by omega), upd_off _ _ (by omega)]
                        · rw [ef_114, ← e8, upd_at]
                          omega) (by
                        have e9 : n_124.toNatClampNeg = l_50.toNatClampNeg + 1 := by rw [i_ix tn_124, i_ix (rfl : l_50.toInt = l_50.toInt)]; omega
                        rw [e9, sumM, ← en_121]; omega) (by omega) _ _ _ hP hD hS (lv_sub hl [0, 1, 2, 3, 4, 5] rfl)
                    · have gc_120 : n_119.toInt = 0 := i_eq (rfl : n_119.toInt = n_119.toInt) (by decide : (0 : Int32).toInt = 0) c_120
                      refine lv_bipush (v := (-2)) hx hb dX10_bands_124 (by decide) ?_
                      have k_125 : ((-2) : Int32).toInt = (-2) := by decide
                      exact hrt (-2) zatW_102 zatL_103 zatT_104 zatH_105 zatM_106 zatI_107 zatQ_108 zworth_109 zisRefused_110 f_114 ⟨(by omega), p_113⟩ hP hD hS rfl dX10_bands_126
            have k_126 : (0 : Int32).toInt = 0 := by decide
            have k_127 : (0 : Int32).toInt = 0 := by decide
            exact L59_58 8589934592 f_m_bandPaces f_m_isRefused f_m_worth 0 0 v_atH v_atI v_atL v_atM v_atQ v_atT v_atW hr_m_isRefused (by omega) (by omega) (by omega) (by omega) (fun j hj => absurd hj (by rw [show (0 : Int32).toNatClampNeg = 0 from by decide]; omega)) (fun j hj => absurd hj (by rw [show (0 : Int32).toNatClampNeg = 0 from by decide]; omega)) rfl (by omega) _ _ _ hP hD hS (lv_sub hl [0, 1, 2, 3, 4, 5] rfl)
          · have gc_33 : r_30.toInt = 0 := i_eq (rfl : r_30.toInt = r_30.toInt) (by decide : (0 : Int32).toInt = 0) c_33
            refine lv_iconst (v := (-1)) hx hb dX10_bands_51 (by decide) ?_
            have k_128 : ((-1) : Int32).toInt = (-1) := by decide
            exact hrt (-1) v_atW v_atL v_atT v_atH v_atM v_atI v_atQ f_m_worth f_m_isRefused f_m_bandPaces ⟨(by omega), hr_m_isRefused⟩ hP hD hS rfl dX10_bands_52
