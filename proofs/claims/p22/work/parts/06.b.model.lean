set_option maxHeartbeats 16000000 in
set_option maxRecDepth 100000 in
theorem c_X10_push (l : Launch) (D : va_G) (cy : Nat → ClassId) (hm : Nat → Nat) (v_taped v_walkers v_loads v_pieces v_changeCosts v_planned v_isMarch v_clauseMany v_place v_end v_bad v_clauses v_codes v_open v_stacked v_isOver v_isBehind v_atW v_atL v_atT v_atH v_atM v_atI v_atQ v_packing v_packed v_goPace v_goMinutes v_spentAt v_ranChanges : Int32) (f_m_tape f_m_knee f_m_weight f_m_isLame f_m_loadWeight f_m_owner f_m_food f_m_miles f_m_slope f_m_clauseLetter f_m_sumFrom f_m_codeFrom f_m_codeTo f_m_code f_m_codeArg f_m_newLetter f_m_newSum f_m_newFrom f_m_newTo f_m_newCode f_m_newArg f_m_stack f_m_worth f_m_isRefused f_m_least f_m_packPounds f_m_packOwner f_m_room f_m_givenTo f_m_canBe f_m_setPounds f_m_plainTime f_m_muleTime f_m_planTo f_m_march f_m_tired f_m_ranMinutes f_m_tiredAhead f_m_isReached f_m_toEnd f_m_upTo f_m_upNext f_m_byChanges f_m_bandPaces : Nat → Int32) (sz : Nat) (x : Int32) (hb_v_taped : 0 ≤ v_taped.toInt ∧ v_taped.toInt ≤ 220) (hr_m_tape : rg (-128) 127 f_m_tape) (h1 : v_taped.toInt ≤ 216) : gMv l yX10_push cX10_push 3 1 [.ref (hm 0), .int x] D cy (wMD cy hm v_taped v_walkers v_loads v_pieces v_changeCosts v_planned v_isMarch v_clauseMany v_place v_end v_bad v_clauses v_codes v_open v_stacked v_isOver v_isBehind v_atW v_atL v_atT v_atH v_atM v_atI v_atQ v_packing v_packed v_goPace v_goMinutes v_spentAt v_ranChanges f_m_tape f_m_knee f_m_weight f_m_isLame f_m_loadWeight f_m_owner f_m_food f_m_miles f_m_slope f_m_clauseLetter f_m_sumFrom f_m_codeFrom f_m_codeTo f_m_code f_m_codeArg f_m_newLetter f_m_newSum f_m_newFrom f_m_newTo f_m_newCode f_m_newArg f_m_stack f_m_worth f_m_isRefused f_m_least f_m_packPounds f_m_packOwner f_m_room f_m_givenTo f_m_canBe f_m_setPounds f_m_plainTime f_m_muleTime f_m_planTo f_m_march f_m_tired f_m_ranMinutes f_m_tiredAhead f_m_isReached f_m_toEnd f_m_upTo f_m_upNext f_m_byChanges f_m_bandPaces) NT sz (fun (u : Int32 × (Nat → Int32)) => ((u.1).toInt = v_taped.toInt + 4) ∧ (0 ≤ (u.1).toInt ∧ (u.1).toInt ≤ 220) ∧ (rg (-128) 127 (u.2))) (fun u => wMD cy hm (u.1) v_walkers v_loads v_pieces v_changeCosts v_planned v_isMarch v_clauseMany v_place v_end v_bad v_clauses v_codes v_open v_stacked v_isOver v_isBehind v_atW v_atL v_atT v_atH v_atM v_atI v_atQ v_packing v_packed v_goPace v_goMinutes v_spentAt v_ranChanges (u.2) f_m_knee f_m_weight f_m_isLame f_m_loadWeight f_m_owner f_m_food f_m_miles f_m_slope f_m_clauseLetter f_m_sumFrom f_m_codeFrom f_m_codeTo f_m_code f_m_codeArg f_m_newLetter f_m_newSum f_m_newFrom f_m_newTo f_m_newCode f_m_newArg f_m_stack f_m_worth f_m_isRefused f_m_least f_m_packPounds f_m_packOwner f_m_room f_m_givenTo f_m_canBe f_m_setPounds f_m_plainTime f_m_muleTime f_m_planTo f_m_march f_m_tired f_m_ranMinutes f_m_tiredAhead f_m_isReached f_m_toEnd f_m_upTo f_m_upNext f_m_byChanges f_m_bandPaces) := by
  refine gMv_in (by decide) (Nat.le_of_ble_eq_true rfl) ?_
  intro p e s m args below meth c A ls Q hx hb hml hts hown hsz hP hK hD hN hAe hA hS hl hret
  subst hsz
  have hl : lv_has ls 3 [(0, .ref (hm 0)), (1, .int x)] := hl
  have hrt := fun (v_taped' : Int32) (f_m_tape' : Nat → Int32) (hp : (v_taped'.toInt = v_taped.toInt + 4) ∧ (0 ≤ v_taped'.toInt ∧ v_taped'.toInt ≤ 220) ∧ (rg (-128) 127 f_m_tape')) {H : Heap} {locs : List Loc} {pc : Nat} {ls : Array Slot} => hret (v_taped', f_m_tape') (H := H) (locs := locs) (pc := pc) (ls := ls) hp
  clear hret
  refine lv_bipush (v := 24) hx hb dX10_push_0 (by decide) ?_
  refine lv_istore_n (lv' := [(2, .int 24), (0, .ref (hm 0)), (1, .int x)]) hx hb dX10_push_2 rfl hl (by decide) rfl (fun ls hl => ?_)
  refine lv_iload_n hx hb dX10_push_3 rfl (lv_at hl 0 rfl) ?_
  refine lv_if_lt (tgt := 36) hx hb dX10_push_4 (by decide) (fun c_1 => ?_) (fun c_1 => ?_)
  · exact absurd c_1 (by decide)
  · skip
    refine lv_aload_n hx hb dX10_push_7 rfl (lv_at hl 1 rfl) ?_
    refine gt_MD_MD_tape hx hb hts hown hK hP lwd_155 dX10_push_8 ?_
    refine lv_aload_n hx hb dX10_push_11 rfl (lv_at hl 1 rfl) ?_
    refine gt_MD_MD_taped hx hb hts hown hK hP lwd_298 dX10_push_12 ?_
    refine lv_iload_n hx hb dX10_push_15 rfl (lv_at hl 2 rfl) ?_
    refine lv_iload_n hx hb dX10_push_16 rfl (lv_at hl 0 rfl) ?_
    refine lv_ishr hx hb dX10_push_17 ?_
    refine lv_topi (fun n_2 en_2 => ?_)
    have tn_2 : n_2.toInt = x.toInt / 16777216 := i_shr 24 en_2 (rfl : x.toInt = x.toInt) (by decide) (by decide)
    obtain ⟨n_3, en_3⟩ : ∃ y : Int32, y = n_2.toInt8.toInt32 := ⟨_, rfl⟩
    refine lv_i2b (v := n_3) hx hb dX10_push_18 en_3.symm ?_
    refine as_m_tape (x := n_3) hx hb hK hP hD hS hr_m_tape (i_in (rfl : v_taped.toInt = v_taped.toInt) (by omega) (by omega)) dX10_push_19 (fun f_4 ef_4 rf_4 H locs hP hD hS => ?_)
    refine lv_aload_n hx hb dX10_push_20 rfl (lv_at hl 1 rfl) ?_
    refine lv_dup hx hb dX10_push_21 rfl ?_
    refine gt_MD_MD_taped hx hb hts hown hK hP lwd_298 dX10_push_22 ?_
    refine lv_iconst (v := 1) hx hb dX10_push_25 (by decide) ?_
    refine lv_iadd hx hb dX10_push_26 ?_
    refine lv_topi (fun n_5 en_5 => ?_)
    have tn_5 : n_5.toInt = v_taped.toInt + 1 := i_add en_5 (rfl : v_taped.toInt = v_taped.toInt) (by decide : (1 : Int32).toInt = 1) (by omega) (by omega)
    refine pt_MD_MD_taped (x := n_5) hx hb hts hown hK hP hD hS lwd_298 dX10_push_27 (fun H locs hP hD hS => ?_)
    refine lv_iinc (v := 16) (lv' := [(2, .int 16), (0, .ref (hm 0)), (1, .int x)]) hx hb dX10_push_30 hl (k := 0) rfl (by decide) (by decide) rfl (fun ls hl => ?_)
    refine lv_goto (tgt := 3) hx hb dX10_push_33 (by decide) ?_
    refine lv_iload_n hx hb dX10_push_3 rfl (lv_at hl 0 rfl) ?_
    refine lv_if_lt (tgt := 36) hx hb dX10_push_4 (by decide) (fun c_6 => ?_) (fun c_6 => ?_)
    · exact absurd c_6 (by decide)
    · skip
      refine lv_aload_n hx hb dX10_push_7 rfl (lv_at hl 1 rfl) ?_
      refine gt_MD_MD_tape hx hb hts hown hK hP lwd_155 dX10_push_8 ?_
      refine lv_aload_n hx hb dX10_push_11 rfl (lv_at hl 1 rfl) ?_
      refine gt_MD_MD_taped hx hb hts hown hK hP lwd_298 dX10_push_12 ?_
      refine lv_iload_n hx hb dX10_push_15 rfl (lv_at hl 2 rfl) ?_
      refine lv_iload_n hx hb dX10_push_16 rfl (lv_at hl 0 rfl) ?_
      refine lv_ishr hx hb dX10_push_17 ?_
      refine lv_topi (fun n_7 en_7 => ?_)
      have tn_7 : n_7.toInt = x.toInt / 65536 := i_shr 16 en_7 (rfl : x.toInt = x.toInt) (by decide) (by decide)
      obtain ⟨n_8, en_8⟩ : ∃ y : Int32, y = n_7.toInt8.toInt32 := ⟨_, rfl⟩
      refine lv_i2b (v := n_8) hx hb dX10_push_18 en_8.symm ?_
      refine as_m_tape (x := n_8) hx hb hK hP hD hS rf_4 (i_in tn_5 (by omega) (by omega)) dX10_push_19 (fun f_9 ef_9 rf_9 H locs hP hD hS => ?_)
      refine lv_aload_n hx hb dX10_push_20 rfl (lv_at hl 1 rfl) ?_
      refine lv_dup hx hb dX10_push_21 rfl ?_
      refine gt_MD_MD_taped hx hb hts hown hK hP lwd_298 dX10_push_22 ?_
      refine lv_iconst (v := 1) hx hb dX10_push_25 (by decide) ?_
      refine lv_iadd hx hb dX10_push_26 ?_
      refine lv_topi (fun n_10 en_10 => ?_)
      have tn_10 : n_10.toInt = (v_taped.toInt + 1) + 1 := i_add en_10 tn_5 (by decide : (1 : Int32).toInt = 1) (by omega) (by omega)
      refine pt_MD_MD_taped (x := n_10) hx hb hts hown hK hP hD hS lwd_298 dX10_push_27 (fun H locs hP hD hS => ?_)
      refine lv_iinc (v := 8) (lv' := [(2, .int 8), (0, .ref (hm 0)), (1, .int x)]) hx hb dX10_push_30 hl (k := 0) rfl (by decide) (by decide) rfl (fun ls hl => ?_)
      refine lv_goto (tgt := 3) hx hb dX10_push_33 (by decide) ?_
      refine lv_iload_n hx hb dX10_push_3 rfl (lv_at hl 0 rfl) ?_
      refine lv_if_lt (tgt := 36) hx hb dX10_push_4 (by decide) (fun c_11 => ?_) (fun c_11 => ?_)
      · exact absurd c_11 (by decide)
      · skip
        refine lv_aload_n hx hb dX10_push_7 rfl (lv_at hl 1 rfl) ?_
        refine gt_MD_MD_tape hx hb hts hown hK hP lwd_155 dX10_push_8 ?_
        refine lv_aload_n hx hb dX10_push_11 rfl (lv_at hl 1 rfl) ?_
        refine gt_MD_MD_taped hx hb hts hown hK hP lwd_298 dX10_push_12 ?_
        refine lv_iload_n hx hb dX10_push_15 rfl (lv_at hl 2 rfl) ?_
        refine lv_iload_n hx hb dX10_push_16 rfl (lv_at hl 0 rfl) ?_
        refine lv_ishr hx hb dX10_push_17 ?_
        refine lv_topi (fun n_12 en_12 => ?_)
        have tn_12 : n_12.toInt = x.toInt / 256 := i_shr 8 en_12 (rfl : x.toInt = x.toInt) (by decide) (by decide)
        obtain ⟨n_13, en_13⟩ : ∃ y : Int32, y = n_12.toInt8.toInt32 := ⟨_, rfl⟩
        refine lv_i2b (v := n_13) hx hb dX10_push_18 en_13.symm ?_
        refine as_m_tape (x := n_13) hx hb hK hP hD hS rf_9 (i_in tn_10 (by omega) (by omega)) dX10_push_19 (fun f_14 ef_14 rf_14 H locs hP hD hS => ?_)
        refine lv_aload_n hx hb dX10_push_20 rfl (lv_at hl 1 rfl) ?_
        refine lv_dup hx hb dX10_push_21 rfl ?_
        refine gt_MD_MD_taped hx hb hts hown hK hP lwd_298 dX10_push_22 ?_
        refine lv_iconst (v := 1) hx hb dX10_push_25 (by decide) ?_
        refine lv_iadd hx hb dX10_push_26 ?_
        refine lv_topi (fun n_15 en_15 => ?_)
        have tn_15 : n_15.toInt = ((v_taped.toInt + 1) + 1) + 1 := i_add en_15 tn_10 (by decide : (1 : Int32).toInt = 1) (by omega) (by omega)
        refine pt_MD_MD_taped (x := n_15) hx hb hts hown hK hP hD hS lwd_298 dX10_push_27 (fun H locs hP hD hS => ?_)
        refine lv_iinc (v := 0) (lv' := [(2, .int 0), (0, .ref (hm 0)), (1, .int x)]) hx hb dX10_push_30 hl (k := 0) rfl (by decide) (by decide) rfl (fun ls hl => ?_)
        refine lv_goto (tgt := 3) hx hb dX10_push_33 (by decide) ?_
        refine lv_iload_n hx hb dX10_push_3 rfl (lv_at hl 0 rfl) ?_
        refine lv_if_lt (tgt := 36) hx hb dX10_push_4 (by decide) (fun c_16 => ?_) (fun c_16 => ?_)
        · exact absurd c_16 (by decide)
        · skip
          refine lv_aload_n hx hb dX10_push_7 rfl (lv_at hl 1 rfl) ?_
          refine gt_MD_MD_tape hx hb hts hown hK hP lwd_155 dX10_push_8 ?_
          refine lv_aload_n hx hb dX10_push_11 rfl (lv_at hl 1 rfl) ?_
          refine gt_MD_MD_taped hx hb hts hown hK hP lwd_298 dX10_push_12 ?_
          refine lv_iload_n hx hb dX10_push_15 rfl (lv_at hl 2 rfl) ?_
          refine lv_iload_n hx hb dX10_push_16 rfl (lv_at hl 0 rfl) ?_
          refine lv_ishr hx hb dX10_push_17 ?_
          refine lv_topi (fun n_17 en_17 => ?_)
          have tn_17 : n_17.toInt = x.toInt / 1 := i_shr 0 en_17 (rfl : x.toInt = x.toInt) (by decide) (by decide)
          obtain ⟨n_18, en_18⟩ : ∃ y : Int32, y = n_17.toInt8.toInt32 := ⟨_, rfl⟩
          refine lv_i2b (v := n_18) hx hb dX10_push_18 en_18.symm ?_
          refine as_m_tape (x := n_18) hx hb hK hP hD hS rf_14 (i_in tn_15 (by omega) (by omega)) dX10_push_19 (fun f_19 ef_19 rf_19 H locs hP hD hS => ?_)
          refine lv_aload_n hx hb dX10_push_20 rfl (lv_at hl 1 rfl) ?_
          refine lv_dup hx hb dX10_push_21 rfl ?_
          refine gt_MD_MD_taped hx hb hts hown hK hP lwd_298 dX10_push_22 ?_
          refine lv_iconst (v := 1) hx hb dX10_push_25 (by decide) ?_
          refine lv_iadd hx hb dX10_push_26 ?_
          refine lv_topi (fun n_20 en_20 => ?_)
          have tn_20 : n_20.toInt = (((v_taped.toInt + 1) + 1) + 1) + 1 := i_add en_20 tn_15 (by decide : (1 : Int32).toInt = 1) (by omega) (by omega)
          refine pt_MD_MD_taped (x := n_20) hx hb hts hown hK hP hD hS lwd_298 dX10_push_27 (fun H locs hP hD hS => ?_)
          refine lv_iinc (v := (-8)) (lv' := [(2, .int (-8)), (0, .ref (hm 0)), (1, .int x)]) hx hb dX10_push_30 hl (k := 0) rfl (by decide) (by decide) rfl (fun ls hl => ?_)
          refine lv_goto (tgt := 3) hx hb dX10_push_33 (by decide) ?_
          refine lv_iload_n hx hb dX10_push_3 rfl (lv_at hl 0 rfl) ?_
          refine lv_if_lt (tgt := 36) hx hb dX10_push_4 (by decide) (fun c_21 => ?_) (fun c_21 => ?_)
          · skip
            exact hrt n_20 f_19 ⟨(by omega), (by omega), rf_19⟩ hP hD hS dX10_push_36
          · exact absurd c_21 (by decide)
set_option maxHeartbeats 16000000 in
set_option maxRecDepth 100000 in
theorem c_X10_feed (l : Launch) (D : va_G) (cy : Nat → ClassId) (hm : Nat → Nat) (v_taped v_walkers v_loads v_pieces v_changeCosts v_planned v_isMarch v_clauseMany v_place v_end v_bad v_clauses v_codes v_open v_stacked v_isOver v_isBehind v_atW v_atL v_atT v_atH v_atM v_atI v_atQ v_packing v_packed v_goPace v_goMinutes v_spentAt v_ranChanges : Int32) (f_m_tape f_m_knee f_m_weight f_m_isLame f_m_loadWeight f_m_owner f_m_food f_m_miles f_m_slope f_m_clauseLetter f_m_sumFrom f_m_codeFrom f_m_codeTo f_m_code f_m_codeArg f_m_newLetter f_m_newSum f_m_newFrom f_m_newTo f_m_newCode f_m_newArg f_m_stack f_m_worth f_m_isRefused f_m_least f_m_packPounds f_m_packOwner f_m_room f_m_givenTo f_m_canBe f_m_setPounds f_m_plainTime f_m_muleTime f_m_planTo f_m_march f_m_tired f_m_ranMinutes f_m_tiredAhead f_m_isReached f_m_toEnd f_m_upTo f_m_upNext f_m_byChanges f_m_bandPaces : Nat → Int32) (sz : Nat) (a1 : Int32) (a2 : Int32) (a3 : Int32) (a4 : Int32) (a5 : Int32) (hb_v_taped : 0 ≤ v_taped.toInt ∧ v_taped.toInt ≤ 220) (hr_m_tape : rg (-128) 127 f_m_tape) : gMi l yX10_feed cX10_feed 6 .int 2 [.ref (hm 0), .int a1, .int a2, .int a3, .int a4, .int a5] D cy (wMD cy hm v_taped v_walkers v_loads v_pieces v_changeCosts v_planned v_isMarch v_clauseMany v_place v_end v_bad v_clauses v_codes v_open v_stacked v_isOver v_isBehind v_atW v_atL v_atT v_atH v_atM v_atI v_atQ v_packing v_packed v_goPace v_goMinutes v_spentAt v_ranChanges f_m_tape f_m_knee f_m_weight f_m_isLame f_m_loadWeight f_m_owner f_m_food f_m_miles f_m_slope f_m_clauseLetter f_m_sumFrom f_m_codeFrom f_m_codeTo f_m_code f_m_codeArg f_m_newLetter f_m_newSum f_m_newFrom f_m_newTo f_m_newCode f_m_newArg f_m_stack f_m_worth f_m_isRefused f_m_least f_m_packPounds f_m_packOwner f_m_room f_m_givenTo f_m_canBe f_m_setPounds f_m_plainTime f_m_muleTime f_m_planTo f_m_march f_m_tired f_m_ranMinutes f_m_tiredAhead f_m_isReached f_m_toEnd f_m_upTo f_m_upNext f_m_byChanges f_m_bandPaces) NT sz (fun (r : Int32) (u : Int32 × (Nat → Int32)) => ((r.toInt = v_taped.toInt + 20 ∧ v_taped.toInt ≤ 200 ∧ (u.1).toInt = v_taped.toInt + 20) ∨ (r.toInt = -1 ∧ 200 < v_taped.toInt ∧ (u.1).toInt = v_taped.toInt)) ∧ (0 ≤ (u.1).toInt ∧ (u.1).toInt ≤ 220) ∧ (rg (-128) 127 (u.2))) (fun u => wMD cy hm (u.1) v_walkers v_loads v_pieces v_changeCosts v_planned v_isMarch v_clauseMany v_place v_end v_bad v_clauses v_codes v_open v_stacked v_isOver v_isBehind v_atW v_atL v_atT v_atH v_atM v_atI v_atQ v_packing v_packed v_goPace v_goMinutes v_spentAt v_ranChanges (u.2) f_m_knee f_m_weight f_m_isLame f_m_loadWeight f_m_owner f_m_food f_m_miles f_m_slope f_m_clauseLetter f_m_sumFrom f_m_codeFrom f_m_codeTo f_m_code f_m_codeArg f_m_newLetter f_m_newSum f_m_newFrom f_m_newTo f_m_newCode f_m_newArg f_m_stack f_m_worth f_m_isRefused f_m_least f_m_packPounds f_m_packOwner f_m_room f_m_givenTo f_m_canBe f_m_setPounds f_m_plainTime f_m_muleTime f_m_planTo f_m_march f_m_tired f_m_ranMinutes f_m_tiredAhead f_m_isReached f_m_toEnd f_m_upTo f_m_upNext f_m_byChanges f_m_bandPaces) := by
  refine gMi_in (by decide) (Nat.le_of_ble_eq_true rfl) ?_
  intro p e s m args below meth c A ls Q hx hb hml hts hown hsz hP hK hD hN hAe hA hS hl hret
  subst hsz
  have hl : lv_has ls 6 [(0, .ref (hm 0)), (1, .int a1), (2, .int a2), (3, .int a3), (4, .int a4), (5, .int a5)] := hl
  have hrt := fun (r : Int32) (v_taped' : Int32) (f_m_tape' : Nat → Int32) (hp : ((r.toInt = v_taped.toInt + 20 ∧ v_taped.toInt ≤ 200 ∧ v_taped'.toInt = v_taped.toInt + 20) ∨ (r.toInt = -1 ∧ 200 < v_taped.toInt ∧ v_taped'.toInt = v_taped.toInt)) ∧ (0 ≤ v_taped'.toInt ∧ v_taped'.toInt ≤ 220) ∧ (rg (-128) 127 f_m_tape')) {H : Heap} {locs : List Loc} {pc : Nat} {ls : Array Slot} => hret r (v_taped', f_m_tape') (H := H) (locs := locs) (pc := pc) (ls := ls) hp
  clear hret
  refine lv_aload_n hx hb dX10_feed_0 rfl (lv_at hl 0 rfl) ?_
  refine gt_MD_MD_taped hx hb hts hown hK hP lwd_298 dX10_feed_1 ?_
  refine lv_bipush (v := 20) hx hb dX10_feed_4 (by decide) ?_
  refine lv_iadd hx hb dX10_feed_6 ?_
  refine lv_topi (fun n_1 en_1 => ?_)
  have tn_1 : n_1.toInt = v_taped.toInt + 20 := i_add en_1 (rfl : v_taped.toInt = v_taped.toInt) (by decide : (20 : Int32).toInt = 20) (by omega) (by omega)
  refine lv_sipush (v := 220) hx hb dX10_feed_7 (by decide) ?_
  refine lv_icmp_le (tgt := 15) hx hb dX10_feed_10 (by decide) (fun c_2 => ?_) (fun c_2 => ?_)
  · have gc_2 : v_taped.toInt + 20 ≤ 220 := i_le tn_1 (by decide : (220 : Int32).toInt = 220) c_2
    refine lv_aload_n hx hb dX10_feed_15 rfl (lv_at hl 0 rfl) ?_
    refine lv_iload_n hx hb dX10_feed_16 rfl (lv_at hl 1 rfl) ?_
    refine xv hD hS hA (xV (As := [.int a1]) (rest := []) hx hb hml hown hts hK hP hD hS hA NT_ok hN hAe hl.1 ⟨Nat.le_refl _, Nat.le_refl _⟩ 0 rfl rfl rfl (c_X10_push l D cy hm v_taped v_walkers v_loads v_pieces v_changeCosts v_planned v_isMarch v_clauseMany v_place v_end v_bad v_clauses v_codes v_open v_stacked v_isOver v_isBehind v_atW v_atL v_atT v_atH v_atM v_atI v_atQ v_packing v_packed v_goPace v_goMinutes v_spentAt v_ranChanges f_m_tape f_m_knee f_m_weight f_m_isLame f_m_loadWeight f_m_owner f_m_food f_m_miles f_m_slope f_m_clauseLetter f_m_sumFrom f_m_codeFrom f_m_codeTo f_m_code f_m_codeArg f_m_newLetter f_m_newSum f_m_newFrom f_m_newTo f_m_newCode f_m_newArg f_m_stack f_m_worth f_m_isRefused f_m_least f_m_packPounds f_m_packOwner f_m_room f_m_givenTo f_m_canBe f_m_setPounds f_m_plainTime f_m_muleTime f_m_planTo f_m_march f_m_tired f_m_ranMinutes f_m_tiredAhead f_m_isReached f_m_toEnd f_m_upTo f_m_upNext f_m_byChanges f_m_bandPaces s.heap.size a1 (by omega) hr_m_tape (by omega)) (gi_V lwd_299 lwd_300 lwd_301 lwd_5 lwd_302) ⟨rfl, hd_X10_push⟩ ⟨Nat.le_of_ble_eq_true rfl, Nat.le_of_ble_eq_true rfl⟩ rfl (Nat.le_of_ble_eq_true rfl) dX10_feed_17) (fun u_3 H locs hw hP hD hS => ?_)
    obtain ⟨ztaped_5, ztape_6⟩ := u_3
    try dsimp only at hw hP hD
    obtain ⟨p_7, p_8, p_9⟩ := hw
    refine lv_aload_n hx hb dX10_feed_20 rfl (lv_at hl 0 rfl) ?_
    refine lv_iload_n hx hb dX10_feed_21 rfl (lv_at hl 2 rfl) ?_
    refine xv hD hS hA (xV (As := [.int a2]) (rest := []) hx hb hml hown hts hK hP hD hS hA NT_ok hN hAe hl.1 ⟨Nat.le_refl _, Nat.le_refl _⟩ 0 rfl rfl rfl (c_X10_push l D cy hm ztaped_5 v_walkers v_loads v_pieces v_changeCosts v_planned v_isMarch v_clauseMany v_place v_end v_bad v_clauses v_codes v_open v_stacked v_isOver v_isBehind v_atW v_atL v_atT v_atH v_atM v_atI v_atQ v_packing v_packed v_goPace v_goMinutes v_spentAt v_ranChanges ztape_6 f_m_knee f_m_weight f_m_isLame f_m_loadWeight f_m_owner f_m_food f_m_miles f_m_slope f_m_clauseLetter f_m_sumFrom f_m_codeFrom f_m_codeTo f_m_code f_m_codeArg f_m_newLetter f_m_newSum f_m_newFrom f_m_newTo f_m_newCode f_m_newArg f_m_stack f_m_worth f_m_isRefused f_m_least f_m_packPounds f_m_packOwner f_m_room f_m_givenTo f_m_canBe f_m_setPounds f_m_plainTime f_m_muleTime f_m_planTo f_m_march f_m_tired f_m_ranMinutes f_m_tiredAhead f_m_isReached f_m_toEnd f_m_upTo f_m_upNext f_m_byChanges f_m_bandPaces H.size a2 (by omega) p_9 (by omega)) (gi_V lwd_299 lwd_300 lwd_301 lwd_5 lwd_302) ⟨rfl, hd_X10_push⟩ ⟨Nat.le_of_ble_eq_true rfl, Nat.le_of_ble_eq_true rfl⟩ rfl (Nat.le_of_ble_eq_true rfl) dX10_feed_22) (fun u_10 H locs hw hP hD hS => ?_)
    obtain ⟨ztaped_12, ztape_13⟩ := u_10
    try dsimp only at hw hP hD
    obtain ⟨p_14, p_15, p_16⟩ := hw
    refine lv_aload_n hx hb dX10_feed_25 rfl (lv_at hl 0 rfl) ?_
    refine lv_iload_n hx hb dX10_feed_26 rfl (lv_at hl 3 rfl) ?_
    refine xv hD hS hA (xV (As := [.int a3]) (rest := []) hx hb hml hown hts hK hP hD hS hA NT_ok hN hAe hl.1 ⟨Nat.le_refl _, Nat.le_refl _⟩ 0 rfl rfl rfl (c_X10_push l D cy hm ztaped_12 v_walkers v_loads v_pieces v_changeCosts v_planned v_isMarch v_clauseMany v_place v_end v_bad v_clauses v_codes v_open v_stacked v_isOver v_isBehind v_atW v_atL v_atT v_atH v_atM v_atI v_atQ v_packing v_packed v_goPace v_goMinutes v_spentAt v_ranChanges ztape_13 f_m_knee f_m_weight f_m_isLame f_m_loadWeight f_m_owner f_m_food f_m_miles f_m_slope f_m_clauseLetter f_m_sumFrom f_m_codeFrom f_m_codeTo f_m_code f_m_codeArg f_m_newLetter f_m_newSum f_m_newFrom f_m_newTo f_m_newCode f_m_newArg f_m_stack f_m_worth f_m_isRefused f_m_least f_m_packPounds f_m_packOwner f_m_room f_m_givenTo f_m_canBe f_m_setPounds f_m_plainTime f_m_muleTime f_m_planTo f_m_march f_m_tired f_m_ranMinutes f_m_tiredAhead f_m_isReached f_m_toEnd f_m_upTo f_m_upNext f_m_byChanges f_m_bandPaces H.size a3 (by omega) p_16 (by omega)) (gi_V lwd_299 lwd_300 lwd_301 lwd_5 lwd_302) ⟨rfl, hd_X10_push⟩ ⟨Nat.le_of_ble_eq_true rfl, Nat.le_of_ble_eq_true rfl⟩ rfl (Nat.le_of_ble_eq_true rfl) dX10_feed_27) (fun u_17 H locs hw hP hD hS => ?_)
    obtain ⟨ztaped_19, ztape_20⟩ := u_17
    try dsimp only at hw hP hD
    obtain ⟨p_21, p_22, p_23⟩ := hw
    refine lv_aload_n hx hb dX10_feed_30 rfl (lv_at hl 0 rfl) ?_
    refine lv_iload hx hb dX10_feed_31 (lv_at hl 4 rfl) ?_
    refine xv hD hS hA (xV (As := [.int a4]) (rest := []) hx hb hml hown hts hK hP hD hS hA NT_ok hN hAe hl.1 ⟨Nat.le_refl _, Nat.le_refl _⟩ 0 rfl rfl rfl (c_X10_push l D cy hm ztaped_19 v_walkers v_loads v_pieces v_changeCosts v_planned v_isMarch v_clauseMany v_place v_end v_bad v_clauses v_codes v_open v_stacked v_isOver v_isBehind v_atW v_atL v_atT v_atH v_atM v_atI v_atQ v_packing v_packed v_goPace v_goMinutes v_spentAt v_ranChanges ztape_20 f_m_knee f_m_weight f_m_isLame f_m_loadWeight f_m_owner f_m_food f_m_miles f_m_slope f_m_clauseLetter f_m_sumFrom f_m_codeFrom f_m_codeTo f_m_code f_m_codeArg f_m_newLetter f_m_newSum f_m_newFrom f_m_newTo f_m_newCode f_m_newArg f_m_stack f_m_worth f_m_isRefused f_m_least f_m_packPounds f_m_packOwner f_m_room f_m_givenTo f_m_canBe f_m_setPounds f_m_plainTime f_m_muleTime f_m_planTo f_m_march f_m_tired f_m_ranMinutes f_m_tiredAhead f_m_isReached f_m_toEnd f_m_upTo f_m_upNext f_m_byChanges f_m_bandPaces H.size a4 (by omega) p_23 (by omega)) (gi_V lwd_299 lwd_300 lwd_301 lwd_5 lwd_302) ⟨rfl, hd_X10_push⟩ ⟨Nat.le_of_ble_eq_true rfl, Nat.le_of_ble_eq_true rfl⟩ rfl (Nat.le_of_ble_eq_true rfl) dX10_feed_33) (fun u_24 H locs hw hP hD hS => ?_)
    obtain ⟨ztaped_26, ztape_27⟩ := u_24
    try dsimp only at hw hP hD
    obtain ⟨p_28, p_29, p_30⟩ := hw
    refine lv_aload_n hx hb dX10_feed_36 rfl (lv_at hl 0 rfl) ?_
    refine lv_iload hx hb dX10_feed_37 (lv_at hl 5 rfl) ?_
    refine xv hD hS hA (xV (As := [.int a5]) (rest := []) hx hb hml hown hts hK hP hD hS hA NT_ok hN hAe hl.1 ⟨Nat.le_refl _, Nat.le_refl _⟩ 0 rfl rfl rfl (c_X10_push l D cy hm ztaped_26 v_walkers v_loads v_pieces v_changeCosts v_planned v_isMarch v_clauseMany v_place v_end v_bad v_clauses v_codes v_open v_stacked v_isOver v_isBehind v_atW v_atL v_atT v_atH v_atM v_atI v_atQ v_packing v_packed v_goPace v_goMinutes v_spentAt v_ranChanges ztape_27 f_m_knee f_m_weight f_m_isLame f_m_loadWeight f_m_owner f_m_food f_m_miles f_m_slope f_m_clauseLetter f_m_sumFrom f_m_codeFrom f_m_codeTo f_m_code f_m_codeArg f_m_newLetter f_m_newSum f_m_newFrom f_m_newTo f_m_newCode f_m_newArg f_m_stack f_m_worth f_m_isRefused f_m_least f_m_packPounds f_m_packOwner f_m_room f_m_givenTo f_m_canBe f_m_setPounds f_m_plainTime f_m_muleTime f_m_planTo f_m_march f_m_tired f_m_ranMinutes f_m_tiredAhead f_m_isReached f_m_toEnd f_m_upTo f_m_upNext f_m_byChanges f_m_bandPaces H.size a5 (by omega) p_30 (by omega)) (gi_V lwd_299 lwd_300 lwd_301 lwd_5 lwd_302) ⟨rfl, hd_X10_push⟩ ⟨Nat.le_of_ble_eq_true rfl, Nat.le_of_ble_eq_true rfl⟩ rfl (Nat.le_of_ble_eq_true rfl) dX10_feed_39) (fun u_31 H locs hw hP hD hS => ?_)
    obtain ⟨ztaped_33, ztape_34⟩ := u_31
    try dsimp only at hw hP hD
    obtain ⟨p_35, p_36, p_37⟩ := hw
    refine lv_aload_n hx hb dX10_feed_42 rfl (lv_at hl 0 rfl) ?_
    refine gt_MD_MD_taped hx hb hts hown hK hP lwd_298 dX10_feed_43 ?_
    exact hrt ztaped_33 ztaped_33 ztape_34 ⟨(by omega), (by omega), p_37⟩ hP hD hS rfl dX10_feed_46
  · have gc_2 : 220 < v_taped.toInt + 20 := i_nle tn_1 (by decide : (220 : Int32).toInt = 220) c_2
    refine lv_iconst (v := (-1)) hx hb dX10_feed_13 (by decide) ?_
    have k_38 : ((-1) : Int32).toInt = (-1) := by decide
    exact hrt (-1) v_taped f_m_tape ⟨(by omega), (by omega), hr_m_tape⟩ hP hD hS rfl dX10_feed_14
