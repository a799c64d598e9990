set_option maxHeartbeats 16000000 in
set_option maxRecDepth 100000 in
theorem c_X10_push_q (l : Launch) (D : va_G) (cy : Nat → ClassId) (hm : Nat → Nat) (v_taped v_walkers v_loads v_pieces v_changeCosts v_planned v_isMarch v_clauseMany v_place v_end v_bad v_clauses v_codes v_open v_stacked v_isOver v_isBehind v_atW v_atL v_atT v_atH v_atM v_atI v_atQ v_packing v_packed v_goPace v_goMinutes v_spentAt v_ranChanges : Int32) (f_m_tape f_m_knee f_m_weight f_m_isLame f_m_loadWeight f_m_owner f_m_food f_m_miles f_m_slope f_m_clauseLetter f_m_sumFrom f_m_codeFrom f_m_codeTo f_m_code f_m_codeArg f_m_newLetter f_m_newSum f_m_newFrom f_m_newTo f_m_newCode f_m_newArg f_m_stack f_m_worth f_m_isRefused f_m_least f_m_packPounds f_m_packOwner f_m_room f_m_givenTo f_m_canBe f_m_setPounds f_m_plainTime f_m_muleTime f_m_planTo f_m_march f_m_tired f_m_ranMinutes f_m_tiredAhead f_m_isReached f_m_toEnd f_m_upTo f_m_upNext f_m_byChanges f_m_bandPaces : Nat → Int32) (sz : Nat) (x : Int32) (hb_v_taped : 0 ≤ v_taped.toInt ∧ v_taped.toInt ≤ 220) (hr_m_tape : rg (-128) 127 f_m_tape) (h1 : v_taped.toInt ≤ 216) : gMv l yX10_push cX10_push 3 1 [.ref (hm 0), .int x] D cy (wMD cy hm v_taped v_walkers v_loads v_pieces v_changeCosts v_planned v_isMarch v_clauseMany v_place v_end v_bad v_clauses v_codes v_open v_stacked v_isOver v_isBehind v_atW v_atL v_atT v_atH v_atM v_atI v_atQ v_packing v_packed v_goPace v_goMinutes v_spentAt v_ranChanges f_m_tape f_m_knee f_m_weight f_m_isLame f_m_loadWeight f_m_owner f_m_food f_m_miles f_m_slope f_m_clauseLetter f_m_sumFrom f_m_codeFrom f_m_codeTo f_m_code f_m_codeArg f_m_newLetter f_m_newSum f_m_newFrom f_m_newTo f_m_newCode f_m_newArg f_m_stack f_m_worth f_m_isRefused f_m_least f_m_packPounds f_m_packOwner f_m_room f_m_givenTo f_m_canBe f_m_setPounds f_m_plainTime f_m_muleTime f_m_planTo f_m_march f_m_tired f_m_ranMinutes f_m_tiredAhead f_m_isReached f_m_toEnd f_m_upTo f_m_upNext f_m_byChanges f_m_bandPaces) NT sz (fun (u : Int32 × (Nat → Int32)) => ((u.1).toInt = v_taped.toInt + 4) ∧ ((u.2) = ps4 f_m_tape v_taped.toNatClampNeg x) ∧ (0 ≤ (u.1).toInt ∧ (u.1).toInt ≤ 220) ∧ (rg (-128) 127 (u.2))) (fun u => wMD cy hm (u.1) v_walkers v_loads v_pieces v_changeCosts v_planned v_isMarch v_clauseMany v_place v_end v_bad v_clauses v_codes v_open v_stacked v_isOver v_isBehind v_atW v_atL v_atT v_atH v_atM v_atI v_atQ v_packing v_packed v_goPace v_goMinutes v_spentAt v_ranChanges (u.2) f_m_knee f_m_weight f_m_isLame f_m_loadWeight f_m_owner f_m_food f_m_miles f_m_slope f_m_clauseLetter f_m_sumFrom f_m_codeFrom f_m_codeTo f_m_code f_m_codeArg f_m_newLetter f_m_newSum f_m_newFrom f_m_newTo f_m_newCode f_m_newArg f_m_stack f_m_worth f_m_isRefused f_m_least f_m_packPounds f_m_packOwner f_m_room f_m_givenTo f_m_canBe f_m_setPounds f_m_plainTime f_m_muleTime f_m_planTo f_m_march f_m_tired f_m_ranMinutes f_m_tiredAhead f_m_isReached f_m_toEnd f_m_upTo f_m_upNext f_m_byChanges f_m_bandPaces) := by
  refine gMv_in (by decide) (Nat.le_of_ble_eq_true rfl) ?_
  intro p e s m args below meth c A ls Q hx hb hml hts hown hsz hP hK hD hN hAe hA hS hl hret
  subst hsz
  have hl : lv_has ls 3 [(0, .ref (hm 0)), (1, .int x)] := hl
  have hrt := fun (v_taped' : Int32) (f_m_tape' : Nat → Int32) (hp : (v_taped'.toInt = v_taped.toInt + 4) ∧ (f_m_tape' = ps4 f_m_tape v_taped.toNatClampNeg x) ∧ (0 ≤ v_taped'.toInt ∧ v_taped'.toInt ≤ 220) ∧ (rg (-128) 127 f_m_tape')) {H : Heap} {locs : List Loc} {pc : Nat} {ls : Array Slot} => hret (v_taped', f_m_tape') (H := H) (locs := locs) (pc := pc) (ls := ls) hp
  clear hret
  refine lv_bipush (v := 24) hx hb dX10_push_0 (by decide) ?_
  refine lv_istore_n (lv' := [(2, .int 24), (0, .ref (hm 0)), (1, .int x)]) hx hb dX10_push_2 rfl hl (by decide) rfl (fun ls hl => ?_)
  refine lv_iload_n hx hb dX10_push_3 rfl (lv_at hl 0 rfl) ?_
  refine lv_if_lt (tgt := 36) hx hb dX10_push_4 (by decide) (fun c_1 => ?_) (fun c_1 => ?_)
  · exact absurd c_1 (by decide)
  · skip
    refine lv_aload_n hx hb dX10_push_7 rfl (lv_at hl 1 rfl) ?_
    refine gt_MD_MD_tape hx hb hts hown hK hP lwd_155 dX10_push_8 ?_
    refine lv_aload_n hx hb dX10_push_11 rfl (lv_at hl 1 rfl) ?_
    refine gt_MD_MD_taped hx hb hts hown hK hP lwd_298 dX10_push_12 ?_
    refine lv_iload_n hx hb dX10_push_15 rfl (lv_at hl 2 rfl) ?_
    refine lv_iload_n hx hb dX10_push_16 rfl (lv_at hl 0 rfl) ?_
    refine lv_ishr hx hb dX10_push_17 ?_
    refine lv_topi (fun n_2 en_2 => ?_)
    have tn_2 : n_2.toInt = x.toInt / 16777216 := i_shr 24 en_2 (rfl : x.toInt = x.toInt) (by decide) (by decide)
    skip
    obtain ⟨n_3, en_3⟩ : ∃ y : Int32, y = n_2.toInt8.toInt32 := ⟨_, rfl⟩
    refine lv_i2b (v := n_3) hx hb dX10_push_18 en_3.symm ?_
    refine as_m_tape (x := n_3) hx hb hK hP hD hS hr_m_tape (i_in (rfl : v_taped.toInt = v_taped.toInt) (by omega) (by omega)) dX10_push_19 (fun f_4 ef_4 rf_4 H locs hP hD hS => ?_)
    have nsn_3 : vp_nar .byte n_3 = s8 x 24 := by rw [en_3, en_2]; exact nar_s8 x 24
    refine lv_aload_n hx hb dX10_push_20 rfl (lv_at hl 1 rfl) ?_
    refine lv_dup hx hb dX10_push_21 rfl ?_
    refine gt_MD_MD_taped hx hb hts hown hK hP lwd_298 dX10_push_22 ?_
    refine lv_iconst (v := 1) hx hb dX10_push_25 (by decide) ?_
    refine lv_iadd hx hb dX10_push_26 ?_
    refine lv_topi (fun n_5 en_5 => ?_)
    have tn_5 : n_5.toInt = v_taped.toInt + 1 := i_add en_5 (rfl : v_taped.toInt = v_taped.toInt) (by decide : (1 : Int32).toInt = 1) (by omega) (by omega)
    refine pt_MD_MD_taped (x := n_5) hx hb hts hown hK hP hD hS lwd_298 dX10_push_27 (fun H locs hP hD hS => ?_)
    refine lv_iinc (v := 16) (lv' := [(2, .int 16), (0, .ref (hm 0)), (1, .int x)]) hx hb dX10_push_30 hl (k := 0) rfl (by decide) (by decide) rfl (fun ls hl => ?_)
    refine lv_goto (tgt := 3) hx hb dX10_push_33 (by decide) ?_
    refine lv_iload_n hx hb dX10_push_3 rfl (lv_at hl 0 rfl) ?_
    refine lv_if_lt (tgt := 36) hx hb dX10_push_4 (by decide) (fun c_6 => ?_) (fun c_6 => ?_)
    · exact absurd c_6 (by decide)
    · skip
      refine lv_aload_n hx hb dX10_push_7 rfl (lv_at hl 1 rfl) ?_
      refine gt_MD_MD_tape hx hb hts hown hK hP lwd_155 dX10_push_8 ?_
      refine lv_aload_n hx hb dX10_push_11 rfl (lv_at hl 1 rfl) ?_
      refine gt_MD_MD_taped hx hb hts hown hK hP lwd_298 dX10_push_12 ?_
      refine lv_iload_n hx hb dX10_push_15 rfl (lv_at hl 2 rfl) ?_
      refine lv_iload_n hx hb dX10_push_16 rfl (lv_at hl 0 rfl) ?_
      refine lv_ishr hx hb dX10_push_17 ?_
      refine lv_topi (fun n_7 en_7 => ?_)
      have tn_7 : n_7.toInt = x.toInt / 65536 := i_shr 16 en_7 (rfl : x.toInt = x.toInt) (by decide) (by decide)
      skip
      obtain ⟨n_8, en_8⟩ : ∃ y : Int32, y = n_7.toInt8.toInt32 := ⟨_, rfl⟩
      refine lv_i2b (v := n_8) hx hb dX10_push_18 en_8.symm ?_
      refine as_m_tape (x := n_8) hx hb hK hP hD hS rf_4 (i_in tn_5 (by omega) (by omega)) dX10_push_19 (fun f_9 ef_9 rf_9 H locs hP hD hS => ?_)
      have nsn_8 : vp_nar .byte n_8 = s8 x 16 := by rw [en_8, en_7]; exact nar_s8 x 16
      refine lv_aload_n hx hb dX10_push_20 rfl (lv_at hl 1 rfl) ?_
      refine lv_dup hx hb dX10_push_21 rfl ?_
      refine gt_MD_MD_taped hx hb hts hown hK hP lwd_298 dX10_push_22 ?_
      refine lv_iconst (v := 1) hx hb dX10_push_25 (by decide) ?_
      refine lv_iadd hx hb dX10_push_26 ?_
      refine lv_topi (fun n_10 en_10 => ?_)
      have tn_10 : n_10.toInt = (v_taped.toInt + 1) + 1 := i_add en_10 tn_5 (by decide : (1 : Int32).toInt = 1) (by omega) (by omega)
      refine pt_MD_MD_taped (x := n_10) hx hb hts hown hK hP hD hS lwd_298 dX10_push_27 (fun H locs hP hD hS => ?_)
      refine lv_iinc (v := 8) (lv' := [(2, .int 8), (0, .ref (hm 0)), (1, .int x)]) hx hb dX10_push_30 hl (k := 0) rfl (by decide) (by decide) rfl (fun ls hl => ?_)
      refine lv_goto (tgt := 3) hx hb dX10_push_33 (by decide) ?_
      refine lv_iload_n hx hb dX10_push_3 rfl (lv_at hl 0 rfl) ?_
      refine lv_if_lt (tgt := 36) hx hb dX10_push_4 (by decide) (fun c_11 => ?_) (fun c_11 => ?_)
      · exact absurd c_11 (by decide)
      · skip
        refine lv_aload_n hx hb dX10_push_7 rfl (lv_at hl 1 rfl) ?_
        refine gt_MD_MD_tape hx hb hts hown hK hP lwd_155 dX10_push_8 ?_
        refine lv_aload_n hx hb dX10_push_11 rfl (lv_at hl 1 rfl) ?_
        refine gt_MD_MD_taped hx hb hts hown hK hP lwd_298 dX10_push_12 ?_
        refine lv_iload_n hx hb dX10_push_15 rfl (lv_at hl 2 rfl) ?_
        refine lv_iload_n hx hb dX10_push_16 rfl (lv_at hl 0 rfl) ?_
        refine lv_ishr hx hb dX10_push_17 ?_
        refine lv_topi (fun n_12 en_12 => ?_)
        have tn_12 : n_12.toInt = x.toInt / 256 := i_shr 8 en_12 (rfl : x.toInt = x.toInt) (by decide) (by decide)
        skip
        obtain ⟨n_13, en_13⟩ : ∃ y : Int32, y = n_12.toInt8.toInt32 := ⟨_, rfl⟩
        refine lv_i2b (v := n_13) hx hb dX10_push_18 en_13.symm ?_
        refine as_m_tape (x := n_13) hx hb hK hP hD hS rf_9 (i_in tn_10 (by omega) (by omega)) dX10_push_19 (fun f_14 ef_14 rf_14 H locs hP hD hS => ?_)
        have nsn_13 : vp_nar .byte n_13 = s8 x 8 := by rw [en_13, en_12]; exact nar_s8 x 8
        refine lv_aload_n hx hb dX10_push_20 rfl (lv_at hl 1 rfl) ?_
        refine lv_dup hx hb dX10_push_21 rfl ?_
        refine gt_MD_MD_taped hx hb hts hown hK hP lwd_298 dX10_push_22 ?_
        refine lv_iconst (v := 1) hx hb dX10_push_25 (by decide) ?_
        refine lv_iadd hx hb dX10_push_26 ?_
        refine lv_topi (fun n_15 en_15 => ?_)
        have tn_15 : n_15.toInt = ((v_taped.toInt + 1) + 1) + 1 := i_add en_15 tn_10 (by decide : (1 : Int32).toInt = 1) (by omega) (by omega)
        refine pt_MD_MD_taped (x := n_15) hx hb hts hown hK hP hD hS lwd_298 dX10_push_27 (fun H locs hP hD hS => ?_)
        refine lv_iinc (v := 0) (lv' := [(2, .int 0), (0, .ref (hm 0)), (1, .int x)]) hx hb dX10_push_30 hl (k := 0) rfl (by decide) (by decide) rfl (fun ls hl => ?_)
        refine lv_goto (tgt := 3) hx hb dX10_push_33 (by decide) ?_
        refine lv_iload_n hx hb dX10_push_3 rfl (lv_at hl 0 rfl) ?_
        refine lv_if_lt (tgt := 36) hx hb dX10_push_4 (by decide) (fun c_16 => ?_) (fun c_16 => ?_)
        · exact absurd c_16 (by decide)
        · skip
          refine lv_aload_n hx hb dX10_push_7 rfl (lv_at hl 1 rfl) ?_
          refine gt_MD_MD_tape hx hb hts hown hK hP lwd_155 dX10_push_8 ?_
          refine lv_aload_n hx hb dX10_push_11 rfl (lv_at hl 1 rfl) ?_
          refine gt_MD_MD_taped hx hb hts hown hK hP lwd_298 dX10_push_12 ?_
          refine lv_iload_n hx hb dX10_push_15 rfl (lv_at hl 2 rfl) ?_
          refine lv_iload_n hx hb dX10_push_16 rfl (lv_at hl 0 rfl) ?_
          refine lv_ishr hx hb dX10_push_17 ?_
          refine lv_topi (fun n_17 en_17 => ?_)
          have tn_17 : n_17.toInt = x.toInt / 1 := i_shr 0 en_17 (rfl : x.toInt = x.toInt) (by decide) (by decide)
          skip
          obtain ⟨n_18, en_18⟩ : ∃ y : Int32, y = n_17.toInt8.toInt32 := ⟨_, rfl⟩
          refine lv_i2b (v := n_18) hx hb dX10_push_18 en_18.symm ?_
          refine as_m_tape (x := n_18) hx hb hK hP hD hS rf_14 (i_in tn_15 (by omega) (by omega)) dX10_push_19 (fun f_19 ef_19 rf_19 H locs hP hD hS => ?_)
          have nsn_18 : vp_nar .byte n_18 = s8 x 0 := by rw [en_18, en_17]; exact nar_s8 x 0
          refine lv_aload_n hx hb dX10_push_20 rfl (lv_at hl 1 rfl) ?_
          refine lv_dup hx hb dX10_push_21 rfl ?_
          refine gt_MD_MD_taped hx hb hts hown hK hP lwd_298 dX10_push_22 ?_
          refine lv_iconst (v := 1) hx hb dX10_push_25 (by decide) ?_
          refine lv_iadd hx hb dX10_push_26 ?_
          refine lv_topi (fun n_20 en_20 => ?_)
          have tn_20 : n_20.toInt = (((v_taped.toInt + 1) + 1) + 1) + 1 := i_add en_20 tn_15 (by decide : (1 : Int32).toInt = 1) (by omega) (by omega)
          refine pt_MD_MD_taped (x := n_20) hx hb hts hown hK hP hD hS lwd_298 dX10_push_27 (fun H locs hP hD hS => ?_)
          refine lv_iinc (v := (-8)) (lv' := [(2, .int (-8)), (0, .ref (hm 0)), (1, .int x)]) hx hb dX10_push_30 hl (k := 0) rfl (by decide) (by decide) rfl (fun ls hl => ?_)
          refine lv_goto (tgt := 3) hx hb dX10_push_33 (by decide) ?_
          refine lv_iload_n hx hb dX10_push_3 rfl (lv_at hl 0 rfl) ?_
          refine lv_if_lt (tgt := 36) hx hb dX10_push_4 (by decide) (fun c_21 => ?_) (fun c_21 => ?_)
          · skip
            exact hrt n_20 f_19 ⟨(by omega), (by
              unfold ps4
              rw [ef_19, ef_14, ef_9, ef_4, show n_5.toNatClampNeg = v_taped.toNatClampNeg + 1 from by rw [i_ix tn_5, i_ix (rfl : v_taped.toInt = v_taped.toInt)]; omega, show n_10.toNatClampNeg = v_taped.toNatClampNeg + 2 from by rw [i_ix tn_10, i_ix (rfl : v_taped.toInt = v_taped.toInt)]; omega, show n_15.toNatClampNeg = v_taped.toNatClampNeg + 3 from by rw [i_ix tn_15, i_ix (rfl : v_taped.toInt = v_taped.toInt)]; omega, nsn_3, nsn_8, nsn_13, nsn_18]), (by omega), rf_19⟩ hP hD hS dX10_push_36
          · exact absurd c_21 (by decide)
set_option maxHeartbeats 16000000 in
set_option maxRecDepth 100000 in
theorem c_X10_feed_q (l : Launch) (D : va_G) (cy : Nat → ClassId) (hm : Nat → Nat) (v_taped v_walkers v_loads v_pieces v_changeCosts v_planned v_isMarch v_clauseMany v_place v_end v_bad v_clauses v_codes v_open v_stacked v_isOver v_isBehind v_atW v_atL v_atT v_atH v_atM v_atI v_atQ v_packing v_packed v_goPace v_goMinutes v_spentAt v_ranChanges : Int32) (f_m_tape f_m_knee f_m_weight f_m_isLame f_m_loadWeight f_m_owner f_m_food f_m_miles f_m_slope f_m_clauseLetter f_m_sumFrom f_m_codeFrom f_m_codeTo f_m_code f_m_codeArg f_m_newLetter f_m_newSum f_m_newFrom f_m_newTo f_m_newCode f_m_newArg f_m_stack f_m_worth f_m_isRefused f_m_least f_m_packPounds f_m_packOwner f_m_room f_m_givenTo f_m_canBe f_m_setPounds f_m_plainTime f_m_muleTime f_m_planTo f_m_march f_m_tired f_m_ranMinutes f_m_tiredAhead f_m_isReached f_m_toEnd f_m_upTo f_m_upNext f_m_byChanges f_m_bandPaces : Nat → Int32) (sz : Nat) (a1 : Int32) (a2 : Int32) (a3 : Int32) (a4 : Int32) (a5 : Int32) (hb_v_taped : 0 ≤ v_taped.toInt ∧ v_taped.toInt ≤ 220) (hr_m_tape : rg (-128) 127 f_m_tape) : gMi l yX10_feed cX10_feed 6 .int 2 [.ref (hm 0), .int a1, .int a2, .int a3, .int a4, .int a5] D cy (wMD cy hm v_taped v_walkers v_loads v_pieces v_changeCosts v_planned v_isMarch v_clauseMany v_place v_end v_bad v_clauses v_codes v_open v_stacked v_isOver v_isBehind v_atW v_atL v_atT v_atH v_atM v_atI v_atQ v_packing v_packed v_goPace v_goMinutes v_spentAt v_ranChanges f_m_tape f_m_knee f_m_weight f_m_isLame f_m_loadWeight f_m_owner f_m_food f_m_miles f_m_slope f_m_clauseLetter f_m_sumFrom f_m_codeFrom f_m_codeTo f_m_code f_m_codeArg f_m_newLetter f_m_newSum f_m_newFrom f_m_newTo f_m_newCode f_m_newArg f_m_stack f_m_worth f_m_isRefused f_m_least f_m_packPounds f_m_packOwner f_m_room f_m_givenTo f_m_canBe f_m_setPounds f_m_plainTime f_m_muleTime f_m_planTo f_m_march f_m_tired f_m_ranMinutes f_m_tiredAhead f_m_isReached f_m_toEnd f_m_upTo f_m_upNext f_m_byChanges f_m_bandPaces) NT sz (fun (r : Int32) (u : Int32 × (Nat → Int32)) => ((r.toInt = v_taped.toInt + 20 ∧ v_taped.toInt ≤ 200 ∧ (u.1).toInt = v_taped.toInt + 20) ∨ (r.toInt = -1 ∧ 200 < v_taped.toInt ∧ (u.1).toInt = v_taped.toInt)) ∧ ((r.toInt ≠ -1 → (u.2) = (ps4 (ps4 (ps4 (ps4 (ps4 f_m_tape v_taped.toNatClampNeg a1) (v_taped.toNatClampNeg + 4) a2) (v_taped.toNatClampNeg + 8) a3) (v_taped.toNatClampNeg + 12) a4) (v_taped.toNatClampNeg + 16) a5)) ∧ (r.toInt = -1 → (u.2) = f_m_tape)) ∧ (0 ≤ (u.1).toInt ∧ (u.1).toInt ≤ 220) ∧ (rg (-128) 127 (u.2))) (fun u => wMD cy hm (u.1) v_walkers v_loads v_pieces v_changeCosts v_planned v_isMarch v_clauseMany v_place v_end v_bad v_clauses v_codes v_open v_stacked v_isOver v_isBehind v_atW v_atL v_atT v_atH v_atM v_atI v_atQ v_packing v_packed v_goPace v_goMinutes v_spentAt v_ranChanges (u.2) f_m_knee f_m_weight f_m_isLame f_m_loadWeight f_m_owner f_m_food f_m_miles f_m_slope f_m_clauseLetter f_m_sumFrom f_m_codeFrom f_m_codeTo f_m_code f_m_codeArg f_m_newLetter f_m_newSum f_m_newFrom f_m_newTo f_m_newCode f_m_newArg f_m_stack f_m_worth f_m_isRefused f_m_least f_m_packPounds f_m_packOwner f_m_room f_m_givenTo f_m_canBe f_m_setPounds f_m_plainTime f_m_muleTime f_m_planTo f_m_march f_m_tired f_m_ranMinutes f_m_tiredAhead f_m_isReached f_m_toEnd f_m_upTo f_m_upNext f_m_byChanges f_m_bandPaces) := by
  refine gMi_in (by decide) (Nat.le_of_ble_eq_true rfl) ?_
  intro p e s m args below meth c A ls Q hx hb hml hts hown hsz hP hK hD hN hAe hA hS hl hret
  subst hsz
  have hl : lv_has ls 6 [(0, .ref (hm 0)), (1, .int a1), (2, .int a2), (3, .int a3), (4, .int a4), (5, .int a5)] := hl
  have hrt := fun (r : Int32) (v_taped' : Int32) (f_m_tape' : Nat → Int32) (hp : ((r.toInt = v_taped.toInt + 20 ∧ v_taped.toInt ≤ 200 ∧ v_taped'.toInt = v_taped.toInt + 20) ∨ (r.toInt = -1 ∧ 200 < v_taped.toInt ∧ v_taped'.toInt = v_taped.toInt)) ∧ ((r.toInt ≠ -1 → f_m_tape' = (ps4 (ps4 (ps4 (ps4 (ps4 f_m_tape v_taped.toNatClampNeg a1) (v_taped.toNatClampNeg + 4) a2) (v_taped.toNatClampNeg + 8) a3) (v_taped.toNatClampNeg + 12) a4) (v_taped.toNatClampNeg + 16) a5)) ∧ (r.toInt = -1 → f_m_tape' = f_m_tape)) ∧ (0 ≤ v_taped'.toInt ∧ v_taped'.toInt ≤ 220) ∧ (rg (-128) 127 f_m_tape')) {H : Heap} {locs : List Loc} {pc : Nat} {ls : Array Slot} => hret r (v_taped', f_m_tape') (H := H) (locs := locs) (pc := pc) (ls := ls) hp
  clear hret
  refine lv_aload_n hx hb dX10_feed_0 rfl (lv_at hl 0 rfl) ?_
  refine gt_MD_MD_taped hx hb hts hown hK hP lwd_298 dX10_feed_1 ?_
  refine lv_bipush (v := 20) hx hb dX10_feed_4 (by decide) ?_
  refine lv_iadd hx hb dX10_feed_6 ?_
  refine lv_topi (fun n_1 en_1 => ?_)
  have tn_1 : n_1.toInt = v_taped.toInt + 20 := i_add en_1 (rfl : v_taped.toInt = v_taped.toInt) (by decide : (20 : Int32).toInt = 20) (by omega) (by omega)
  refine lv_sipush (v := 220) hx hb dX10_feed_7 (by decide) ?_
  refine lv_icmp_le (tgt := 15) hx hb dX10_feed_10 (by decide) (fun c_2 => ?_) (fun c_2 => ?_)
  · have gc_2 : v_taped.toInt + 20 ≤ 220 := i_le tn_1 (by decide : (220 : Int32).toInt = 220) c_2
    refine lv_aload_n hx hb dX10_feed_15 rfl (lv_at hl 0 rfl) ?_
    refine lv_iload_n hx hb dX10_feed_16 rfl (lv_at hl 1 rfl) ?_
    refine xv hD hS hA (xV (As := [.int a1]) (rest := []) hx hb hml hown hts hK hP hD hS hA NT_ok hN hAe hl.1 ⟨Nat.le_refl _, Nat.le_refl _⟩ 0 rfl rfl rfl (c_X10_push_q l D cy hm v_taped v_walkers v_loads v_pieces v_changeCosts v_planned v_isMarch v_clauseMany v_place v_end v_bad v_clauses v_codes v_open v_stacked v_isOver v_isBehind v_atW v_atL v_atT v_atH v_atM v_atI v_atQ v_packing v_packed v_goPace v_goMinutes v_spentAt v_ranChanges f_m_tape f_m_knee f_m_weight f_m_isLame f_m_loadWeight f_m_owner f_m_food f_m_miles f_m_slope f_m_clauseLetter f_m_sumFrom f_m_codeFrom f_m_codeTo f_m_code f_m_codeArg f_m_newLetter f_m_newSum f_m_newFrom f_m_newTo f_m_newCode f_m_newArg f_m_stack f_m_worth f_m_isRefused f_m_least f_m_packPounds f_m_packOwner f_m_room f_m_givenTo f_m_canBe f_m_setPounds f_m_plainTime f_m_muleTime f_m_planTo f_m_march f_m_tired f_m_ranMinutes f_m_tiredAhead f_m_isReached f_m_toEnd f_m_upTo f_m_upNext f_m_byChanges f_m_bandPaces s.heap.size a1 (by omega) hr_m_tape (by omega)) (gi_V lwd_299 lwd_300 lwd_301 lwd_5 lwd_302) ⟨rfl, hd_X10_push⟩ ⟨Nat.le_of_ble_eq_true rfl, Nat.le_of_ble_eq_true rfl⟩ rfl (Nat.le_of_ble_eq_true rfl) dX10_feed_17) (fun u_3 H locs hw hP hD hS => ?_)
    obtain ⟨ztaped_5, ztape_6⟩ := u_3
    try dsimp only at hw hP hD
    obtain ⟨p_7, p_8, p_9, p_10⟩ := hw
    skip
    refine lv_aload_n hx hb dX10_feed_20 rfl (lv_at hl 0 rfl) ?_
    refine lv_iload_n hx hb dX10_feed_21 rfl (lv_at hl 2 rfl) ?_
    refine xv hD hS hA (xV (As := [.int a2]) (rest := []) hx hb hml hown hts hK hP hD hS hA NT_ok hN hAe hl.1 ⟨Nat.le_refl _, Nat.le_refl _⟩ 0 rfl rfl rfl (c_X10_push_q l D cy hm ztaped_5 v_walkers v_loads v_pieces v_changeCosts v_planned v_isMarch v_clauseMany v_place v_end v_bad v_clauses v_codes v_open v_stacked v_isOver v_isBehind v_atW v_atL v_atT v_atH v_atM v_atI v_atQ v_packing v_packed v_goPace v_goMinutes v_spentAt v_ranChanges ztape_6 f_m_knee f_m_weight f_m_isLame f_m_loadWeight f_m_owner f_m_food f_m_miles f_m_slope f_m_clauseLetter f_m_sumFrom f_m_codeFrom f_m_codeTo f_m_code f_m_codeArg f_m_newLetter f_m_newSum f_m_newFrom f_m_newTo f_m_newCode f_m_newArg f_m_stack f_m_worth f_m_isRefused f_m_least f_m_packPounds f_m_packOwner f_m_room f_m_givenTo f_m_canBe f_m_setPounds f_m_plainTime f_m_muleTime f_m_planTo f_m_march f_m_tired f_m_ranMinutes f_m_tiredAhead f_m_isReached f_m_toEnd f_m_upTo f_m_upNext f_m_byChanges f_m_bandPaces H.size a2 (by omega) p_10 (by omega)) (gi_V lwd_299 lwd_300 lwd_301 lwd_5 lwd_302) ⟨rfl, hd_X10_push⟩ ⟨Nat.le_of_ble_eq_true rfl, Nat.le_of_ble_eq_true rfl⟩ rfl (Nat.le_of_ble_eq_true rfl) dX10_feed_22) (fun u_11 H locs hw hP hD hS => ?_)
    obtain ⟨ztaped_13, ztape_14⟩ := u_11
    try dsimp only at hw hP hD
    obtain ⟨p_15, p_16, p_17, p_18⟩ := hw
    skip
    refine lv_aload_n hx hb dX10_feed_25 rfl (lv_at hl 0 rfl) ?_
    refine lv_iload_n hx hb dX10_feed_26 rfl (lv_at hl 3 rfl) ?_
    refine xv hD hS hA (xV (As := [.int a3]) (rest := []) hx hb hml hown hts hK hP hD hS hA NT_ok hN hAe hl.1 ⟨Nat.le_refl _, Nat.le_refl _⟩ 0 rfl rfl rfl (c_X10_push_q l D cy hm ztaped_13 v_walkers v_loads v_pieces v_changeCosts v_planned v_isMarch v_clauseMany v_place v_end v_bad v_clauses v_codes v_open v_stacked v_isOver v_isBehind v_atW v_atL v_atT v_atH v_atM v_atI v_atQ v_packing v_packed v_goPace v_goMinutes v_spentAt v_ranChanges ztape_14 f_m_knee f_m_weight f_m_isLame f_m_loadWeight f_m_owner f_m_food f_m_miles f_m_slope f_m_clauseLetter f_m_sumFrom f_m_codeFrom f_m_codeTo f_m_code f_m_codeArg f_m_newLetter f_m_newSum f_m_newFrom f_m_newTo f_m_newCode f_m_newArg f_m_stack f_m_worth f_m_isRefused f_m_least f_m_packPounds f_m_packOwner f_m_room f_m_givenTo f_m_canBe f_m_setPounds f_m_plainTime f_m_muleTime f_m_planTo f_m_march f_m_tired f_m_ranMinutes f_m_tiredAhead f_m_isReached f_m_toEnd f_m_upTo f_m_upNext f_m_byChanges f_m_bandPaces H.size a3 (by omega) p_18 (by omega)) (gi_V lwd_299 lwd_300 lwd_301 lwd_5 lwd_302) ⟨rfl, hd_X10_push⟩ ⟨Nat.le_of_ble_eq_true rfl, Nat.le_of_ble_eq_true rfl⟩ rfl (Nat.le_of_ble_eq_true rfl) dX10_feed_27) (fun u_19 H locs hw hP hD hS => ?_)
    obtain ⟨ztaped_21, ztape_22⟩ := u_19
    try dsimp only at hw hP hD
    obtain ⟨p_23, p_24, p_25, p_26⟩ := hw
    skip
    refine lv_aload_n hx hb dX10_feed_30 rfl (lv_at hl 0 rfl) ?_
    refine lv_iload hx hb dX10_feed_31 (lv_at hl 4 rfl) ?_
    refine xv hD hS hA (xV (As := [.int a4]) (rest := []) hx hb hml hown hts hK hP hD hS hA NT_ok hN hAe hl.1 ⟨Nat.le_refl _, Nat.le_refl _⟩ 0 rfl rfl rfl (c_X10_push_q l D cy hm ztaped_21 v_walkers v_loads v_pieces v_changeCosts v_planned v_isMarch v_clauseMany v_place v_end v_bad v_clauses v_codes v_open v_stacked v_isOver v_isBehind v_atW v_atL v_atT v_atH v_atM v_atI v_atQ v_packing v_packed v_goPace v_goMinutes v_spentAt v_ranChanges ztape_22 f_m_knee f_m_weight f_m_isLame f_m_loadWeight f_m_owner f_m_food f_m_miles f_m_slope f_m_clauseLetter f_m_sumFrom f_m_codeFrom f_m_codeTo f_m_code f_m_codeArg f_m_newLetter f_m_newSum f_m_newFrom f_m_newTo f_m_newCode f_m_newArg f_m_stack f_m_worth f_m_isRefused f_m_least f_m_packPounds f_m_packOwner f_m_room f_m_givenTo f_m_canBe f_m_setPounds f_m_plainTime f_m_muleTime f_m_planTo f_m_march f_m_tired f_m_ranMinutes f_m_tiredAhead f_m_isReached f_m_toEnd f_m_upTo f_m_upNext f_m_byChanges f_m_bandPaces H.size a4 (by omega) p_26 (by omega)) (gi_V lwd_299 lwd_300 lwd_301 lwd_5 lwd_302) ⟨rfl, hd_X10_push⟩ ⟨Nat.le_of_ble_eq_true rfl, Nat.le_of_ble_eq_true rfl⟩ rfl (Nat.le_of_ble_eq_true rfl) dX10_feed_33) (fun u_27 H locs hw hP hD hS => ?_)
    obtain ⟨ztaped_29, ztape_30⟩ := u_27
    try dsimp only at hw hP hD
    obtain ⟨p_31, p_32, p_33, p_34⟩ := hw
    skip
    refine lv_aload_n hx hb dX10_feed_36 rfl (lv_at hl 0 rfl) ?_
    refine lv_iload hx hb dX10_feed_37 (lv_at hl 5 rfl) ?_
    refine xv hD hS hA (xV (As := [.int a5]) (rest := []) hx hb hml hown hts hK hP hD hS hA NT_ok hN hAe hl.1 ⟨Nat.le_refl _, Nat.le_refl _⟩ 0 rfl rfl rfl (c_X10_push_q l D cy hm ztaped_29 v_walkers v_loads v_pieces v_changeCosts v_planned v_isMarch v_clauseMany v_place v_end v_bad v_clauses v_codes v_open v_stacked v_isOver v_isBehind v_atW v_atL v_atT v_atH v_atM v_atI v_atQ v_packing v_packed v_goPace v_goMinutes v_spentAt v_ranChanges ztape_30 f_m_knee f_m_weight f_m_isLame f_m_loadWeight f_m_owner f_m_food f_m_miles f_m_slope f_m_clauseLetter f_m_sumFrom f_m_codeFrom f_m_codeTo f_m_code f_m_codeArg f_m_newLetter f_m_newSum f_m_newFrom f_m_newTo f_m_newCode f_m_newArg f_m_stack f_m_worth f_m_isRefused f_m_least f_m_packPounds f_m_packOwner f_m_room f_m_givenTo f_m_canBe f_m_setPounds f_m_plainTime f_m_muleTime f_m_planTo f_m_march f_m_tired f_m_ranMinutes f_m_tiredAhead f_m_isReached f_m_toEnd f_m_upTo f_m_upNext f_m_byChanges f_m_bandPaces H.size a5 (by omega) p_34 (by omega)) (gi_V lwd_299 lwd_300 lwd_301 lwd_5 lwd_302) ⟨rfl, hd_X10_push⟩ ⟨Nat.le_of_ble_eq_true rfl, Nat.le_of_ble_eq_true rfl⟩ rfl (Nat.le_of_ble_eq_true rfl) dX10_feed_39) (fun u_35 H locs hw hP hD hS => ?_)
    obtain ⟨ztaped_37, ztape_38⟩ := u_35
    try dsimp only at hw hP hD
    obtain ⟨p_39, p_40, p_41, p_42⟩ := hw
    skip
    refine lv_aload_n hx hb dX10_feed_42 rfl (lv_at hl 0 rfl) ?_
    refine gt_MD_MD_taped hx hb hts hown hK hP lwd_298 dX10_feed_43 ?_
    exact hrt ztaped_37 ztaped_37 ztape_38 ⟨(by omega), ⟨fun _ => by
      rw [p_40, p_32, p_24, p_16, p_8, show ztaped_5.toNatClampNeg = v_taped.toNatClampNeg + 4 from by rw [i_ix (rfl : ztaped_5.toInt = ztaped_5.toInt), i_ix (rfl : v_taped.toInt = v_taped.toInt)]; omega, show ztaped_13.toNatClampNeg = v_taped.toNatClampNeg + 8 from by rw [i_ix (rfl : ztaped_13.toInt = ztaped_13.toInt), i_ix (rfl : v_taped.toInt = v_taped.toInt)]; omega, show ztaped_21.toNatClampNeg = v_taped.toNatClampNeg + 12 from by rw [i_ix (rfl : ztaped_21.toInt = ztaped_21.toInt), i_ix (rfl : v_taped.toInt = v_taped.toInt)]; omega, show ztaped_29.toNatClampNeg = v_taped.toNatClampNeg + 16 from by rw [i_ix (rfl : ztaped_29.toInt = ztaped_29.toInt), i_ix (rfl : v_taped.toInt = v_taped.toInt)]; omega], fun h => absurd h (by omega)⟩, (by omega), p_42⟩ hP hD hS rfl dX10_feed_46
  · have gc_2 : 220 < v_taped.toInt + 20 := i_nle tn_1 (by decide : (220 : Int32).toInt = 220) c_2
    refine lv_iconst (v := (-1)) hx hb dX10_feed_13 (by decide) ?_
    have k_43 : ((-1) : Int32).toInt = (-1) := by decide
    exact hrt (-1) v_taped f_m_tape ⟨(by omega), ⟨fun h => absurd h (by omega), fun _ => rfl⟩, (by omega), hr_m_tape⟩ hP hD hS rfl dX10_feed_14
set_option maxHeartbeats 16000000 in
set_option maxRecDepth 100000 in
theorem c_X10_check_q (l : Launch) (D : va_G) (cy : Nat → ClassId) (hm : Nat → Nat) (v_taped v_walkers v_loads v_pieces v_changeCosts v_planned v_isMarch v_clauseMany v_place v_end v_bad v_clauses v_codes v_open v_stacked v_isOver v_isBehind v_atW v_atL v_atT v_atH v_atM v_atI v_atQ v_packing v_packed v_goPace v_goMinutes v_spentAt v_ranChanges : Int32) (f_m_tape f_m_knee f_m_weight f_m_isLame f_m_loadWeight f_m_owner f_m_food f_m_miles f_m_slope f_m_clauseLetter f_m_sumFrom f_m_codeFrom f_m_codeTo f_m_code f_m_codeArg f_m_newLetter f_m_newSum f_m_newFrom f_m_newTo f_m_newCode f_m_newArg f_m_stack f_m_worth f_m_isRefused f_m_least f_m_packPounds f_m_packOwner f_m_room f_m_givenTo f_m_canBe f_m_setPounds f_m_plainTime f_m_muleTime f_m_planTo f_m_march f_m_tired f_m_ranMinutes f_m_tiredAhead f_m_isReached f_m_toEnd f_m_upTo f_m_upNext f_m_byChanges f_m_bandPaces : Nat → Int32) (sz : Nat) (n1 : Int32) (hb_v_taped : 0 ≤ v_taped.toInt ∧ v_taped.toInt ≤ 220) (hb_v_walkers : 0 ≤ v_walkers.toInt ∧ v_walkers.toInt ≤ 6) (hb_v_loads : 0 ≤ v_loads.toInt ∧ v_loads.toInt ≤ 9) (hb_v_pieces : 0 ≤ v_pieces.toInt ∧ v_pieces.toInt ≤ 10) (hb_v_isMarch : 0 ≤ v_isMarch.toInt ∧ v_isMarch.toInt ≤ 1) (hb_v_clauseMany : 0 ≤ v_clauseMany.toInt ∧ v_clauseMany.toInt ≤ 14) (hb_v_atW : 0 ≤ v_atW.toInt ∧ v_atW.toInt ≤ 5) (hb_v_goPace : 0 ≤ v_goPace.toInt ∧ v_goPace.toInt ≤ 60) (hb_v_spentAt : -1 ≤ v_spentAt.toInt ∧ v_spentAt.toInt ≤ 9) (hr_m_tape : rg (-128) 127 f_m_tape) (hr_m_weight : rg (0) 250 f_m_weight) (hr_m_isLame : rg (0) 1 f_m_isLame) (hr_m_loadWeight : rg (0) 120 f_m_loadWeight) (hr_m_food : rg (0) 20 f_m_food) (hr_m_miles : rg (0) 20 f_m_miles) (hr_m_isRefused : rg (0) 1 f_m_isRefused) (hr_m_march : rg (0) 17 f_m_march) (hr_m_tired : rg (0) 5 f_m_tired) (hr_m_tiredAhead : rg (0) 46655 f_m_tiredAhead) (hwf : wfC v_clauseMany f_m_sumFrom f_m_codeFrom f_m_codeTo f_m_code) : gMi l yX10_check cX10_check 3 .int 9 [.ref (hm 0), .int n1] D cy (wMD cy hm v_taped v_walkers v_loads v_pieces v_changeCosts v_planned v_isMarch v_clauseMany v_place v_end v_bad v_clauses v_codes v_open v_stacked v_isOver v_isBehind v_atW v_atL v_atT v_atH v_atM v_atI v_atQ v_packing v_packed v_goPace v_goMinutes v_spentAt v_ranChanges f_m_tape f_m_knee f_m_weight f_m_isLame f_m_loadWeight f_m_owner f_m_food f_m_miles f_m_slope f_m_clauseLetter f_m_sumFrom f_m_codeFrom f_m_codeTo f_m_code f_m_codeArg f_m_newLetter f_m_newSum f_m_newFrom f_m_newTo f_m_newCode f_m_newArg f_m_stack f_m_worth f_m_isRefused f_m_least f_m_packPounds f_m_packOwner f_m_room f_m_givenTo f_m_canBe f_m_setPounds f_m_plainTime f_m_muleTime f_m_planTo f_m_march f_m_tired f_m_ranMinutes f_m_tiredAhead f_m_isReached f_m_toEnd f_m_upTo f_m_upNext f_m_byChanges f_m_bandPaces) NT sz (fun (r : Int32) (u : Int32 × Int32 × Int32 × Int32 × Int32 × Int32 × Int32 × Int32 × Int32 × Int32 × Int32 × Int32 × (Nat → Int32) × (Nat → Int32) × (Nat → Int32) × (Nat → Int32) × (Nat → Int32)) => (((v_isMarch.toInt ≠ 0 ∧ 0 ≤ n1.toInt ∧ n1.toInt ≤ v_taped.toInt / 4) ∧ (u.1).toInt = 0) ∨ (¬ (v_isMarch.toInt ≠ 0 ∧ 0 ≤ n1.toInt ∧ n1.toInt ≤ v_taped.toInt / 4) ∧ (u.1).toInt = v_taped.toInt)) ∧ (0 ≤ (u.1).toInt ∧ (u.1).toInt ≤ 220) ∧ (0 ≤ (u.2.1).toInt ∧ (u.2.1).toInt ≤ 5) ∧ (0 ≤ (u.2.2.2.2.2.2.2.2.1).toInt ∧ (u.2.2.2.2.2.2.2.2.1).toInt ≤ 60) ∧ (-1 ≤ (u.2.2.2.2.2.2.2.2.2.2.1).toInt ∧ (u.2.2.2.2.2.2.2.2.2.2.1).toInt ≤ 9) ∧ (rg (0) 1 (u.2.2.2.2.2.2.2.2.2.2.2.2.2.1)) ∧ (rg (0) 5 (u.2.2.2.2.2.2.2.2.2.2.2.2.2.2.1)) ∧ (rg (0) 46655 (u.2.2.2.2.2.2.2.2.2.2.2.2.2.2.2.2))) (fun u => wMD cy hm (u.1) v_walkers v_loads v_pieces v_changeCosts v_planned v_isMarch v_clauseMany v_place v_end v_bad v_clauses v_codes v_open v_stacked v_isOver v_isBehind (u.2.1) (u.2.2.1) (u.2.2.2.1) (u.2.2.2.2.1) (u.2.2.2.2.2.1) (u.2.2.2.2.2.2.1) (u.2.2.2.2.2.2.2.1) v_packing v_packed (u.2.2.2.2.2.2.2.2.1) (u.2.2.2.2.2.2.2.2.2.1) (u.2.2.2.2.2.2.2.2.2.2.1) (u.2.2.2.2.2.2.2.2.2.2.2.1) f_m_tape f_m_knee f_m_weight f_m_isLame f_m_loadWeight f_m_owner f_m_food f_m_miles f_m_slope f_m_clauseLetter f_m_sumFrom f_m_codeFrom f_m_codeTo f_m_code f_m_codeArg f_m_newLetter f_m_newSum f_m_newFrom f_m_newTo f_m_newCode f_m_newArg f_m_stack (u.2.2.2.2.2.2.2.2.2.2.2.2.1) (u.2.2.2.2.2.2.2.2.2.2.2.2.2.1) f_m_least f_m_packPounds f_m_packOwner f_m_room f_m_givenTo f_m_canBe f_m_setPounds f_m_plainTime f_m_muleTime f_m_planTo f_m_march (u.2.2.2.2.2.2.2.2.2.2.2.2.2.2.1) (u.2.2.2.2.2.2.2.2.2.2.2.2.2.2.2.1) (u.2.2.2.2.2.2.2.2.2.2.2.2.2.2.2.2) f_m_isReached f_m_toEnd f_m_upTo f_m_upNext f_m_byChanges f_m_bandPaces) := by
  refine gMi_in (by decide) (Nat.le_of_ble_eq_true rfl) ?_
  intro p e s m args below meth c A ls Q hx hb hml hts hown hsz hP hK hD hN hAe hA hS hl hret
  subst hsz
  have hl : lv_has ls 3 [(0, .ref (hm 0)), (1, .int n1)] := hl
  have hrt := fun (r : Int32) (v_taped' : Int32) (v_atW' : Int32) (v_atL' : Int32) (v_atT' : Int32) (v_atH' : Int32) (v_atM' : Int32) (v_atI' : Int32) (v_atQ' : Int32) (v_goPace' : Int32) (v_goMinutes' : Int32) (v_spentAt' : Int32) (v_ranChanges' : Int32) (f_m_worth' : Nat → Int32) (f_m_isRefused' : Nat → Int32) (f_m_tired' : Nat → Int32) (f_m_ranMinutes' : Nat → Int32) (f_m_tiredAhead' : Nat → Int32) (hp : (((v_isMarch.toInt ≠ 0 ∧ 0 ≤ n1.toInt ∧ n1.toInt ≤ v_taped.toInt / 4) ∧ v_taped'.toInt = 0) ∨ (¬ (v_isMarch.toInt ≠ 0 ∧ 0 ≤ n1.toInt ∧ n1.toInt ≤ v_taped.toInt / 4) ∧ v_taped'.toInt = v_taped.toInt)) ∧ (0 ≤ v_taped'.toInt ∧ v_taped'.toInt ≤ 220) ∧ (0 ≤ v_atW'.toInt ∧ v_atW'.toInt ≤ 5) ∧ (0 ≤ v_goPace'.toInt ∧ v_goPace'.toInt ≤ 60) ∧ (-1 ≤ v_spentAt'.toInt ∧ v_spentAt'.toInt ≤ 9) ∧ (rg (0) 1 f_m_isRefused') ∧ (rg (0) 5 f_m_tired') ∧ (rg (0) 46655 f_m_tiredAhead')) {H : Heap} {locs : List Loc} {pc : Nat} {ls : Array Slot} => hret r (v_taped', v_atW', v_atL', v_atT', v_atH', v_atM', v_atI', v_atQ', v_goPace', v_goMinutes', v_spentAt', v_ranChanges', f_m_worth', f_m_isRefused', f_m_tired', f_m_ranMinutes', f_m_tiredAhead') (H := H) (locs := locs) (pc := pc) (ls := ls) hp
  clear hret
  refine lv_aload_n hx hb dX10_check_0 rfl (lv_at hl 0 rfl) ?_
  refine gt_MD_MD_isMarch hx hb hts hown hK hP lwd_225 dX10_check_1 ?_
  refine lv_if_eq (tgt := 21) hx hb dX10_check_4 (by decide) (fun c_1 => ?_) (fun c_1 => ?_)
  · have gc_1 : v_isMarch.toInt = 0 := i_eq (rfl : v_isMarch.toInt = v_isMarch.toInt) (by decide : (0 : Int32).toInt = 0) c_1
    refine lv_bipush (v := (-2)) hx hb dX10_check_21 (by decide) ?_
    have k_2 : ((-2) : Int32).toInt = (-2) := by decide
    exact hrt (-2) v_taped v_atW v_atL v_atT v_atH v_atM v_atI v_atQ v_goPace v_goMinutes v_spentAt v_ranChanges f_m_worth f_m_isRefused f_m_tired f_m_ranMinutes f_m_tiredAhead ⟨(by omega), (by omega), (by omega), (by omega), (by omega), hr_m_isRefused, hr_m_tired, hr_m_tiredAhead⟩ hP hD hS rfl dX10_check_23
  · have gc_1 : v_isMarch.toInt ≠ 0 := i_ne (rfl : v_isMarch.toInt = v_isMarch.toInt) (by decide : (0 : Int32).toInt = 0) c_1
    refine lv_iload_n hx hb dX10_check_7 rfl (lv_at hl 1 rfl) ?_
    refine lv_if_lt (tgt := 21) hx hb dX10_check_8 (by decide) (fun c_3 => ?_) (fun c_3 => ?_)
    · have gc_3 : n1.toInt < 0 := i_lt (rfl : n1.toInt = n1.toInt) (by decide : (0 : Int32).toInt = 0) c_3
      refine lv_bipush (v := (-2)) hx hb dX10_check_21 (by decide) ?_
      have k_4 : ((-2) : Int32).toInt = (-2) := by decide
      exact hrt (-2) v_taped v_atW v_atL v_atT v_atH v_atM v_atI v_atQ v_goPace v_goMinutes v_spentAt v_ranChanges f_m_worth f_m_isRefused f_m_tired f_m_ranMinutes f_m_tiredAhead ⟨(by omega), (by omega), (by omega), (by omega), (by omega), hr_m_isRefused, hr_m_tired, hr_m_tiredAhead⟩ hP hD hS rfl dX10_check_23
    · have gc_3 : 0 ≤ n1.toInt := i_nlt (rfl : n1.toInt = n1.toInt) (by decide : (0 : Int32).toInt = 0) c_3
      refine lv_iload_n hx hb dX10_check_11 rfl (lv_at hl 1 rfl) ?_
      refine lv_aload_n hx hb dX10_check_12 rfl (lv_at hl 0 rfl) ?_
      refine gt_MD_MD_taped hx hb hts hown hK hP lwd_298 dX10_check_13 ?_
      refine lv_iconst (v := 4) hx hb dX10_check_16 (by decide) ?_
      refine lv_idiv hx hb dX10_check_17 (by decide) ?_
      refine lv_topi (fun n_5 en_5 => ?_)
      have tn_5 : n_5.toInt = v_taped.toInt / 4 := i_div en_5 (rfl : v_taped.toInt = v_taped.toInt) (by decide : (4 : Int32).toInt = 4) (by omega) (by omega)
      refine lv_icmp_le (tgt := 24) hx hb dX10_check_18 (by decide) (fun c_6 => ?_) (fun c_6 => ?_)
      · have gc_6 : n1.toInt ≤ v_taped.toInt / 4 := i_le (rfl : n1.toInt = n1.toInt) tn_5 c_6
        refine lv_aload_n hx hb dX10_check_24 rfl (lv_at hl 0 rfl) ?_
        refine lv_iconst (v := 0) hx hb dX10_check_25 (by decide) ?_
        refine pt_MD_MD_taped (x := 0) hx hb hts hown hK hP hD hS lwd_298 dX10_check_26 (fun H locs hP hD hS => ?_)
        refine lv_aload_n hx hb dX10_check_29 rfl (lv_at hl 0 rfl) ?_
        refine xv hD hS hA (xV (As := []) (rest := []) hx hb hml hown hts hK hP hD hS hA NT_ok hN hAe hl.1 ⟨Nat.le_refl _, Nat.le_refl _⟩ 0 rfl rfl rfl (c_X10_runs l D cy hm 0 v_walkers v_loads v_pieces v_changeCosts v_planned v_isMarch v_clauseMany v_place v_end v_bad v_clauses v_codes v_open v_stacked v_isOver v_isBehind v_atW v_atL v_atT v_atH v_atM v_atI v_atQ v_packing v_packed v_goPace v_goMinutes v_spentAt v_ranChanges f_m_tape f_m_knee f_m_weight f_m_isLame f_m_loadWeight f_m_owner f_m_food f_m_miles f_m_slope f_m_clauseLetter f_m_sumFrom f_m_codeFrom f_m_codeTo f_m_code f_m_codeArg f_m_newLetter f_m_newSum f_m_newFrom f_m_newTo f_m_newCode f_m_newArg f_m_stack f_m_worth f_m_isRefused f_m_least f_m_packPounds f_m_packOwner f_m_room f_m_givenTo f_m_canBe f_m_setPounds f_m_plainTime f_m_muleTime f_m_planTo f_m_march f_m_tired f_m_ranMinutes f_m_tiredAhead f_m_isReached f_m_toEnd f_m_upTo f_m_upNext f_m_byChanges f_m_bandPaces H.size (by omega) (by omega) (by omega) (by omega) (by omega) (by omega) (by omega) hr_m_weight hr_m_isLame hr_m_loadWeight hr_m_food hr_m_miles hr_m_isRefused hr_m_march hr_m_tired hr_m_tiredAhead hwf) (gi_V lwd_986 lwd_987 lwd_988 lwd_5 lwd_989) ⟨rfl, hd_X10_runs⟩ ⟨Nat.le_of_ble_eq_true rfl, Nat.le_of_ble_eq_true rfl⟩ rfl (Nat.le_of_ble_eq_true rfl) dX10_check_30) (fun u_7 H locs hw hP hD hS => ?_)
        obtain ⟨zatW_9, zatL_10, zatT_11, zatH_12, zatM_13, zatI_14, zatQ_15, zgoPace_16, zgoMinutes_17, zspentAt_18, zranChanges_19, zworth_20, zisRefused_21, ztired_22, zranMinutes_23, ztiredAhead_24⟩ := u_7
        try dsimp only at hw hP hD
        obtain ⟨p_25, p_26, p_27, p_28, p_29, p_30⟩ := hw
        refine lv_iconst (v := 0) hx hb dX10_check_33 (by decide) ?_
        refine lv_istore_n (lv' := [(2, .int 0), (0, .ref (hm 0)), (1, .int n1)]) hx hb dX10_check_34 rfl hl (by decide) rfl (fun ls hl => ?_)
        have L35_33 : ∀ (n : Nat) (l_32 : Int32), (0 ≤ l_32.toInt ∧ l_32.toInt ≤ 10) → 11 - l_32.toInt < n → ∀ (H : Heap) (locs : List Loc) (ls : Array Slot), va_P D vwCl (wMD cy hm 0 v_walkers v_loads v_pieces v_changeCosts v_planned v_isMarch v_clauseMany v_place v_end v_bad v_clauses v_codes v_open v_stacked v_isOver v_isBehind zatW_9 zatL_10 zatT_11 zatH_12 zatM_13 zatI_14 zatQ_15 v_packing v_packed zgoPace_16 zgoMinutes_17 zspentAt_18 zranChanges_19 f_m_tape f_m_knee f_m_weight f_m_isLame f_m_loadWeight f_m_owner f_m_food f_m_miles f_m_slope f_m_clauseLetter f_m_sumFrom f_m_codeFrom f_m_codeTo f_m_code f_m_codeArg f_m_newLetter f_m_newSum f_m_newFrom f_m_newTo f_m_newCode f_m_newArg f_m_stack zworth_20 zisRefused_21 f_m_least f_m_packPounds f_m_packOwner f_m_room f_m_givenTo f_m_canBe f_m_setPounds f_m_plainTime f_m_muleTime f_m_planTo f_m_march ztired_22 zranMinutes_23 ztiredAhead_24 f_m_isReached f_m_toEnd f_m_upTo f_m_upNext f_m_byChanges f_m_bandPaces) H → va_D A (wMD cy hm 0 v_walkers v_loads v_pieces v_changeCosts v_planned v_isMarch v_clauseMany v_place v_end v_bad v_clauses v_codes v_open v_stacked v_isOver v_isBehind zatW_9 zatL_10 zatT_11 zatH_12 zatM_13 zatI_14 zatQ_15 v_packing v_packed zgoPace_16 zgoMinutes_17 zspentAt_18 zranChanges_19 f_m_tape f_m_knee f_m_weight f_m_isLame f_m_loadWeight f_m_owner f_m_food f_m_miles f_m_slope f_m_clauseLetter f_m_sumFrom f_m_codeFrom f_m_codeTo f_m_code f_m_codeArg f_m_newLetter f_m_newSum f_m_newFrom f_m_newTo f_m_newCode f_m_newArg f_m_stack zworth_20 zisRefused_21 f_m_least f_m_packPounds f_m_packOwner f_m_room f_m_givenTo f_m_canBe f_m_setPounds f_m_plainTime f_m_muleTime f_m_planTo f_m_march ztired_22 zranMinutes_23 ztiredAhead_24 f_m_isReached f_m_toEnd f_m_upTo f_m_upNext f_m_byChanges f_m_bandPaces) → va_S A s.heap H locs → lv_has ls 3 [(2, .int l_32), (0, .ref (hm 0)), (1, .int n1)] → W p l e (gRm 9) s m args below meth c H locs 0 0 Q (F0 m 35 ls []) := by
          intro n
          induction n with
          | zero => intro l_32 hL35_33_0 hm; exact absurd hm (by omega)
          | succ n ih35_33 =>
            intro l_32 hL35_33_0 hmL35_33 H locs ls hP hD hS hl
            refine lv_iload_n hx hb dX10_check_35 rfl (lv_at hl 0 rfl) ?_
            refine lv_aload_n hx hb dX10_check_36 rfl (lv_at hl 1 rfl) ?_
            refine xi hD hS hA (xV (As := []) (rest := [.int l_32]) hx hb hml hown hts hK hP hD hS hA NT_ok hN hAe hl.1 ⟨Nat.le_refl _, Nat.le_refl _⟩ 0 rfl rfl rfl (c_X10_gone l D cy hm 0 v_walkers v_loads v_pieces v_changeCosts v_planned v_isMarch v_clauseMany v_place v_end v_bad v_clauses v_codes v_open v_stacked v_isOver v_isBehind zatW_9 zatL_10 zatT_11 zatH_12 zatM_13 zatI_14 zatQ_15 v_packing v_packed zgoPace_16 zgoMinutes_17 zspentAt_18 zranChanges_19 f_m_tape f_m_knee f_m_weight f_m_isLame f_m_loadWeight f_m_owner f_m_food f_m_miles f_m_slope f_m_clauseLetter f_m_sumFrom f_m_codeFrom f_m_codeTo f_m_code f_m_codeArg f_m_newLetter f_m_newSum f_m_newFrom f_m_newTo f_m_newCode f_m_newArg f_m_stack zworth_20 zisRefused_21 f_m_least f_m_packPounds f_m_packOwner f_m_room f_m_givenTo f_m_canBe f_m_setPounds f_m_plainTime f_m_muleTime f_m_planTo f_m_march ztired_22 zranMinutes_23 ztiredAhead_24 f_m_isReached f_m_toEnd f_m_upTo f_m_upNext f_m_byChanges f_m_bandPaces H.size (by omega) (by omega)) (gi_V lwd_1020 lwd_1021 lwd_1022 lwd_5 lwd_1023) ⟨rfl, hd_X10_gone⟩ ⟨Nat.le_of_ble_eq_true rfl, Nat.le_of_ble_eq_true rfl⟩ rfl (Nat.le_of_ble_eq_true rfl) dX10_check_37) (fun r_35 u_34 H locs hw hP hD hS => ?_)
            try dsimp only at hw hP hD
            have p_36 := hw
            clear hw
            refine lv_icmp_ge (tgt := 72) hx hb dX10_check_40 (by decide) (fun c_37 => ?_) (fun c_37 => ?_)
            · have gc_37 : r_35.toInt ≤ l_32.toInt := i_le (rfl : r_35.toInt = r_35.toInt) (rfl : l_32.toInt = l_32.toInt) c_37
              refine lv_iload_n hx hb dX10_check_72 rfl (lv_at hl 2 rfl) ?_
              refine lv_aload_n hx hb dX10_check_73 rfl (lv_at hl 1 rfl) ?_
              refine xi hD hS hA (xV (As := []) (rest := [.int n1]) hx hb hml hown hts hK hP hD hS hA NT_ok hN hAe hl.1 ⟨Nat.le_refl _, Nat.le_refl _⟩ 0 rfl rfl rfl (c_X10_gone l D cy hm 0 v_walkers v_loads v_pieces v_changeCosts v_planned v_isMarch v_clauseMany v_place v_end v_bad v_clauses v_codes v_open v_stacked v_isOver v_isBehind zatW_9 zatL_10 zatT_11 zatH_12 zatM_13 zatI_14 zatQ_15 v_packing v_packed zgoPace_16 zgoMinutes_17 zspentAt_18 zranChanges_19 f_m_tape f_m_knee f_m_weight f_m_isLame f_m_loadWeight f_m_owner f_m_food f_m_miles f_m_slope f_m_clauseLetter f_m_sumFrom f_m_codeFrom f_m_codeTo f_m_code f_m_codeArg f_m_newLetter f_m_newSum f_m_newFrom f_m_newTo f_m_newCode f_m_newArg f_m_stack zworth_20 zisRefused_21 f_m_least f_m_packPounds f_m_packOwner f_m_room f_m_givenTo f_m_canBe f_m_setPounds f_m_plainTime f_m_muleTime f_m_planTo f_m_march ztired_22 zranMinutes_23 ztiredAhead_24 f_m_isReached f_m_toEnd f_m_upTo f_m_upNext f_m_byChanges f_m_bandPaces H.size (by omega) (by omega)) (gi_V lwd_1020 lwd_1021 lwd_1022 lwd_5 lwd_1023) ⟨rfl, hd_X10_gone⟩ ⟨Nat.le_of_ble_eq_true rfl, Nat.le_of_ble_eq_true rfl⟩ rfl (Nat.le_of_ble_eq_true rfl) dX10_check_74) (fun r_39 u_38 H locs hw hP hD hS => ?_)
              try dsimp only at hw hP hD
              have p_40 := hw
              clear hw
              refine lv_icmp_ne (tgt := 84) hx hb dX10_check_77 (by decide) (fun c_41 => ?_) (fun c_41 => ?_)
              · have gc_41 : n1.toInt ≠ r_39.toInt := i_ne (rfl : n1.toInt = n1.toInt) (rfl : r_39.toInt = r_39.toInt) c_41
                refine lv_aload_n hx hb dX10_check_84 rfl (lv_at hl 1 rfl) ?_
                refine xi hD hS hA (xV (As := []) (rest := []) hx hb hml hown hts hK hP hD hS hA NT_ok hN hAe hl.1 ⟨Nat.le_refl _, Nat.le_refl _⟩ 0 rfl rfl rfl (c_X10_gone l D cy hm 0 v_walkers v_loads v_pieces v_changeCosts v_planned v_isMarch v_clauseMany v_place v_end v_bad v_clauses v_codes v_open v_stacked v_isOver v_isBehind zatW_9 zatL_10 zatT_11 zatH_12 zatM_13 zatI_14 zatQ_15 v_packing v_packed zgoPace_16 zgoMinutes_17 zspentAt_18 zranChanges_19 f_m_tape f_m_knee f_m_weight f_m_isLame f_m_loadWeight f_m_owner f_m_food f_m_miles f_m_slope f_m_clauseLetter f_m_sumFrom f_m_codeFrom f_m_codeTo f_m_code f_m_codeArg f_m_newLetter f_m_newSum f_m_newFrom f_m_newTo f_m_newCode f_m_newArg f_m_stack zworth_20 zisRefused_21 f_m_least f_m_packPounds f_m_packOwner f_m_room f_m_givenTo f_m_canBe f_m_setPounds f_m_plainTime f_m_muleTime f_m_planTo f_m_march ztired_22 zranMinutes_23 ztiredAhead_24 f_m_isReached f_m_toEnd f_m_upTo f_m_upNext f_m_byChanges f_m_bandPaces H.size (by omega) (by omega)) (gi_V lwd_1020 lwd_1021 lwd_1022 lwd_5 lwd_1023) ⟨rfl, hd_X10_gone⟩ ⟨Nat.le_of_ble_eq_true rfl, Nat.le_of_ble_eq_true rfl⟩ rfl (Nat.le_of_ble_eq_true rfl) dX10_check_85) (fun r_43 u_42 H locs hw hP hD hS => ?_)
                try dsimp only at hw hP hD
                have p_44 := hw
                clear hw
                have k_45 : (0 : Int32).toInt = 0 := by decide
                exact hrt r_43 0 zatW_9 zatL_10 zatT_11 zatH_12 zatM_13 zatI_14 zatQ_15 zgoPace_16 zgoMinutes_17 zspentAt_18 zranChanges_19 zworth_20 zisRefused_21 ztired_22 zranMinutes_23 ztiredAhead_24 ⟨(by omega), (by omega), (by omega), (by omega), (by omega), p_28, p_29, p_30⟩ hP hD hS rfl dX10_check_88
              · have gc_41 : n1.toInt = r_39.toInt := i_eq (rfl : n1.toInt = n1.toInt) (rfl : r_39.toInt = r_39.toInt) c_41
                refine lv_iconst (v := (-1)) hx hb dX10_check_80 (by decide) ?_
                refine lv_goto (tgt := 88) hx hb dX10_check_81 (by decide) ?_
                have k_46 : (0 : Int32).toInt = 0 := by decide
                have k_47 : ((-1) : Int32).toInt = (-1) := by decide
                exact hrt (-1) 0 zatW_9 zatL_10 zatT_11 zatH_12 zatM_13 zatI_14 zatQ_15 zgoPace_16 zgoMinutes_17 zspentAt_18 zranChanges_19 zworth_20 zisRefused_21 ztired_22 zranMinutes_23 ztiredAhead_24 ⟨(by omega), (by omega), (by omega), (by omega), (by omega), p_28, p_29, p_30⟩ hP hD hS rfl dX10_check_88
            · have gc_37 : l_32.toInt < r_35.toInt := i_nle (rfl : r_35.toInt = r_35.toInt) (rfl : l_32.toInt = l_32.toInt) c_37
              refine lv_iload_n hx hb dX10_check_43 rfl (lv_at hl 0 rfl) ?_
              refine lv_iload_n hx hb dX10_check_44 rfl (lv_at hl 2 rfl) ?_
              refine lv_icmp_ne (tgt := 50) hx hb dX10_check_45 (by decide) (fun c_48 => ?_) (fun c_48 => ?_)
              · have gc_48 : l_32.toInt ≠ n1.toInt := i_ne (rfl : l_32.toInt = l_32.toInt) (rfl : n1.toInt = n1.toInt) c_48
                refine lv_aload_n hx hb dX10_check_50 rfl (lv_at hl 1 rfl) ?_
                refine lv_iload_n hx hb dX10_check_51 rfl (lv_at hl 0 rfl) ?_
                refine xi hD hS hA (xV (As := [.int l_32]) (rest := []) hx hb hml hown hts hK hP hD hS hA NT_ok hN hAe hl.1 ⟨Nat.le_refl _, Nat.le_refl _⟩ 0 rfl rfl rfl (c_X10_numberAt l D cy hm 0 v_walkers v_loads v_pieces v_changeCosts v_planned v_isMarch v_clauseMany v_place v_end v_bad v_clauses v_codes v_open v_stacked v_isOver v_isBehind zatW_9 zatL_10 zatT_11 zatH_12 zatM_13 zatI_14 zatQ_15 v_packing v_packed zgoPace_16 zgoMinutes_17 zspentAt_18 zranChanges_19 f_m_tape f_m_knee f_m_weight f_m_isLame f_m_loadWeight f_m_owner f_m_food f_m_miles f_m_slope f_m_clauseLetter f_m_sumFrom f_m_codeFrom f_m_codeTo f_m_code f_m_codeArg f_m_newLetter f_m_newSum f_m_newFrom f_m_newTo f_m_newCode f_m_newArg f_m_stack zworth_20 zisRefused_21 f_m_least f_m_packPounds f_m_packOwner f_m_room f_m_givenTo f_m_canBe f_m_setPounds f_m_plainTime f_m_muleTime f_m_planTo f_m_march ztired_22 zranMinutes_23 ztiredAhead_24 f_m_isReached f_m_toEnd f_m_upTo f_m_upNext f_m_byChanges f_m_bandPaces H.size l_32 hr_m_tape (by omega)) (gi_V lwd_1236 lwd_1237 lwd_1238 lwd_5 lwd_1239) ⟨rfl, hd_X10_numberAt⟩ ⟨Nat.le_of_ble_eq_true rfl, Nat.le_of_ble_eq_true rfl⟩ rfl (Nat.le_of_ble_eq_true rfl) dX10_check_52) (fun r_50 u_49 H locs hw hP hD hS => ?_)
                try dsimp only at hw hP hD
                clear hw
                refine lv_aload_n hx hb dX10_check_55 rfl (lv_at hl 1 rfl) ?_
                refine gt_MD_MD_ranMinutes hx hb hts hown hK hP lwd_192 dX10_check_56 ?_
                refine lv_iload_n hx hb dX10_check_59 rfl (lv_at hl 0 rfl) ?_
                refine al_m_ranMinutes hx hb hK hP (i_in (rfl : l_32.toInt = l_32.toInt) (by omega) (by omega)) dX10_check_60 (fun n_51 en_51 => ?_)
                refine lv_icmp_eq (tgt := 66) hx hb dX10_check_61 (by decide) (fun c_52 => ?_) (fun c_52 => ?_)
                · have gc_52 : r_50.toInt = n_51.toInt := i_eq (rfl : r_50.toInt = r_50.toInt) (rfl : n_51.toInt = n_51.toInt) c_52
                  obtain ⟨n_53, en_53⟩ : ∃ y : Int32, y = l_32 + 1 := ⟨_, rfl⟩
                  have tn_53 : n_53.toInt = l_32.toInt + 1 := i_add en_53 (rfl : l_32.toInt = l_32.toInt) (by decide : (1 : Int32).toInt = 1) (by omega) (by omega)
                  refine lv_iinc (v := n_53) (lv' := [(2, .int n_53), (0, .ref (hm 0)), (1, .int n1)]) hx hb dX10_check_66 hl (k := 0) rfl (by rw [en_53]; rfl) (by decide) rfl (fun ls hl => ?_)
                  refine lv_goto (tgt := 35) hx hb dX10_check_69 (by decide) ?_
                  exact ih35_33 n_53 (by omega) (by omega) _ _ _ hP hD hS (lv_sub hl [0, 1, 2] rfl)
                · have gc_52 : r_50.toInt ≠ n_51.toInt := i_ne (rfl : r_50.toInt = r_50.toInt) (rfl : n_51.toInt = n_51.toInt) c_52
                  refine lv_iload_n hx hb dX10_check_64 rfl (lv_at hl 0 rfl) ?_
                  have k_54 : (0 : Int32).toInt = 0 := by decide
                  exact hrt l_32 0 zatW_9 zatL_10 zatT_11 zatH_12 zatM_13 zatI_14 zatQ_15 zgoPace_16 zgoMinutes_17 zspentAt_18 zranChanges_19 zworth_20 zisRefused_21 ztired_22 zranMinutes_23 ztiredAhead_24 ⟨(by omega), (by omega), (by omega), (by omega), (by omega), p_28, p_29, p_30⟩ hP hD hS rfl dX10_check_65
              · have gc_48 : l_32.toInt = n1.toInt := i_eq (rfl : l_32.toInt = l_32.toInt) (rfl : n1.toInt = n1.toInt) c_48
                refine lv_iload_n hx hb dX10_check_48 rfl (lv_at hl 2 rfl) ?_
                have k_55 : (0 : Int32).toInt = 0 := by decide
                exact hrt n1 0 zatW_9 zatL_10 zatT_11 zatH_12 zatM_13 zatI_14 zatQ_15 zgoPace_16 zgoMinutes_17 zspentAt_18 zranChanges_19 zworth_20 zisRefused_21 ztired_22 zranMinutes_23 ztiredAhead_24 ⟨(by omega), (by omega), (by omega), (by omega), (by omega), p_28, p_29, p_30⟩ hP hD hS rfl dX10_check_49
        have k_56 : (0 : Int32).toInt = 0 := by decide
        exact L35_33 8589934592 0 (by omega) (by omega) _ _ _ hP hD hS (lv_sub hl [0, 1, 2] rfl)
      · have gc_6 : v_taped.toInt / 4 < n1.toInt := i_nle (rfl : n1.toInt = n1.toInt) tn_5 c_6
        refine lv_bipush (v := (-2)) hx hb dX10_check_21 (by decide) ?_
        have k_57 : ((-2) : Int32).toInt = (-2) := by decide
        exact hrt (-2) v_taped v_atW v_atL v_atT v_atH v_atM v_atI v_atQ v_goPace v_goMinutes v_spentAt v_ranChanges f_m_worth f_m_isRefused f_m_tired f_m_ranMinutes f_m_tiredAhead ⟨(by omega), (by omega), (by omega), (by omega), (by omega), hr_m_isRefused, hr_m_tired, hr_m_tiredAhead⟩ hP hD hS rfl dX10_check_23
set_option maxHeartbeats 16000000 in
set_option maxRecDepth 100000 in
theorem c_X10_plan_q (l : Launch) (D : va_G) (cy : Nat → ClassId) (hm : Nat → Nat) (v_taped v_walkers v_loads v_pieces v_changeCosts v_planned v_isMarch v_clauseMany v_place v_end v_bad v_clauses v_codes v_open v_stacked v_isOver v_isBehind v_atW v_atL v_atT v_atH v_atM v_atI v_atQ v_packing v_packed v_goPace v_goMinutes v_spentAt v_ranChanges : Int32) (f_m_tape f_m_knee f_m_weight f_m_isLame f_m_loadWeight f_m_owner f_m_food f_m_miles f_m_slope f_m_clauseLetter f_m_sumFrom f_m_codeFrom f_m_codeTo f_m_code f_m_codeArg f_m_newLetter f_m_newSum f_m_newFrom f_m_newTo f_m_newCode f_m_newArg f_m_stack f_m_worth f_m_isRefused f_m_least f_m_packPounds f_m_packOwner f_m_room f_m_givenTo f_m_canBe f_m_setPounds f_m_plainTime f_m_muleTime f_m_planTo f_m_march f_m_tired f_m_ranMinutes f_m_tiredAhead f_m_isReached f_m_toEnd f_m_upTo f_m_upNext f_m_byChanges f_m_bandPaces : Nat → Int32) (sz : Nat) (k : Int32) (hb_v_taped : 0 ≤ v_taped.toInt ∧ v_taped.toInt ≤ 220) (hb_v_walkers : 0 ≤ v_walkers.toInt ∧ v_walkers.toInt ≤ 6) (hb_v_loads : 0 ≤ v_loads.toInt ∧ v_loads.toInt ≤ 9) (hb_v_isMarch : 0 ≤ v_isMarch.toInt ∧ v_isMarch.toInt ≤ 1) (hr_m_tape : rg (-128) 127 f_m_tape) (hr_m_owner : rg (-1) 5 f_m_owner) : gMi l yX10_plan cX10_plan 3 .boolean 3 [.ref (hm 0), .int k] D cy (wMD cy hm v_taped v_walkers v_loads v_pieces v_changeCosts v_planned v_isMarch v_clauseMany v_place v_end v_bad v_clauses v_codes v_open v_stacked v_isOver v_isBehind v_atW v_atL v_atT v_atH v_atM v_atI v_atQ v_packing v_packed v_goPace v_goMinutes v_spentAt v_ranChanges f_m_tape f_m_knee f_m_weight f_m_isLame f_m_loadWeight f_m_owner f_m_food f_m_miles f_m_slope f_m_clauseLetter f_m_sumFrom f_m_codeFrom f_m_codeTo f_m_code f_m_codeArg f_m_newLetter f_m_newSum f_m_newFrom f_m_newTo f_m_newCode f_m_newArg f_m_stack f_m_worth f_m_isRefused f_m_least f_m_packPounds f_m_packOwner f_m_room f_m_givenTo f_m_canBe f_m_setPounds f_m_plainTime f_m_muleTime f_m_planTo f_m_march f_m_tired f_m_ranMinutes f_m_tiredAhead f_m_isReached f_m_toEnd f_m_upTo f_m_upNext f_m_byChanges f_m_bandPaces) NT sz (fun (r : Int32) (u : Int32 × Int32 × Int32 × (Nat → Int32)) => (0 ≤ r.toInt ∧ r.toInt ≤ 1) ∧ ((¬ (0 ≤ k.toInt ∧ k.toInt ≤ 5 ∧ v_loads.toInt ≤ v_taped.toInt) ∧ r.toInt = 0 ∧ (u.1).toInt = v_taped.toInt ∧ (u.2.1) = v_planned ∧ (u.2.2.1).toInt = v_isMarch.toInt) ∨ ((0 ≤ k.toInt ∧ k.toInt ≤ 5 ∧ v_loads.toInt ≤ v_taped.toInt) ∧ (u.1).toInt = 0 ∧ ((r.toInt = 1 ∧ pall v_walkers f_m_owner f_m_tape v_loads.toInt ∧ (u.2.1) = v_planned ||| (1 <<< (k &&& 31)) ∧ (u.2.2.1).toInt = 0) ∨ (r.toInt = 0 ∧ ¬ pall v_walkers f_m_owner f_m_tape v_loads.toInt ∧ (u.2.1) = v_planned ∧ (u.2.2.1).toInt = v_isMarch.toInt)))) ∧ (0 ≤ (u.1).toInt ∧ (u.1).toInt ≤ 220) ∧ (0 ≤ (u.2.2.1).toInt ∧ (u.2.2.1).toInt ≤ 1)) (fun u => wMD cy hm (u.1) v_walkers v_loads v_pieces v_changeCosts (u.2.1) (u.2.2.1) v_clauseMany v_place v_end v_bad v_clauses v_codes v_open v_stacked v_isOver v_isBehind v_atW v_atL v_atT v_atH v_atM v_atI v_atQ v_packing v_packed v_goPace v_goMinutes v_spentAt v_ranChanges f_m_tape f_m_knee f_m_weight f_m_isLame f_m_loadWeight f_m_owner f_m_food f_m_miles f_m_slope f_m_clauseLetter f_m_sumFrom f_m_codeFrom f_m_codeTo f_m_code f_m_codeArg f_m_newLetter f_m_newSum f_m_newFrom f_m_newTo f_m_newCode f_m_newArg f_m_stack f_m_worth f_m_isRefused f_m_least f_m_packPounds f_m_packOwner f_m_room f_m_givenTo f_m_canBe f_m_setPounds f_m_plainTime f_m_muleTime (u.2.2.2) f_m_march f_m_tired f_m_ranMinutes f_m_tiredAhead f_m_isReached f_m_toEnd f_m_upTo f_m_upNext f_m_byChanges f_m_bandPaces) := by
  refine gMi_in (by decide) (Nat.le_of_ble_eq_true rfl) ?_
  intro p e s m args below meth c A ls Q hx hb hml hts hown hsz hP hK hD hN hAe hA hS hl hret
  subst hsz
  have hl : lv_has ls 3 [(0, .ref (hm 0)), (1, .int k)] := hl
  have hrt := fun (r : Int32) (v_taped' : Int32) (v_planned' : Int32) (v_isMarch' : Int32) (f_m_planTo' : Nat → Int32) (hp : (0 ≤ r.toInt ∧ r.toInt ≤ 1) ∧ ((¬ (0 ≤ k.toInt ∧ k.toInt ≤ 5 ∧ v_loads.toInt ≤ v_taped.toInt) ∧ r.toInt = 0 ∧ v_taped'.toInt = v_taped.toInt ∧ v_planned' = v_planned ∧ v_isMarch'.toInt = v_isMarch.toInt) ∨ ((0 ≤ k.toInt ∧ k.toInt ≤ 5 ∧ v_loads.toInt ≤ v_taped.toInt) ∧ v_taped'.toInt = 0 ∧ ((r.toInt = 1 ∧ pall v_walkers f_m_owner f_m_tape v_loads.toInt ∧ v_planned' = v_planned ||| (1 <<< (k &&& 31)) ∧ v_isMarch'.toInt = 0) ∨ (r.toInt = 0 ∧ ¬ pall v_walkers f_m_owner f_m_tape v_loads.toInt ∧ v_planned' = v_planned ∧ v_isMarch'.toInt = v_isMarch.toInt)))) ∧ (0 ≤ v_taped'.toInt ∧ v_taped'.toInt ≤ 220) ∧ (0 ≤ v_isMarch'.toInt ∧ v_isMarch'.toInt ≤ 1)) {H : Heap} {locs : List Loc} {pc : Nat} {ls : Array Slot} => hret r (v_taped', v_planned', v_isMarch', f_m_planTo') (H := H) (locs := locs) (pc := pc) (ls := ls) hp
  clear hret
  refine lv_iload_n hx hb dX10_plan_0 rfl (lv_at hl 1 rfl) ?_
  refine lv_i2l (v := k.toInt64) hx hb dX10_plan_1 rfl ?_
  have hl_1 : k.toInt64.toInt = k.toInt := i_l (rfl : k.toInt = k.toInt)
  refine lv_lconst (v := 0) hx hb dX10_plan_2 (by decide) ?_
  refine lv_ldc2 hx hb hown (hts _ lwd_548) dX10_plan_3 ?_
  have k_2 : (0 : Int64).toInt = 0 := by decide
  have k_3 : (5 : Int64).toInt = 5 := by decide
  refine xi hD hS hA (xS (As := [.long k.toInt64, .long 0, .long 5]) (rest := []) hx hb hml hown hts hK hP hD hS hA NT_ok hN hAe hl.1 ⟨Nat.le_refl _, Nat.le_refl _⟩ (c_X10_lies l D cy hm v_taped v_walkers v_loads v_pieces v_changeCosts v_planned v_isMarch v_clauseMany v_place v_end v_bad v_clauses v_codes v_open v_stacked v_isOver v_isBehind v_atW v_atL v_atT v_atH v_atM v_atI v_atQ v_packing v_packed v_goPace v_goMinutes v_spentAt v_ranChanges f_m_tape f_m_knee f_m_weight f_m_isLame f_m_loadWeight f_m_owner f_m_food f_m_miles f_m_slope f_m_clauseLetter f_m_sumFrom f_m_codeFrom f_m_codeTo f_m_code f_m_codeArg f_m_newLetter f_m_newSum f_m_newFrom f_m_newTo f_m_newCode f_m_newArg f_m_stack f_m_worth f_m_isRefused f_m_least f_m_packPounds f_m_packOwner f_m_room f_m_givenTo f_m_canBe f_m_setPounds f_m_plainTime f_m_muleTime f_m_planTo f_m_march f_m_tired f_m_ranMinutes f_m_tiredAhead f_m_isReached f_m_toEnd f_m_upTo f_m_upNext f_m_byChanges f_m_bandPaces s.heap.size k.toInt64 0 5) (gi_S lwd_226 lwd_227 lwd_5 lwd_228) hd_X10_lies ⟨Nat.le_of_ble_eq_true rfl, Nat.le_of_ble_eq_true rfl⟩ rfl (Nat.le_of_ble_eq_true rfl) dX10_plan_6) (fun r_5 u_4 H locs hw hP hD hS => ?_)
  try dsimp only at hw hP hD
  obtain ⟨p_6, p_7⟩ := hw
  refine lv_if_eq (tgt := 23) hx hb dX10_plan_9 (by decide) (fun c_8 => ?_) (fun c_8 => ?_)
  · have gc_8 : r_5.toInt = 0 := i_eq (rfl : r_5.toInt = r_5.toInt) (by decide : (0 : Int32).toInt = 0) c_8
    refine lv_iconst (v := 0) hx hb dX10_plan_23 (by decide) ?_
    have k_9 : (0 : Int32).toInt = 0 := by decide
    exact hrt 0 v_taped v_planned v_isMarch f_m_planTo ⟨(by omega), (Or.inl ⟨by omega, by omega, by omega, rfl, by omega⟩), (by omega), (by omega)⟩ hP hD hS rfl dX10_plan_24
  · have gc_8 : r_5.toInt ≠ 0 := i_ne (rfl : r_5.toInt = r_5.toInt) (by decide : (0 : Int32).toInt = 0) c_8
    refine lv_aload_n hx hb dX10_plan_12 rfl (lv_at hl 0 rfl) ?_
    refine gt_MD_MD_taped hx hb hts hown hK hP lwd_298 dX10_plan_13 ?_
    refine lv_aload_n hx hb dX10_plan_16 rfl (lv_at hl 0 rfl) ?_
    refine gt_MD_MD_loads hx hb hts hown hK hP lwd_247 dX10_plan_17 ?_
    refine lv_icmp_ge (tgt := 25) hx hb dX10_plan_20 (by decide) (fun c_10 => ?_) (fun c_10 => ?_)
    · have gc_10 : v_loads.toInt ≤ v_taped.toInt := i_le (rfl : v_loads.toInt = v_loads.toInt) (rfl : v_taped.toInt = v_taped.toInt) c_10
      refine lv_aload_n hx hb dX10_plan_25 rfl (lv_at hl 0 rfl) ?_
      refine lv_iconst (v := 0) hx hb dX10_plan_26 (by decide) ?_
      refine pt_MD_MD_taped (x := 0) hx hb hts hown hK hP hD hS lwd_298 dX10_plan_27 (fun H locs hP hD hS => ?_)
      refine lv_iconst (v := 0) hx hb dX10_plan_30 (by decide) ?_
      refine lv_istore_n (lv' := [(2, .int 0), (0, .ref (hm 0)), (1, .int k)]) hx hb dX10_plan_31 rfl hl (by decide) rfl (fun ls hl => ?_)
      have L32_13 : ∀ (n : Nat) (l_12 : Int32), (0 ≤ l_12.toInt ∧ l_12.toInt ≤ 9) → (pall v_walkers f_m_owner f_m_tape l_12.toInt) → (l_12.toInt ≤ v_loads.toInt) → 10 - l_12.toInt < n → ∀ (H : Heap) (locs : List Loc) (ls : Array Slot), va_P D vwCl (wMD cy hm 0 v_walkers v_loads v_pieces v_changeCosts v_planned v_isMarch v_clauseMany v_place v_end v_bad v_clauses v_codes v_open v_stacked v_isOver v_isBehind v_atW v_atL v_atT v_atH v_atM v_atI v_atQ v_packing v_packed v_goPace v_goMinutes v_spentAt v_ranChanges f_m_tape f_m_knee f_m_weight f_m_isLame f_m_loadWeight f_m_owner f_m_food f_m_miles f_m_slope f_m_clauseLetter f_m_sumFrom f_m_codeFrom f_m_codeTo f_m_code f_m_codeArg f_m_newLetter f_m_newSum f_m_newFrom f_m_newTo f_m_newCode f_m_newArg f_m_stack f_m_worth f_m_isRefused f_m_least f_m_packPounds f_m_packOwner f_m_room f_m_givenTo f_m_canBe f_m_setPounds f_m_plainTime f_m_muleTime f_m_planTo f_m_march f_m_tired f_m_ranMinutes f_m_tiredAhead f_m_isReached f_m_toEnd f_m_upTo f_m_upNext f_m_byChanges f_m_bandPaces) H → va_D A (wMD cy hm 0 v_walkers v_loads v_pieces v_changeCosts v_planned v_isMarch v_clauseMany v_place v_end v_bad v_clauses v_codes v_open v_stacked v_isOver v_isBehind v_atW v_atL v_atT v_atH v_atM v_atI v_atQ v_packing v_packed v_goPace v_goMinutes v_spentAt v_ranChanges f_m_tape f_m_knee f_m_weight f_m_isLame f_m_loadWeight f_m_owner f_m_food f_m_miles f_m_slope f_m_clauseLetter f_m_sumFrom f_m_codeFrom f_m_codeTo f_m_code f_m_codeArg f_m_newLetter f_m_newSum f_m_newFrom f_m_newTo f_m_newCode f_m_newArg f_m_stack f_m_worth f_m_isRefused f_m_least f_m_packPounds f_m_packOwner f_m_room f_m_givenTo f_m_canBe f_m_setPounds f_m_plainTime f_m_muleTime f_m_planTo f_m_march f_m_tired f_m_ranMinutes f_m_tiredAhead f_m_isReached f_m_toEnd f_m_upTo f_m_upNext f_m_byChanges f_m_bandPaces) → va_S A s.heap H locs → lv_has ls 3 [(2, .int l_12), (0, .ref (hm 0)), (1, .int k)] → W p l e (gRm 3) s m args below meth c H locs 0 0 Q (F0 m 32 ls []) := by
        intro n
        induction n with
        | zero => intro l_12 hL32_13_0 hL32_13_1 hL32_13_2 hm; exact absurd hm (by omega)
        | succ n ih32_13 =>
          intro l_12 hL32_13_0 hL32_13_1 hL32_13_2 hmL32_13 H locs ls hP hD hS hl
          refine lv_iload_n hx hb dX10_plan_32 rfl (lv_at hl 0 rfl) ?_
          refine lv_aload_n hx hb dX10_plan_33 rfl (lv_at hl 1 rfl) ?_
          refine gt_MD_MD_loads hx hb hts hown hK hP lwd_247 dX10_plan_34 ?_
          refine lv_icmp_ge (tgt := 86) hx hb dX10_plan_37 (by decide) (fun c_14 => ?_) (fun c_14 => ?_)
          · have gc_14 : v_loads.toInt ≤ l_12.toInt := i_le (rfl : v_loads.toInt = v_loads.toInt) (rfl : l_12.toInt = l_12.toInt) c_14
            have hpa9 : pall v_walkers f_m_owner f_m_tape v_loads.toInt := by rw [show v_loads.toInt = l_12.toInt from by omega]; exact hL32_13_1
            skip
            refine lv_iconst (v := 0) hx hb dX10_plan_86 (by decide) ?_
            refine lv_istore_n (lv' := [(2, .int 0), (0, .ref (hm 0)), (1, .int k)]) hx hb dX10_plan_87 rfl hl (by decide) rfl (fun ls hl => ?_)
            have L88_19 : ∀ (n : Nat) (f_17 : Nat → Int32) (l_18 : Int32), (0 ≤ l_18.toInt ∧ l_18.toInt ≤ 9) → 10 - l_18.toInt < n → ∀ (H : Heap) (locs : List Loc) (ls : Array Slot), va_P D vwCl (wMD cy hm 0 v_walkers v_loads v_pieces v_changeCosts v_planned v_isMarch v_clauseMany v_place v_end v_bad v_clauses v_codes v_open v_stacked v_isOver v_isBehind v_atW v_atL v_atT v_atH v_atM v_atI v_atQ v_packing v_packed v_goPace v_goMinutes v_spentAt v_ranChanges f_m_tape f_m_knee f_m_weight f_m_isLame f_m_loadWeight f_m_owner f_m_food f_m_miles f_m_slope f_m_clauseLetter f_m_sumFrom f_m_codeFrom f_m_codeTo f_m_code f_m_codeArg f_m_newLetter f_m_newSum f_m_newFrom f_m_newTo f_m_newCode f_m_newArg f_m_stack f_m_worth f_m_isRefused f_m_least f_m_packPounds f_m_packOwner f_m_room f_m_givenTo f_m_canBe f_m_setPounds f_m_plainTime f_m_muleTime f_17 f_m_march f_m_tired f_m_ranMinutes f_m_tiredAhead f_m_isReached f_m_toEnd f_m_upTo f_m_upNext f_m_byChanges f_m_bandPaces) H → va_D A (wMD cy hm 0 v_walkers v_loads v_pieces v_changeCosts v_planned v_isMarch v_clauseMany v_place v_end v_bad v_clauses v_codes v_open v_stacked v_isOver v_isBehind v_atW v_atL v_atT v_atH v_atM v_atI v_atQ v_packing v_packed v_goPace v_goMinutes v_spentAt v_ranChanges f_m_tape f_m_knee f_m_weight f_m_isLame f_m_loadWeight f_m_owner f_m_food f_m_miles f_m_slope f_m_clauseLetter f_m_sumFrom f_m_codeFrom f_m_codeTo f_m_code f_m_codeArg f_m_newLetter f_m_newSum f_m_newFrom f_m_newTo f_m_newCode f_m_newArg f_m_stack f_m_worth f_m_isRefused f_m_least f_m_packPounds f_m_packOwner f_m_room f_m_givenTo f_m_canBe f_m_setPounds f_m_plainTime f_m_muleTime f_17 f_m_march f_m_tired f_m_ranMinutes f_m_tiredAhead f_m_isReached f_m_toEnd f_m_upTo f_m_upNext f_m_byChanges f_m_bandPaces) → va_S A s.heap H locs → lv_has ls 3 [(2, .int l_18), (0, .ref (hm 0)), (1, .int k)] → W p l e (gRm 3) s m args below meth c H locs 0 0 Q (F0 m 88 ls []) := by
              intro n
              induction n with
              | zero => intro f_17 l_18 hL88_19_0 hm; exact absurd hm (by omega)
              | succ n ih88_19 =>
                intro f_17 l_18 hL88_19_0 hmL88_19 H locs ls hP hD hS hl
                refine lv_iload_n hx hb dX10_plan_88 rfl (lv_at hl 0 rfl) ?_
                refine lv_aload_n hx hb dX10_plan_89 rfl (lv_at hl 1 rfl) ?_
                refine gt_MD_MD_loads hx hb hts hown hK hP lwd_247 dX10_plan_90 ?_
                refine lv_icmp_ge (tgt := 119) hx hb dX10_plan_93 (by decide) (fun c_20 => ?_) (fun c_20 => ?_)
                · have gc_20 : v_loads.toInt ≤ l_18.toInt := i_le (rfl : v_loads.toInt = v_loads.toInt) (rfl : l_18.toInt = l_18.toInt) c_20
                  refine lv_aload_n hx hb dX10_plan_119 rfl (lv_at hl 1 rfl) ?_
                  refine lv_dup hx hb dX10_plan_120 rfl ?_
                  refine gt_MD_MD_planned hx hb hts hown hK hP lwd_249 dX10_plan_121 ?_
                  refine lv_iconst (v := 1) hx hb dX10_plan_124 (by decide) ?_
                  refine lv_iload_n hx hb dX10_plan_125 rfl (lv_at hl 2 rfl) ?_
                  refine lv_ishl hx hb dX10_plan_126 ?_
                  refine lv_topi (fun n_21 en_21 => ?_)
                  skip
                  refine lv_ior hx hb dX10_plan_127 ?_
                  refine lv_topi (fun n_22 en_22 => ?_)
                  refine pt_MD_MD_planned (x := n_22) hx hb hts hown hK hP hD hS lwd_249 dX10_plan_128 (fun H locs hP hD hS => ?_)
                  refine lv_aload_n hx hb dX10_plan_131 rfl (lv_at hl 1 rfl) ?_
                  refine lv_iconst (v := 0) hx hb dX10_plan_132 (by decide) ?_
                  refine pt_MD_MD_isMarch (x := 0) hx hb hts hown hK hP hD hS lwd_225 (by decide) dX10_plan_133 (fun H locs hP hD hS => ?_)
                  refine lv_iconst (v := 1) hx hb dX10_plan_136 (by decide) ?_
                  have k_23 : (0 : Int32).toInt = 0 := by decide
                  have k_24 : (0 : Int32).toInt = 0 := by decide
                  have k_25 : (1 : Int32).toInt = 1 := by decide
                  exact hrt 1 0 n_22 0 f_17 ⟨(by omega), (Or.inr ⟨by omega, by omega, Or.inl ⟨by omega, hpa9, by rw [en_22, en_21], by omega⟩⟩), (by omega), (by omega)⟩ hP hD hS rfl dX10_plan_137
                · have gc_20 : l_18.toInt < v_loads.toInt := i_nle (rfl : v_loads.toInt = v_loads.toInt) (rfl : l_18.toInt = l_18.toInt) c_20
                  refine lv_aload_n hx hb dX10_plan_96 rfl (lv_at hl 1 rfl) ?_
                  refine gt_MD_MD_planTo hx hb hts hown hK hP lwd_189 dX10_plan_97 ?_
                  refine lv_bipush (v := 9) hx hb dX10_plan_100 (by decide) ?_
                  refine lv_iload_n hx hb dX10_plan_102 rfl (lv_at hl 2 rfl) ?_
                  refine lv_imul hx hb dX10_plan_103 ?_
                  have hb_26 := And.intro (i_bot k) (i_top k)
                  refine lv_topi (fun n_27 en_27 => ?_)
                  have tn_27 : n_27.toInt = 9 * k.toInt := i_mul en_27 (by decide : (9 : Int32).toInt = 9) (rfl : k.toInt = k.toInt) (by omega) (by omega)
                  refine lv_iload_n hx hb dX10_plan_104 rfl (lv_at hl 0 rfl) ?_
                  refine lv_iadd hx hb dX10_plan_105 ?_
                  have hb_28 := And.intro (i_bot n_27) (i_top n_27)
                  refine lv_topi (fun n_29 en_29 => ?_)
                  have tn_29 : n_29.toInt = (9 * k.toInt) + l_18.toInt := i_add en_29 tn_27 (rfl : l_18.toInt = l_18.toInt) (by omega) (by omega)
                  refine lv_aload_n hx hb dX10_plan_106 rfl (lv_at hl 1 rfl) ?_
                  refine gt_MD_MD_tape hx hb hts hown hK hP lwd_155 dX10_plan_107 ?_
                  refine lv_iload_n hx hb dX10_plan_110 rfl (lv_at hl 0 rfl) ?_
                  refine al_m_tape hx hb hK hP hr_m_tape (i_in (rfl : l_18.toInt = l_18.toInt) (by omega) (by omega)) dX10_plan_111 (fun n_30 en_30 bn_30 => ?_)
                  refine as_m_planTo (x := n_30) hx hb hK hP hD hS (i_in tn_29 (by omega) (by omega)) dX10_plan_112 (fun f_31 ef_31 H locs hP hD hS => ?_)
                  obtain ⟨n_32, en_32⟩ : ∃ y : Int32, y = l_18 + 1 := ⟨_, rfl⟩
                  have tn_32 : n_32.toInt = l_18.toInt + 1 := i_add en_32 (rfl : l_18.toInt = l_18.toInt) (by decide : (1 : Int32).toInt = 1) (by omega) (by omega)
                  refine lv_iinc (v := n_32) (lv' := [(2, .int n_32), (0, .ref (hm 0)), (1, .int k)]) hx hb dX10_plan_113 hl (k := 0) rfl (by rw [en_32]; rfl) (by decide) rfl (fun ls hl => ?_)
                  refine lv_goto (tgt := 88) hx hb dX10_plan_116 (by decide) ?_
                  exact ih88_19 f_31 n_32 (by omega) (by omega) _ _ _ hP hD hS (lv_sub hl [0, 1, 2] rfl)
            have k_33 : (0 : Int32).toInt = 0 := by decide
            exact L88_19 8589934592 f_m_planTo 0 (by omega) (by omega) _ _ _ hP hD hS (lv_sub hl [0, 1, 2] rfl)
          · have gc_14 : l_12.toInt < v_loads.toInt := i_nle (rfl : v_loads.toInt = v_loads.toInt) (rfl : l_12.toInt = l_12.toInt) c_14
            skip
            refine lv_aload_n hx hb dX10_plan_40 rfl (lv_at hl 1 rfl) ?_
            refine lv_aload_n hx hb dX10_plan_41 rfl (lv_at hl 1 rfl) ?_
            refine gt_MD_MD_tape hx hb hts hown hK hP lwd_155 dX10_plan_42 ?_
            refine lv_iload_n hx hb dX10_plan_45 rfl (lv_at hl 0 rfl) ?_
            refine al_m_tape hx hb hK hP hr_m_tape (i_in (rfl : l_12.toInt = l_12.toInt) (by omega) (by omega)) dX10_plan_46 (fun n_34 en_34 bn_34 => ?_)
            refine xi hD hS hA (xV (As := [.int n_34]) (rest := []) hx hb hml hown hts hK hP hD hS hA NT_ok hN hAe hl.1 ⟨Nat.le_refl _, Nat.le_refl _⟩ 0 rfl rfl rfl (c_X10_isWalker l D cy hm 0 v_walkers v_loads v_pieces v_changeCosts v_planned v_isMarch v_clauseMany v_place v_end v_bad v_clauses v_codes v_open v_stacked v_isOver v_isBehind v_atW v_atL v_atT v_atH v_atM v_atI v_atQ v_packing v_packed v_goPace v_goMinutes v_spentAt v_ranChanges f_m_tape f_m_knee f_m_weight f_m_isLame f_m_loadWeight f_m_owner f_m_food f_m_miles f_m_slope f_m_clauseLetter f_m_sumFrom f_m_codeFrom f_m_codeTo f_m_code f_m_codeArg f_m_newLetter f_m_newSum f_m_newFrom f_m_newTo f_m_newCode f_m_newArg f_m_stack f_m_worth f_m_isRefused f_m_least f_m_packPounds f_m_packOwner f_m_room f_m_givenTo f_m_canBe f_m_setPounds f_m_plainTime f_m_muleTime f_m_planTo f_m_march f_m_tired f_m_ranMinutes f_m_tiredAhead f_m_isReached f_m_toEnd f_m_upTo f_m_upNext f_m_byChanges f_m_bandPaces H.size n_34 (by omega)) (gi_V lwd_250 lwd_251 lwd_252 lwd_5 lwd_253) ⟨rfl, hd_X10_isWalker⟩ ⟨Nat.le_of_ble_eq_true rfl, Nat.le_of_ble_eq_true rfl⟩ rfl (Nat.le_of_ble_eq_true rfl) dX10_plan_47) (fun r_36 u_35 H locs hw hP hD hS => ?_)
            try dsimp only at hw hP hD
            obtain ⟨p_37, p_38⟩ := hw
            refine lv_if_eq (tgt := 78) hx hb dX10_plan_50 (by decide) (fun c_39 => ?_) (fun c_39 => ?_)
            · have gc_39 : r_36.toInt = 0 := i_eq (rfl : r_36.toInt = r_36.toInt) (by decide : (0 : Int32).toInt = 0) c_39
              refine lv_iconst (v := 0) hx hb dX10_plan_78 (by decide) ?_
              have k_40 : (0 : Int32).toInt = 0 := by decide
              have k_41 : (0 : Int32).toInt = 0 := by decide
              exact hrt 0 0 v_planned v_isMarch f_m_planTo ⟨(by omega), (Or.inr ⟨by omega, by omega, Or.inr ⟨by omega, fun h => by
                have g9 := h l_12.toNatClampNeg (by rw [i_ix (rfl : l_12.toInt = l_12.toInt)]; omega)
                unfold pgood at g9
                rw [← en_34] at g9
                omega, rfl, by omega⟩⟩), (by omega), (by omega)⟩ hP hD hS rfl dX10_plan_79
            · have gc_39 : r_36.toInt ≠ 0 := i_ne (rfl : r_36.toInt = r_36.toInt) (by decide : (0 : Int32).toInt = 0) c_39
              refine lv_aload_n hx hb dX10_plan_53 rfl (lv_at hl 1 rfl) ?_
              refine gt_MD_MD_owner hx hb hts hown hK hP lwd_161 dX10_plan_54 ?_
              refine lv_iload_n hx hb dX10_plan_57 rfl (lv_at hl 0 rfl) ?_
              refine al_m_owner hx hb hK hP hr_m_owner (i_in (rfl : l_12.toInt = l_12.toInt) (by omega) (by omega)) dX10_plan_58 (fun n_42 en_42 bn_42 => ?_)
              refine lv_iconst (v := (-1)) hx hb dX10_plan_59 (by decide) ?_
              refine lv_icmp_eq (tgt := 80) hx hb dX10_plan_60 (by decide) (fun c_43 => ?_) (fun c_43 => ?_)
              · have gc_43 : n_42.toInt = (-1) := i_eq (rfl : n_42.toInt = n_42.toInt) (by decide : ((-1) : Int32).toInt = (-1)) c_43
                obtain ⟨n_44, en_44⟩ : ∃ y : Int32, y = l_12 + 1 := ⟨_, rfl⟩
                have tn_44 : n_44.toInt = l_12.toInt + 1 := i_add en_44 (rfl : l_12.toInt = l_12.toInt) (by decide : (1 : Int32).toInt = 1) (by omega) (by omega)
                refine lv_iinc (v := n_44) (lv' := [(2, .int n_44), (0, .ref (hm 0)), (1, .int k)]) hx hb dX10_plan_80 hl (k := 0) rfl (by rw [en_44]; rfl) (by decide) rfl (fun ls hl => ?_)
                refine lv_goto (tgt := 32) hx hb dX10_plan_83 (by decide) ?_
                exact ih32_13 n_44 (by omega) (pall_step (x := l_12.toNatClampNeg) hL32_13_1 (by rw [i_ix (rfl : l_12.toInt = l_12.toInt)]; omega) (by omega) ⟨by rw [← en_34]; omega, by rw [← en_34, ← en_42]; omega⟩) (by omega) (by omega) _ _ _ hP hD hS (lv_sub hl [0, 1, 2] rfl)
              · have gc_43 : n_42.toInt ≠ (-1) := i_ne (rfl : n_42.toInt = n_42.toInt) (by decide : ((-1) : Int32).toInt = (-1)) c_43
                refine lv_aload_n hx hb dX10_plan_63 rfl (lv_at hl 1 rfl) ?_
                refine gt_MD_MD_tape hx hb hts hown hK hP lwd_155 dX10_plan_64 ?_
                refine lv_iload_n hx hb dX10_plan_67 rfl (lv_at hl 0 rfl) ?_
                refine al_m_tape hx hb hK hP hr_m_tape (i_in (rfl : l_12.toInt = l_12.toInt) (by omega) (by omega)) dX10_plan_68 (fun n_45 en_45 bn_45 => ?_)
                obtain rfl : n_34 = n_45 := en_34.trans en_45.symm
                refine lv_aload_n hx hb dX10_plan_69 rfl (lv_at hl 1 rfl) ?_
                refine gt_MD_MD_owner hx hb hts hown hK hP lwd_161 dX10_plan_70 ?_
                refine lv_iload_n hx hb dX10_plan_73 rfl (lv_at hl 0 rfl) ?_
                refine al_m_owner hx hb hK hP hr_m_owner (i_in (rfl : l_12.toInt = l_12.toInt) (by omega) (by omega)) dX10_plan_74 (fun n_46 en_46 bn_46 => ?_)
                obtain rfl : n_42 = n_46 := en_42.trans en_46.symm
                refine lv_icmp_eq (tgt := 80) hx hb dX10_plan_75 (by decide) (fun c_47 => ?_) (fun c_47 => ?_)
                · have gc_47 : n_34.toInt = n_42.toInt := i_eq (rfl : n_34.toInt = n_34.toInt) (rfl : n_42.toInt = n_42.toInt) c_47
                  obtain ⟨n_48, en_48⟩ : ∃ y : Int32, y = l_12 + 1 := ⟨_, rfl⟩
                  have tn_48 : n_48.toInt = l_12.toInt + 1 := i_add en_48 (rfl : l_12.toInt = l_12.toInt) (by decide : (1 : Int32).toInt = 1) (by omega) (by omega)
                  refine lv_iinc (v := n_48) (lv' := [(2, .int n_48), (0, .ref (hm 0)), (1, .int k)]) hx hb dX10_plan_80 hl (k := 0) rfl (by rw [en_48]; rfl) (by decide) rfl (fun ls hl => ?_)
                  refine lv_goto (tgt := 32) hx hb dX10_plan_83 (by decide) ?_
                  exact ih32_13 n_48 (by omega) (pall_step (x := l_12.toNatClampNeg) hL32_13_1 (by rw [i_ix (rfl : l_12.toInt = l_12.toInt)]; omega) (by omega) ⟨by rw [← en_34]; omega, by rw [← en_34, ← en_42]; omega⟩) (by omega) (by omega) _ _ _ hP hD hS (lv_sub hl [0, 1, 2] rfl)
                · have gc_47 : n_34.toInt ≠ n_42.toInt := i_ne (rfl : n_34.toInt = n_34.toInt) (rfl : n_42.toInt = n_42.toInt) c_47
                  refine lv_iconst (v := 0) hx hb dX10_plan_78 (by decide) ?_
                  have k_49 : (0 : Int32).toInt = 0 := by decide
                  have k_50 : (0 : Int32).toInt = 0 := by decide
                  exact hrt 0 0 v_planned v_isMarch f_m_planTo ⟨(by omega), (Or.inr ⟨by omega, by omega, Or.inr ⟨by omega, fun h => by
                    have g9 := h l_12.toNatClampNeg (by rw [i_ix (rfl : l_12.toInt = l_12.toInt)]; omega)
                    unfold pgood at g9
                    rw [← en_34, ← en_42] at g9
                    omega, rfl, by omega⟩⟩), (by omega), (by omega)⟩ hP hD hS rfl dX10_plan_79
      have k_51 : (0 : Int32).toInt = 0 := by decide
      exact L32_13 8589934592 0 (by omega) (fun j hj => absurd hj (by omega)) (by omega) (by omega) _ _ _ hP hD hS (lv_sub hl [0, 1, 2] rfl)
    · have gc_10 : v_taped.toInt < v_loads.toInt := i_nle (rfl : v_loads.toInt = v_loads.toInt) (rfl : v_taped.toInt = v_taped.toInt) c_10
      refine lv_iconst (v := 0) hx hb dX10_plan_23 (by decide) ?_
      have k_52 : (0 : Int32).toInt = 0 := by decide
      exact hrt 0 v_taped v_planned v_isMarch f_m_planTo ⟨(by omega), (Or.inl ⟨by omega, by omega, by omega, rfl, by omega⟩), (by omega), (by omega)⟩ hP hD hS rfl dX10_plan_24
set_option maxHeartbeats 16000000 in
set_option maxRecDepth 100000 in
theorem c_X10_march_q (l : Launch) (D : va_G) (cy : Nat → ClassId) (hm : Nat → Nat) (v_taped v_walkers v_loads v_pieces v_changeCosts v_planned v_isMarch v_clauseMany v_place v_end v_bad v_clauses v_codes v_open v_stacked v_isOver v_isBehind v_atW v_atL v_atT v_atH v_atM v_atI v_atQ v_packing v_packed v_goPace v_goMinutes v_spentAt v_ranChanges : Int32) (f_m_tape f_m_knee f_m_weight f_m_isLame f_m_loadWeight f_m_owner f_m_food f_m_miles f_m_slope f_m_clauseLetter f_m_sumFrom f_m_codeFrom f_m_codeTo f_m_code f_m_codeArg f_m_newLetter f_m_newSum f_m_newFrom f_m_newTo f_m_newCode f_m_newArg f_m_stack f_m_worth f_m_isRefused f_m_least f_m_packPounds f_m_packOwner f_m_room f_m_givenTo f_m_canBe f_m_setPounds f_m_plainTime f_m_muleTime f_m_planTo f_m_march f_m_tired f_m_ranMinutes f_m_tiredAhead f_m_isReached f_m_toEnd f_m_upTo f_m_upNext f_m_byChanges f_m_bandPaces : Nat → Int32) (sz : Nat) (n1 : Int32) (hb_v_taped : 0 ≤ v_taped.toInt ∧ v_taped.toInt ≤ 220) (hb_v_walkers : 0 ≤ v_walkers.toInt ∧ v_walkers.toInt ≤ 6) (hb_v_pieces : 0 ≤ v_pieces.toInt ∧ v_pieces.toInt ≤ 10) (hb_v_isMarch : 0 ≤ v_isMarch.toInt ∧ v_isMarch.toInt ≤ 1) (hr_m_tape : rg (-128) 127 f_m_tape) (hr_m_march : rg (0) 17 f_m_march) : gMi l yX10_march cX10_march 3 .boolean 2 [.ref (hm 0), .int n1] D cy (wMD cy hm v_taped v_walkers v_loads v_pieces v_changeCosts v_planned v_isMarch v_clauseMany v_place v_end v_bad v_clauses v_codes v_open v_stacked v_isOver v_isBehind v_atW v_atL v_atT v_atH v_atM v_atI v_atQ v_packing v_packed v_goPace v_goMinutes v_spentAt v_ranChanges f_m_tape f_m_knee f_m_weight f_m_isLame f_m_loadWeight f_m_owner f_m_food f_m_miles f_m_slope f_m_clauseLetter f_m_sumFrom f_m_codeFrom f_m_codeTo f_m_code f_m_codeArg f_m_newLetter f_m_newSum f_m_newFrom f_m_newTo f_m_newCode f_m_newArg f_m_stack f_m_worth f_m_isRefused f_m_least f_m_packPounds f_m_packOwner f_m_room f_m_givenTo f_m_canBe f_m_setPounds f_m_plainTime f_m_muleTime f_m_planTo f_m_march f_m_tired f_m_ranMinutes f_m_tiredAhead f_m_isReached f_m_toEnd f_m_upTo f_m_upNext f_m_byChanges f_m_bandPaces) NT sz (fun (r : Int32) (u : Int32 × Int32 × (Nat → Int32)) => (0 ≤ r.toInt ∧ r.toInt ≤ 1) ∧ ((¬ (1 ≤ n1.toInt ∧ n1.toInt = v_pieces.toInt ∧ v_walkers.toInt ≠ 0 ∧ n1.toInt ≤ v_taped.toInt) ∧ r.toInt = 0 ∧ (u.1).toInt = v_taped.toInt ∧ (u.2.1).toInt = v_isMarch.toInt) ∨ ((1 ≤ n1.toInt ∧ n1.toInt = v_pieces.toInt ∧ v_walkers.toInt ≠ 0 ∧ n1.toInt ≤ v_taped.toInt) ∧ (u.1).toInt = 0 ∧ ((r.toInt = 1 ∧ mall v_planned f_m_tape n1.toInt ∧ (u.2.1).toInt = 1) ∨ (r.toInt = 0 ∧ ¬ mall v_planned f_m_tape n1.toInt ∧ (u.2.1).toInt = v_isMarch.toInt)))) ∧ (0 ≤ (u.1).toInt ∧ (u.1).toInt ≤ 220) ∧ (0 ≤ (u.2.1).toInt ∧ (u.2.1).toInt ≤ 1) ∧ (rg (0) 17 (u.2.2))) (fun u => wMD cy hm (u.1) v_walkers v_loads v_pieces v_changeCosts v_planned (u.2.1) v_clauseMany v_place v_end v_bad v_clauses v_codes v_open v_stacked v_isOver v_isBehind v_atW v_atL v_atT v_atH v_atM v_atI v_atQ v_packing v_packed v_goPace v_goMinutes v_spentAt v_ranChanges f_m_tape f_m_knee f_m_weight f_m_isLame f_m_loadWeight f_m_owner f_m_food f_m_miles f_m_slope f_m_clauseLetter f_m_sumFrom f_m_codeFrom f_m_codeTo f_m_code f_m_codeArg f_m_newLetter f_m_newSum f_m_newFrom f_m_newTo f_m_newCode f_m_newArg f_m_stack f_m_worth f_m_isRefused f_m_least f_m_packPounds f_m_packOwner f_m_room f_m_givenTo f_m_canBe f_m_setPounds f_m_plainTime f_m_muleTime f_m_planTo (u.2.2) f_m_tired f_m_ranMinutes f_m_tiredAhead f_m_isReached f_m_toEnd f_m_upTo f_m_upNext f_m_byChanges f_m_bandPaces) := by
  refine gMi_in (by decide) (Nat.le_of_ble_eq_true rfl) ?_
  intro p e s m args below meth c A ls Q hx hb hml hts hown hsz hP hK hD hN hAe hA hS hl hret
  subst hsz
  have hl : lv_has ls 3 [(0, .ref (hm 0)), (1, .int n1)] := hl
  have hrt := fun (r : Int32) (v_taped' : Int32) (v_isMarch' : Int32) (f_m_march' : Nat → Int32) (hp : (0 ≤ r.toInt ∧ r.toInt ≤ 1) ∧ ((¬ (1 ≤ n1.toInt ∧ n1.toInt = v_pieces.toInt ∧ v_walkers.toInt ≠ 0 ∧ n1.toInt ≤ v_taped.toInt) ∧ r.toInt = 0 ∧ v_taped'.toInt = v_taped.toInt ∧ v_isMarch'.toInt = v_isMarch.toInt) ∨ ((1 ≤ n1.toInt ∧ n1.toInt = v_pieces.toInt ∧ v_walkers.toInt ≠ 0 ∧ n1.toInt ≤ v_taped.toInt) ∧ v_taped'.toInt = 0 ∧ ((r.toInt = 1 ∧ mall v_planned f_m_tape n1.toInt ∧ v_isMarch'.toInt = 1) ∨ (r.toInt = 0 ∧ ¬ mall v_planned f_m_tape n1.toInt ∧ v_isMarch'.toInt = v_isMarch.toInt)))) ∧ (0 ≤ v_taped'.toInt ∧ v_taped'.toInt ≤ 220) ∧ (0 ≤ v_isMarch'.toInt ∧ v_isMarch'.toInt ≤ 1) ∧ (rg (0) 17 f_m_march')) {H : Heap} {locs : List Loc} {pc : Nat} {ls : Array Slot} => hret r (v_taped', v_isMarch', f_m_march') (H := H) (locs := locs) (pc := pc) (ls := ls) hp
  clear hret
  refine lv_aload_n hx hb dX10_march_0 rfl (lv_at hl 0 rfl) ?_
  refine gt_MD_MD_pieces hx hb hts hown hK hP lwd_265 dX10_march_1 ?_
  refine lv_if_eq (tgt := 30) hx hb dX10_march_4 (by decide) (fun c_1 => ?_) (fun c_1 => ?_)
  · have gc_1 : v_pieces.toInt = 0 := i_eq (rfl : v_pieces.toInt = v_pieces.toInt) (by decide : (0 : Int32).toInt = 0) c_1
    refine lv_iconst (v := 0) hx hb dX10_march_30 (by decide) ?_
    have k_2 : (0 : Int32).toInt = 0 := by decide
    exact hrt 0 v_taped v_isMarch f_m_march ⟨(by omega), (Or.inl ⟨by omega, by omega, by omega, by omega⟩), (by omega), (by omega), hr_m_march⟩ hP hD hS rfl dX10_march_31
  · have gc_1 : v_pieces.toInt ≠ 0 := i_ne (rfl : v_pieces.toInt = v_pieces.toInt) (by decide : (0 : Int32).toInt = 0) c_1
    refine lv_iload_n hx hb dX10_march_7 rfl (lv_at hl 1 rfl) ?_
    refine lv_aload_n hx hb dX10_march_8 rfl (lv_at hl 0 rfl) ?_
    refine gt_MD_MD_pieces hx hb hts hown hK hP lwd_265 dX10_march_9 ?_
    refine lv_icmp_ne (tgt := 30) hx hb dX10_march_12 (by decide) (fun c_3 => ?_) (fun c_3 => ?_)
    · have gc_3 : n1.toInt ≠ v_pieces.toInt := i_ne (rfl : n1.toInt = n1.toInt) (rfl : v_pieces.toInt = v_pieces.toInt) c_3
      refine lv_iconst (v := 0) hx hb dX10_march_30 (by decide) ?_
      have k_4 : (0 : Int32).toInt = 0 := by decide
      exact hrt 0 v_taped v_isMarch f_m_march ⟨(by omega), (Or.inl ⟨by omega, by omega, by omega, by omega⟩), (by omega), (by omega), hr_m_march⟩ hP hD hS rfl dX10_march_31
    · have gc_3 : n1.toInt = v_pieces.toInt := i_eq (rfl : n1.toInt = n1.toInt) (rfl : v_pieces.toInt = v_pieces.toInt) c_3
      refine lv_iload_n hx hb dX10_march_15 rfl (lv_at hl 1 rfl) ?_
      refine lv_aload_n hx hb dX10_march_16 rfl (lv_at hl 0 rfl) ?_
      refine gt_MD_MD_taped hx hb hts hown hK hP lwd_298 dX10_march_17 ?_
      refine lv_icmp_gt (tgt := 30) hx hb dX10_march_20 (by decide) (fun c_5 => ?_) (fun c_5 => ?_)
      · have gc_5 : v_taped.toInt < n1.toInt := i_lt (rfl : v_taped.toInt = v_taped.toInt) (rfl : n1.toInt = n1.toInt) c_5
        refine lv_iconst (v := 0) hx hb dX10_march_30 (by decide) ?_
        have k_6 : (0 : Int32).toInt = 0 := by decide
        exact hrt 0 v_taped v_isMarch f_m_march ⟨(by omega), (Or.inl ⟨by omega, by omega, by omega, by omega⟩), (by omega), (by omega), hr_m_march⟩ hP hD hS rfl dX10_march_31
      · have gc_5 : n1.toInt ≤ v_taped.toInt := i_nlt (rfl : v_taped.toInt = v_taped.toInt) (rfl : n1.toInt = n1.toInt) c_5
        refine lv_aload_n hx hb dX10_march_23 rfl (lv_at hl 0 rfl) ?_
        refine gt_MD_MD_walkers hx hb hts hown hK hP lwd_221 dX10_march_24 ?_
        refine lv_if_ne (tgt := 32) hx hb dX10_march_27 (by decide) (fun c_7 => ?_) (fun c_7 => ?_)
        · have gc_7 : v_walkers.toInt ≠ 0 := i_ne (rfl : v_walkers.toInt = v_walkers.toInt) (by decide : (0 : Int32).toInt = 0) c_7
          refine lv_aload_n hx hb dX10_march_32 rfl (lv_at hl 0 rfl) ?_
          refine lv_iconst (v := 0) hx hb dX10_march_33 (by decide) ?_
          refine pt_MD_MD_taped (x := 0) hx hb hts hown hK hP hD hS lwd_298 dX10_march_34 (fun H locs hP hD hS => ?_)
          refine lv_iconst (v := 0) hx hb dX10_march_37 (by decide) ?_
          refine lv_istore_n (lv' := [(2, .int 0), (0, .ref (hm 0)), (1, .int n1)]) hx hb dX10_march_38 rfl hl (by decide) rfl (fun ls hl => ?_)
          have L39_10 : ∀ (n : Nat) (l_9 : Int32), (0 ≤ l_9.toInt ∧ l_9.toInt ≤ 10) → (∀ j : Nat, (j : Int) < l_9.toInt → 0 ≤ (f_m_tape j).toInt ∧ (f_m_tape j).toInt ≤ 17) → (mall v_planned f_m_tape l_9.toInt) → (l_9.toInt ≤ n1.toInt) → 11 - l_9.toInt < n → ∀ (H : Heap) (locs : List Loc) (ls : Array Slot), va_P D vwCl (wMD cy hm 0 v_walkers v_loads v_pieces v_changeCosts v_planned v_isMarch v_clauseMany v_place v_end v_bad v_clauses v_codes v_open v_stacked v_isOver v_isBehind v_atW v_atL v_atT v_atH v_atM v_atI v_atQ v_packing v_packed v_goPace v_goMinutes v_spentAt v_ranChanges f_m_tape f_m_knee f_m_weight f_m_isLame f_m_loadWeight f_m_owner f_m_food f_m_miles f_m_slope f_m_clauseLetter f_m_sumFrom f_m_codeFrom f_m_codeTo f_m_code f_m_codeArg f_m_newLetter f_m_newSum f_m_newFrom f_m_newTo f_m_newCode f_m_newArg f_m_stack f_m_worth f_m_isRefused f_m_least f_m_packPounds f_m_packOwner f_m_room f_m_givenTo f_m_canBe f_m_setPounds f_m_plainTime f_m_muleTime f_m_planTo f_m_march f_m_tired f_m_ranMinutes f_m_tiredAhead f_m_isReached f_m_toEnd f_m_upTo f_m_upNext f_m_byChanges f_m_bandPaces) H → va_D A (wMD cy hm 0 v_walkers v_loads v_pieces v_changeCosts v_planned v_isMarch v_clauseMany v_place v_end v_bad v_clauses v_codes v_open v_stacked v_isOver v_isBehind v_atW v_atL v_atT v_atH v_atM v_atI v_atQ v_packing v_packed v_goPace v_goMinutes v_spentAt v_ranChanges f_m_tape f_m_knee f_m_weight f_m_isLame f_m_loadWeight f_m_owner f_m_food f_m_miles f_m_slope f_m_clauseLetter f_m_sumFrom f_m_codeFrom f_m_codeTo f_m_code f_m_codeArg f_m_newLetter f_m_newSum f_m_newFrom f_m_newTo f_m_newCode f_m_newArg f_m_stack f_m_worth f_m_isRefused f_m_least f_m_packPounds f_m_packOwner f_m_room f_m_givenTo f_m_canBe f_m_setPounds f_m_plainTime f_m_muleTime f_m_planTo f_m_march f_m_tired f_m_ranMinutes f_m_tiredAhead f_m_isReached f_m_toEnd f_m_upTo f_m_upNext f_m_byChanges f_m_bandPaces) → va_S A s.heap H locs → lv_has ls 3 [(2, .int l_9), (0, .ref (hm 0)), (1, .int n1)] → W p l e (gRm 2) s m args below meth c H locs 0 0 Q (F0 m 39 ls []) := by
            intro n
            induction n with
            | zero => intro l_9 hL39_10_0 hL39_10_1 hL39_10_2 hL39_10_3 hm; exact absurd hm (by omega)
            | succ n ih39_10 =>
              intro l_9 hL39_10_0 hL39_10_1 hL39_10_2 hL39_10_3 hmL39_10 H locs ls hP hD hS hl
              refine lv_iload_n hx hb dX10_march_39 rfl (lv_at hl 0 rfl) ?_
              refine lv_iload_n hx hb dX10_march_40 rfl (lv_at hl 2 rfl) ?_
              refine lv_icmp_ge (tgt := 88) hx hb dX10_march_41 (by decide) (fun c_11 => ?_) (fun c_11 => ?_)
              · have gc_11 : n1.toInt ≤ l_9.toInt := i_le (rfl : n1.toInt = n1.toInt) (rfl : l_9.toInt = l_9.toInt) c_11
                skip
                have hma9 : mall v_planned f_m_tape n1.toInt := by rw [show n1.toInt = l_9.toInt from by omega]; exact hL39_10_2
                skip
                refine lv_iconst (v := 0) hx hb dX10_march_88 (by decide) ?_
                refine lv_istore_n (lv' := [(2, .int 0), (0, .ref (hm 0)), (1, .int n1)]) hx hb dX10_march_89 rfl hl (by decide) rfl (fun ls hl => ?_)
                have L90_16 : ∀ (n : Nat) (f_14 : Nat → Int32) (l_15 : Int32), (rg (0) 17 f_14) → (0 ≤ l_15.toInt ∧ l_15.toInt ≤ 10) → 11 - l_15.toInt < n → ∀ (H : Heap) (locs : List Loc) (ls : Array Slot), va_P D vwCl (wMD cy hm 0 v_walkers v_loads v_pieces v_changeCosts v_planned v_isMarch v_clauseMany v_place v_end v_bad v_clauses v_codes v_open v_stacked v_isOver v_isBehind v_atW v_atL v_atT v_atH v_atM v_atI v_atQ v_packing v_packed v_goPace v_goMinutes v_spentAt v_ranChanges f_m_tape f_m_knee f_m_weight f_m_isLame f_m_loadWeight f_m_owner f_m_food f_m_miles f_m_slope f_m_clauseLetter f_m_sumFrom f_m_codeFrom f_m_codeTo f_m_code f_m_codeArg f_m_newLetter f_m_newSum f_m_newFrom f_m_newTo f_m_newCode f_m_newArg f_m_stack f_m_worth f_m_isRefused f_m_least f_m_packPounds f_m_packOwner f_m_room f_m_givenTo f_m_canBe f_m_setPounds f_m_plainTime f_m_muleTime f_m_planTo f_14 f_m_tired f_m_ranMinutes f_m_tiredAhead f_m_isReached f_m_toEnd f_m_upTo f_m_upNext f_m_byChanges f_m_bandPaces) H → va_D A (wMD cy hm 0 v_walkers v_loads v_pieces v_changeCosts v_planned v_isMarch v_clauseMany v_place v_end v_bad v_clauses v_codes v_open v_stacked v_isOver v_isBehind v_atW v_atL v_atT v_atH v_atM v_atI v_atQ v_packing v_packed v_goPace v_goMinutes v_spentAt v_ranChanges f_m_tape f_m_knee f_m_weight f_m_isLame f_m_loadWeight f_m_owner f_m_food f_m_miles f_m_slope f_m_clauseLetter f_m_sumFrom f_m_codeFrom f_m_codeTo f_m_code f_m_codeArg f_m_newLetter f_m_newSum f_m_newFrom f_m_newTo f_m_newCode f_m_newArg f_m_stack f_m_worth f_m_isRefused f_m_least f_m_packPounds f_m_packOwner f_m_room f_m_givenTo f_m_canBe f_m_setPounds f_m_plainTime f_m_muleTime f_m_planTo f_14 f_m_tired f_m_ranMinutes f_m_tiredAhead f_m_isReached f_m_toEnd f_m_upTo f_m_upNext f_m_byChanges f_m_bandPaces) → va_S A s.heap H locs → lv_has ls 3 [(2, .int l_15), (0, .ref (hm 0)), (1, .int n1)] → W p l e (gRm 2) s m args below meth c H locs 0 0 Q (F0 m 90 ls []) := by
                  intro n
                  induction n with
                  | zero => intro f_14 l_15 hL90_16_0 hL90_16_1 hm; exact absurd hm (by omega)
                  | succ n ih90_16 =>
                    intro f_14 l_15 hL90_16_0 hL90_16_1 hmL90_16 H locs ls hP hD hS hl
                    refine lv_iload_n hx hb dX10_march_90 rfl (lv_at hl 0 rfl) ?_
                    refine lv_iload_n hx hb dX10_march_91 rfl (lv_at hl 2 rfl) ?_
                    refine lv_icmp_ge (tgt := 113) hx hb dX10_march_92 (by decide) (fun c_17 => ?_) (fun c_17 => ?_)
                    · have gc_17 : n1.toInt ≤ l_15.toInt := i_le (rfl : n1.toInt = n1.toInt) (rfl : l_15.toInt = l_15.toInt) c_17
                      refine lv_aload_n hx hb dX10_march_113 rfl (lv_at hl 1 rfl) ?_
                      refine lv_iconst (v := 1) hx hb dX10_march_114 (by decide) ?_
                      refine pt_MD_MD_isMarch (x := 1) hx hb hts hown hK hP hD hS lwd_225 (by decide) dX10_march_115 (fun H locs hP hD hS => ?_)
                      refine lv_iconst (v := 1) hx hb dX10_march_118 (by decide) ?_
                      have k_18 : (0 : Int32).toInt = 0 := by decide
                      have k_19 : (1 : Int32).toInt = 1 := by decide
                      have k_20 : (1 : Int32).toInt = 1 := by decide
                      exact hrt 1 0 1 f_14 ⟨(by omega), (Or.inr ⟨by omega, by omega, Or.inl ⟨by omega, hma9, by omega⟩⟩), (by omega), (by omega), hL90_16_0⟩ hP hD hS rfl dX10_march_119
                    · have gc_17 : l_15.toInt < n1.toInt := i_nle (rfl : n1.toInt = n1.toInt) (rfl : l_15.toInt = l_15.toInt) c_17
                      refine lv_aload_n hx hb dX10_march_95 rfl (lv_at hl 1 rfl) ?_
                      refine gt_MD_MD_march hx hb hts hown hK hP lwd_190 dX10_march_96 ?_
                      refine lv_iload_n hx hb dX10_march_99 rfl (lv_at hl 0 rfl) ?_
                      refine lv_aload_n hx hb dX10_march_100 rfl (lv_at hl 1 rfl) ?_
                      refine gt_MD_MD_tape hx hb hts hown hK hP lwd_155 dX10_march_101 ?_
                      refine lv_iload_n hx hb dX10_march_104 rfl (lv_at hl 0 rfl) ?_
                      refine al_m_tape hx hb hK hP hr_m_tape (i_in (rfl : l_15.toInt = l_15.toInt) (by omega) (by omega)) dX10_march_105 (fun n_21 en_21 bn_21 => ?_)
                      have hm9 := hL39_10_1 l_15.toNatClampNeg (by rw [i_ix (rfl : l_15.toInt = l_15.toInt)]; omega)
                      rw [← en_21] at hm9
                      refine as_m_march (x := n_21) hx hb hK hP hD hS hL90_16_0 (i_in (rfl : l_15.toInt = l_15.toInt) (by omega) (by omega)) (by omega) dX10_march_106 (fun f_22 ef_22 rf_22 H locs hP hD hS => ?_)
                      obtain ⟨n_23, en_23⟩ : ∃ y : Int32, y = l_15 + 1 := ⟨_, rfl⟩
                      have tn_23 : n_23.toInt = l_15.toInt + 1 := i_add en_23 (rfl : l_15.toInt = l_15.toInt) (by decide : (1 : Int32).toInt = 1) (by omega) (by omega)
                      refine lv_iinc (v := n_23) (lv' := [(2, .int n_23), (0, .ref (hm 0)), (1, .int n1)]) hx hb dX10_march_107 hl (k := 0) rfl (by rw [en_23]; rfl) (by decide) rfl (fun ls hl => ?_)
                      refine lv_goto (tgt := 90) hx hb dX10_march_110 (by decide) ?_
                      exact ih90_16 f_22 n_23 rf_22 (by omega) (by omega) _ _ _ hP hD hS (lv_sub hl [0, 1, 2] rfl)
                have k_24 : (0 : Int32).toInt = 0 := by decide
                exact L90_16 8589934592 f_m_march 0 hr_m_march (by omega) (by omega) _ _ _ hP hD hS (lv_sub hl [0, 1, 2] rfl)
              · have gc_11 : l_9.toInt < n1.toInt := i_nle (rfl : n1.toInt = n1.toInt) (rfl : l_9.toInt = l_9.toInt) c_11
                skip
                refine lv_aload_n hx hb dX10_march_44 rfl (lv_at hl 1 rfl) ?_
                refine gt_MD_MD_tape hx hb hts hown hK hP lwd_155 dX10_march_45 ?_
                refine lv_iload_n hx hb dX10_march_48 rfl (lv_at hl 0 rfl) ?_
                refine al_m_tape hx hb hK hP hr_m_tape (i_in (rfl : l_9.toInt = l_9.toInt) (by omega) (by omega)) dX10_march_49 (fun n_25 en_25 bn_25 => ?_)
                refine lv_i2l (v := n_25.toInt64) hx hb dX10_march_50 rfl ?_
                have hl_26 : n_25.toInt64.toInt = n_25.toInt := i_l (rfl : n_25.toInt = n_25.toInt)
                refine lv_lconst (v := 0) hx hb dX10_march_51 (by decide) ?_
                refine lv_ldc2 hx hb hown (hts _ lwd_920) dX10_march_52 ?_
                have k_27 : (0 : Int64).toInt = 0 := by decide
                have k_28 : (17 : Int64).toInt = 17 := by decide
                refine xi hD hS hA (xS (As := [.long n_25.toInt64, .long 0, .long 17]) (rest := []) hx hb hml hown hts hK hP hD hS hA NT_ok hN hAe hl.1 ⟨Nat.le_refl _, Nat.le_refl _⟩ (c_X10_lies l D cy hm 0 v_walkers v_loads v_pieces v_changeCosts v_planned v_isMarch v_clauseMany v_place v_end v_bad v_clauses v_codes v_open v_stacked v_isOver v_isBehind v_atW v_atL v_atT v_atH v_atM v_atI v_atQ v_packing v_packed v_goPace v_goMinutes v_spentAt v_ranChanges f_m_tape f_m_knee f_m_weight f_m_isLame f_m_loadWeight f_m_owner f_m_food f_m_miles f_m_slope f_m_clauseLetter f_m_sumFrom f_m_codeFrom f_m_codeTo f_m_code f_m_codeArg f_m_newLetter f_m_newSum f_m_newFrom f_m_newTo f_m_newCode f_m_newArg f_m_stack f_m_worth f_m_isRefused f_m_least f_m_packPounds f_m_packOwner f_m_room f_m_givenTo f_m_canBe f_m_setPounds f_m_plainTime f_m_muleTime f_m_planTo f_m_march f_m_tired f_m_ranMinutes f_m_tiredAhead f_m_isReached f_m_toEnd f_m_upTo f_m_upNext f_m_byChanges f_m_bandPaces H.size n_25.toInt64 0 17) (gi_S lwd_226 lwd_227 lwd_5 lwd_228) hd_X10_lies ⟨Nat.le_of_ble_eq_true rfl, Nat.le_of_ble_eq_true rfl⟩ rfl (Nat.le_of_ble_eq_true rfl) dX10_march_55) (fun r_30 u_29 H locs hw hP hD hS => ?_)
                try dsimp only at hw hP hD
                obtain ⟨p_31, p_32⟩ := hw
                refine lv_if_eq (tgt := 80) hx hb dX10_march_58 (by decide) (fun c_33 => ?_) (fun c_33 => ?_)
                · have gc_33 : r_30.toInt = 0 := i_eq (rfl : r_30.toInt = r_30.toInt) (by decide : (0 : Int32).toInt = 0) c_33
                  refine lv_iconst (v := 0) hx hb dX10_march_80 (by decide) ?_
                  have k_34 : (0 : Int32).toInt = 0 := by decide
                  have k_35 : (0 : Int32).toInt = 0 := by decide
                  exact hrt 0 0 v_isMarch f_m_march ⟨(by omega), (Or.inr ⟨by omega, by omega, Or.inr ⟨by omega, fun h => by
                    have g9 := h l_9.toNatClampNeg (by rw [i_ix (rfl : l_9.toInt = l_9.toInt)]; omega)
                    unfold mgood at g9
                    rw [← en_25] at g9
                    omega, by omega⟩⟩), (by omega), (by omega), hr_m_march⟩ hP hD hS rfl dX10_march_81
                · have gc_33 : r_30.toInt ≠ 0 := i_ne (rfl : r_30.toInt = r_30.toInt) (by decide : (0 : Int32).toInt = 0) c_33
                  refine lv_aload_n hx hb dX10_march_61 rfl (lv_at hl 1 rfl) ?_
                  refine gt_MD_MD_planned hx hb hts hown hK hP lwd_249 dX10_march_62 ?_
                  refine lv_aload_n hx hb dX10_march_65 rfl (lv_at hl 1 rfl) ?_
                  refine gt_MD_MD_tape hx hb hts hown hK hP lwd_155 dX10_march_66 ?_
                  refine lv_iload_n hx hb dX10_march_69 rfl (lv_at hl 0 rfl) ?_
                  refine al_m_tape hx hb hK hP hr_m_tape (i_in (rfl : l_9.toInt = l_9.toInt) (by omega) (by omega)) dX10_march_70 (fun n_36 en_36 bn_36 => ?_)
                  obtain rfl : n_25 = n_36 := en_25.trans en_36.symm
                  refine lv_bipush (v := 6) hx hb dX10_march_71 (by decide) ?_
                  refine lv_irem hx hb dX10_march_73 (by decide) ?_
                  refine lv_topi (fun n_37 en_37 => ?_)
                  have bn_37 : -5 ≤ n_37.toInt ∧ n_37.toInt ≤ 5 := i_remc en_37 (by decide : (6 : Int32).toInt = 6) (by decide)
                  skip
                  refine xi hD hS hA (xS (As := [.int v_planned, .int n_37]) (rest := []) hx hb hml hown hts hK hP hD hS hA NT_ok hN hAe hl.1 ⟨Nat.le_refl _, Nat.le_refl _⟩ (c_X10_has l D cy hm 0 v_walkers v_loads v_pieces v_changeCosts v_planned v_isMarch v_clauseMany v_place v_end v_bad v_clauses v_codes v_open v_stacked v_isOver v_isBehind v_atW v_atL v_atT v_atH v_atM v_atI v_atQ v_packing v_packed v_goPace v_goMinutes v_spentAt v_ranChanges f_m_tape f_m_knee f_m_weight f_m_isLame f_m_loadWeight f_m_owner f_m_food f_m_miles f_m_slope f_m_clauseLetter f_m_sumFrom f_m_codeFrom f_m_codeTo f_m_code f_m_codeArg f_m_newLetter f_m_newSum f_m_newFrom f_m_newTo f_m_newCode f_m_newArg f_m_stack f_m_worth f_m_isRefused f_m_least f_m_packPounds f_m_packOwner f_m_room f_m_givenTo f_m_canBe f_m_setPounds f_m_plainTime f_m_muleTime f_m_planTo f_m_march f_m_tired f_m_ranMinutes f_m_tiredAhead f_m_isReached f_m_toEnd f_m_upTo f_m_upNext f_m_byChanges f_m_bandPaces H.size v_planned n_37) (gi_S lwd_750 lwd_751 lwd_5 lwd_752) hd_X10_has ⟨Nat.le_of_ble_eq_true rfl, Nat.le_of_ble_eq_true rfl⟩ rfl (Nat.le_of_ble_eq_true rfl) dX10_march_74) (fun r_39 u_38 H locs hw hP hD hS => ?_)
                  try dsimp only at hw hP hD
                  obtain ⟨p_40, p_41⟩ := hw
                  refine lv_if_ne (tgt := 82) hx hb dX10_march_77 (by decide) (fun c_42 => ?_) (fun c_42 => ?_)
                  · have gc_42 : r_39.toInt ≠ 0 := i_ne (rfl : r_39.toInt = r_39.toInt) (by decide : (0 : Int32).toInt = 0) c_42
                    obtain ⟨n_43, en_43⟩ : ∃ y : Int32, y = l_9 + 1 := ⟨_, rfl⟩
                    have tn_43 : n_43.toInt = l_9.toInt + 1 := i_add en_43 (rfl : l_9.toInt = l_9.toInt) (by decide : (1 : Int32).toInt = 1) (by omega) (by omega)
                    refine lv_iinc (v := n_43) (lv' := [(2, .int n_43), (0, .ref (hm 0)), (1, .int n1)]) hx hb dX10_march_82 hl (k := 0) rfl (by rw [en_43]; rfl) (by decide) rfl (fun ls hl => ?_)
                    refine lv_goto (tgt := 39) hx hb dX10_march_85 (by decide) ?_
                    exact ih39_10 n_43 (by omega) (fun j hj => by
                      by_cases q : (j : Int) < l_9.toInt
                      · exact hL39_10_1 j q
                      · have e9 : j = l_9.toNatClampNeg := by rw [i_ix rfl]; omega
                        rw [e9, ← en_25]; omega) (mall_step (x := l_9.toNatClampNeg) hL39_10_2 (by rw [i_ix (rfl : l_9.toInt = l_9.toInt)]; omega) (by omega) ⟨by rw [← en_25]; omega, by rw [← en_25, ← en_37]; exact p_41.elim (fun q => q.2) (fun q => absurd q.1 (by omega))⟩) (by omega) (by omega) _ _ _ hP hD hS (lv_sub hl [0, 1, 2] rfl)
                  · have gc_42 : r_39.toInt = 0 := i_eq (rfl : r_39.toInt = r_39.toInt) (by decide : (0 : Int32).toInt = 0) c_42
                    refine lv_iconst (v := 0) hx hb dX10_march_80 (by decide) ?_
                    have k_44 : (0 : Int32).toInt = 0 := by decide
                    have k_45 : (0 : Int32).toInt = 0 := by decide
                    exact hrt 0 0 v_isMarch f_m_march ⟨(by omega), (Or.inr ⟨by omega, by omega, Or.inr ⟨by omega, fun h => by
                      have g9 := h l_9.toNatClampNeg (by rw [i_ix (rfl : l_9.toInt = l_9.toInt)]; omega)
                      unfold mgood at g9
                      rw [← en_25] at g9
                      rw [← en_37] at g9
                      exact p_41.elim (fun q => absurd q.1 (by omega)) (fun q => q.2 g9.2), by omega⟩⟩), (by omega), (by omega), hr_m_march⟩ hP hD hS rfl dX10_march_81
          have k_46 : (0 : Int32).toInt = 0 := by decide
          exact L39_10 8589934592 0 (by omega) (fun j hj => absurd hj (by omega)) (fun j hj => absurd hj (by omega)) (by omega) (by omega) _ _ _ hP hD hS (lv_sub hl [0, 1, 2] rfl)
        · have gc_7 : v_walkers.toInt = 0 := i_eq (rfl : v_walkers.toInt = v_walkers.toInt) (by decide : (0 : Int32).toInt = 0) c_7
          refine lv_iconst (v := 0) hx hb dX10_march_30 (by decide) ?_
          have k_47 : (0 : Int32).toInt = 0 := by decide
          exact hrt 0 v_taped v_isMarch f_m_march ⟨(by omega), (Or.inl ⟨by omega, by omega, by omega, by omega⟩), (by omega), (by omega), hr_m_march⟩ hP hD hS rfl dX10_march_31
