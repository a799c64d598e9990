set_option maxHeartbeats 16000000 in
set_option maxRecDepth 100000 in
theorem c_X10_carriedBy (l : Launch) (D : va_G) (cy : Nat → ClassId) (hm : Nat → Nat) (v_taped v_walkers v_loads v_pieces v_changeCosts v_planned v_isMarch v_clauseMany v_place v_end v_bad v_clauses v_codes v_open v_stacked v_isOver v_isBehind v_atW v_atL v_atT v_atH v_atM v_atI v_atQ v_packing v_packed v_goPace v_goMinutes v_spentAt v_ranChanges : Int32) (f_m_tape f_m_knee f_m_weight f_m_isLame f_m_loadWeight f_m_owner f_m_food f_m_miles f_m_slope f_m_clauseLetter f_m_sumFrom f_m_codeFrom f_m_codeTo f_m_code f_m_codeArg f_m_newLetter f_m_newSum f_m_newFrom f_m_newTo f_m_newCode f_m_newArg f_m_stack f_m_worth f_m_isRefused f_m_least f_m_packPounds f_m_packOwner f_m_room f_m_givenTo f_m_canBe f_m_setPounds f_m_plainTime f_m_muleTime f_m_planTo f_m_march f_m_tired f_m_ranMinutes f_m_tiredAhead f_m_isReached f_m_toEnd f_m_upTo f_m_upNext f_m_byChanges f_m_bandPaces : Nat → Int32) (sz : Nat) (w : Int32) (k : Int32) (i : Int32) (hb_v_loads : 0 ≤ v_loads.toInt ∧ v_loads.toInt ≤ 9) (hr_m_loadWeight : rg (0) 120 f_m_loadWeight) (hr_m_food : rg (0) 20 f_m_food) (ha_k : 0 ≤ k.toInt ∧ k.toInt ≤ 5) (ha_i : 0 ≤ i.toInt ∧ i.toInt ≤ 9) : gMi l yX10_carriedBy cX10_carriedBy 6 .int 2 [.ref (hm 0), .int w, .int k, .int i] D cy (wMD cy hm v_taped v_walkers v_loads v_pieces v_changeCosts v_planned v_isMarch v_clauseMany v_place v_end v_bad v_clauses v_codes v_open v_stacked v_isOver v_isBehind v_atW v_atL v_atT v_atH v_atM v_atI v_atQ v_packing v_packed v_goPace v_goMinutes v_spentAt v_ranChanges f_m_tape f_m_knee f_m_weight f_m_isLame f_m_loadWeight f_m_owner f_m_food f_m_miles f_m_slope f_m_clauseLetter f_m_sumFrom f_m_codeFrom f_m_codeTo f_m_code f_m_codeArg f_m_newLetter f_m_newSum f_m_newFrom f_m_newTo f_m_newCode f_m_newArg f_m_stack f_m_worth f_m_isRefused f_m_least f_m_packPounds f_m_packOwner f_m_room f_m_givenTo f_m_canBe f_m_setPounds f_m_plainTime f_m_muleTime f_m_planTo f_m_march f_m_tired f_m_ranMinutes f_m_tiredAhead f_m_isReached f_m_toEnd f_m_upTo f_m_upNext f_m_byChanges f_m_bandPaces) NT sz (fun (r : Int32) (u : Unit) => (r = cbF f_m_planTo f_m_loadWeight f_m_food w k i v_loads.toNatClampNeg)) (fun u => wMD cy hm v_taped v_walkers v_loads v_pieces v_changeCosts v_planned v_isMarch v_clauseMany v_place v_end v_bad v_clauses v_codes v_open v_stacked v_isOver v_isBehind v_atW v_atL v_atT v_atH v_atM v_atI v_atQ v_packing v_packed v_goPace v_goMinutes v_spentAt v_ranChanges f_m_tape f_m_knee f_m_weight f_m_isLame f_m_loadWeight f_m_owner f_m_food f_m_miles f_m_slope f_m_clauseLetter f_m_sumFrom f_m_codeFrom f_m_codeTo f_m_code f_m_codeArg f_m_newLetter f_m_newSum f_m_newFrom f_m_newTo f_m_newCode f_m_newArg f_m_stack f_m_worth f_m_isRefused f_m_least f_m_packPounds f_m_packOwner f_m_room f_m_givenTo f_m_canBe f_m_setPounds f_m_plainTime f_m_muleTime f_m_planTo f_m_march f_m_tired f_m_ranMinutes f_m_tiredAhead f_m_isReached f_m_toEnd f_m_upTo f_m_upNext f_m_byChanges f_m_bandPaces) := by
  refine gMi_in (by decide) (Nat.le_of_ble_eq_true rfl) ?_
  intro p e s m args below meth c A ls Q hx hb hml hts hown hsz hP hK hD hN hAe hA hS hl hret
  subst hsz
  have hl : lv_has ls 6 [(0, .ref (hm 0)), (1, .int w), (2, .int k), (3, .int i)] := hl
  have hrt := fun (r : Int32)  (hp : (r = cbF f_m_planTo f_m_loadWeight f_m_food w k i v_loads.toNatClampNeg)) {H : Heap} {locs : List Loc} {pc : Nat} {ls : Array Slot} => hret r () (H := H) (locs := locs) (pc := pc) (ls := ls) hp
  clear hret
  refine lv_iconst (v := 0) hx hb dX10_carriedBy_0 (by decide) ?_
  refine lv_istore (lv' := [(4, .int 0), (0, .ref (hm 0)), (1, .int w), (2, .int k), (3, .int i)]) hx hb dX10_carriedBy_1 hl (by decide) rfl (fun ls hl => ?_)
  refine lv_iconst (v := 0) hx hb dX10_carriedBy_3 (by decide) ?_
  refine lv_istore (lv' := [(5, .int 0), (4, .int 0), (0, .ref (hm 0)), (1, .int w), (2, .int k), (3, .int i)]) hx hb dX10_carriedBy_4 hl (by decide) rfl (fun ls hl => ?_)
  have L6_5 : ∀ (n : Nat) (l_3 : Int32) (l_4 : Int32), (0 ≤ l_4.toInt ∧ l_4.toInt ≤ 9) → (l_3 = cbF f_m_planTo f_m_loadWeight f_m_food w k i l_4.toNatClampNeg) → (l_4.toInt ≤ v_loads.toInt) → 10 - l_4.toInt < n → ∀ (H : Heap) (locs : List Loc) (ls : Array Slot), va_P D vwCl (wMD cy hm v_taped v_walkers v_loads v_pieces v_changeCosts v_planned v_isMarch v_clauseMany v_place v_end v_bad v_clauses v_codes v_open v_stacked v_isOver v_isBehind v_atW v_atL v_atT v_atH v_atM v_atI v_atQ v_packing v_packed v_goPace v_goMinutes v_spentAt v_ranChanges f_m_tape f_m_knee f_m_weight f_m_isLame f_m_loadWeight f_m_owner f_m_food f_m_miles f_m_slope f_m_clauseLetter f_m_sumFrom f_m_codeFrom f_m_codeTo f_m_code f_m_codeArg f_m_newLetter f_m_newSum f_m_newFrom f_m_newTo f_m_newCode f_m_newArg f_m_stack f_m_worth f_m_isRefused f_m_least f_m_packPounds f_m_packOwner f_m_room f_m_givenTo f_m_canBe f_m_setPounds f_m_plainTime f_m_muleTime f_m_planTo f_m_march f_m_tired f_m_ranMinutes f_m_tiredAhead f_m_isReached f_m_toEnd f_m_upTo f_m_upNext f_m_byChanges f_m_bandPaces) H → va_D A (wMD cy hm v_taped v_walkers v_loads v_pieces v_changeCosts v_planned v_isMarch v_clauseMany v_place v_end v_bad v_clauses v_codes v_open v_stacked v_isOver v_isBehind v_atW v_atL v_atT v_atH v_atM v_atI v_atQ v_packing v_packed v_goPace v_goMinutes v_spentAt v_ranChanges f_m_tape f_m_knee f_m_weight f_m_isLame f_m_loadWeight f_m_owner f_m_food f_m_miles f_m_slope f_m_clauseLetter f_m_sumFrom f_m_codeFrom f_m_codeTo f_m_code f_m_codeArg f_m_newLetter f_m_newSum f_m_newFrom f_m_newTo f_m_newCode f_m_newArg f_m_stack f_m_worth f_m_isRefused f_m_least f_m_packPounds f_m_packOwner f_m_room f_m_givenTo f_m_canBe f_m_setPounds f_m_plainTime f_m_muleTime f_m_planTo f_m_march f_m_tired f_m_ranMinutes f_m_tiredAhead f_m_isReached f_m_toEnd f_m_upTo f_m_upNext f_m_byChanges f_m_bandPaces) → va_S A s.heap H locs → lv_has ls 6 [(5, .int l_4), (4, .int l_3), (0, .ref (hm 0)), (1, .int w), (2, .int k), (3, .int i)] → W p l e (gRm 2) s m args below meth c H locs 0 0 Q (F0 m 6 ls []) := by
    intro n
    induction n with
    | zero => intro l_3 l_4 hL6_5_0 hL6_5_1 hL6_5_2 hm; exact absurd hm (by omega)
    | succ n ih6_5 =>
      intro l_3 l_4 hL6_5_0 hL6_5_1 hL6_5_2 hmL6_5 H locs ls hP hD hS hl
      refine lv_iload hx hb dX10_carriedBy_6 (lv_at hl 0 rfl) ?_
      refine lv_aload_n hx hb dX10_carriedBy_8 rfl (lv_at hl 2 rfl) ?_
      refine gt_MD_MD_loads hx hb hts hown hK hP lwd_247 dX10_carriedBy_9 ?_
      refine lv_icmp_ge (tgt := 53) hx hb dX10_carriedBy_12 (by decide) (fun c_6 => ?_) (fun c_6 => ?_)
      · have gc_6 : v_loads.toInt ≤ l_4.toInt := i_le (rfl : v_loads.toInt = v_loads.toInt) (rfl : l_4.toInt = l_4.toInt) c_6
        refine lv_iload hx hb dX10_carriedBy_53 (lv_at hl 1 rfl) ?_
        exact hrt l_3  (by rw [show v_loads.toNatClampNeg = l_4.toNatClampNeg from by rw [i_ix (rfl : l_4.toInt = l_4.toInt), i_ix (rfl : v_loads.toInt = v_loads.toInt)]; omega]; exact hL6_5_1) hP hD hS rfl dX10_carriedBy_55
      · have gc_6 : l_4.toInt < v_loads.toInt := i_nle (rfl : v_loads.toInt = v_loads.toInt) (rfl : l_4.toInt = l_4.toInt) c_6
        skip
        refine lv_iload hx hb dX10_carriedBy_15 (lv_at hl 1 rfl) ?_
        refine lv_aload_n hx hb dX10_carriedBy_17 rfl (lv_at hl 2 rfl) ?_
        refine gt_MD_MD_planTo hx hb hts hown hK hP lwd_189 dX10_carriedBy_18 ?_
        refine lv_bipush (v := 9) hx hb dX10_carriedBy_21 (by decide) ?_
        refine lv_iload_n hx hb dX10_carriedBy_23 rfl (lv_at hl 4 rfl) ?_
        refine lv_imul hx hb dX10_carriedBy_24 ?_
        refine lv_topi (fun n_7 en_7 => ?_)
        have tn_7 : n_7.toInt = 9 * k.toInt := i_mul en_7 (by decide : (9 : Int32).toInt = 9) (rfl : k.toInt = k.toInt) (by omega) (by omega)
        refine lv_iload hx hb dX10_carriedBy_25 (lv_at hl 0 rfl) ?_
        refine lv_iadd hx hb dX10_carriedBy_27 ?_
        refine lv_topi (fun n_8 en_8 => ?_)
        have tn_8 : n_8.toInt = (9 * k.toInt) + l_4.toInt := i_add en_8 tn_7 (rfl : l_4.toInt = l_4.toInt) (by omega) (by omega)
        refine al_m_planTo hx hb hK hP (i_in tn_8 (by omega) (by omega)) dX10_carriedBy_28 (fun n_9 en_9 => ?_)
        refine lv_iload_n hx hb dX10_carriedBy_29 rfl (lv_at hl 3 rfl) ?_
        refine lv_icmp_ne (tgt := 43) hx hb dX10_carriedBy_30 (by decide) (fun c_10 => ?_) (fun c_10 => ?_)
        · have gc_10 : n_9.toInt ≠ w.toInt := i_ne (rfl : n_9.toInt = n_9.toInt) (rfl : w.toInt = w.toInt) c_10
          skip
          refine lv_iconst (v := 0) hx hb dX10_carriedBy_43 (by decide) ?_
          refine lv_iadd hx hb dX10_carriedBy_44 ?_
          have hb_11 := And.intro (i_bot l_3) (i_top l_3)
          refine lv_topi (fun n_12 en_12 => ?_)
          have tn_12 : n_12.toInt = l_3.toInt + 0 := i_add en_12 (rfl : l_3.toInt = l_3.toInt) (by decide : (0 : Int32).toInt = 0) (by omega) (by omega)
          refine lv_istore (lv' := [(4, .int n_12), (5, .int l_4), (0, .ref (hm 0)), (1, .int w), (2, .int k), (3, .int i)]) hx hb dX10_carriedBy_45 hl (by decide) rfl (fun ls hl => ?_)
          obtain ⟨n_13, en_13⟩ : ∃ y : Int32, y = l_4 + 1 := ⟨_, rfl⟩
          have tn_13 : n_13.toInt = l_4.toInt + 1 := i_add en_13 (rfl : l_4.toInt = l_4.toInt) (by decide : (1 : Int32).toInt = 1) (by omega) (by omega)
          refine lv_iinc (v := n_13) (lv' := [(5, .int n_13), (4, .int n_12), (0, .ref (hm 0)), (1, .int w), (2, .int k), (3, .int i)]) hx hb dX10_carriedBy_47 hl (k := 1) rfl (by rw [en_13]; rfl) (by decide) rfl (fun ls hl => ?_)
          refine lv_goto (tgt := 6) hx hb dX10_carriedBy_50 (by decide) ?_
          exact ih6_5 n_12 n_13 (by omega) (by
            have e9 : n_13.toNatClampNeg = l_4.toNatClampNeg + 1 := by rw [i_ix tn_13, i_ix (rfl : l_4.toInt = l_4.toInt)]; omega
            rw [e9, cbF, ← hL6_5_1, show (9 * k.toInt + ((l_4.toNatClampNeg : Nat) : Int)).toNat = n_8.toNatClampNeg from by rw [i_ix (rfl : l_4.toInt = l_4.toInt), i_ix (rfl : n_8.toInt = n_8.toInt)]; omega, ← en_9]
            rw [if_neg (by omega)]
            exact en_12) (by omega) (by omega) _ _ _ hP hD hS (lv_sub hl [0, 1, 2, 3, 4, 5] rfl)
        · have gc_10 : n_9.toInt = w.toInt := i_eq (rfl : n_9.toInt = n_9.toInt) (rfl : w.toInt = w.toInt) c_10
          skip
          refine lv_aload_n hx hb dX10_carriedBy_33 rfl (lv_at hl 2 rfl) ?_
          refine lv_iload hx hb dX10_carriedBy_34 (lv_at hl 0 rfl) ?_
          refine lv_iload_n hx hb dX10_carriedBy_36 rfl (lv_at hl 5 rfl) ?_
          refine xi hD hS hA (xV (As := [.int l_4, .int i]) (rest := [.int l_3]) hx hb hml hown hts hK hP hD hS hA NT_ok hN hAe hl.1 ⟨Nat.le_refl _, Nat.le_refl _⟩ 0 rfl rfl rfl (c_X10_poundsOf l D cy hm v_taped v_walkers v_loads v_pieces v_changeCosts v_planned v_isMarch v_clauseMany v_place v_end v_bad v_clauses v_codes v_open v_stacked v_isOver v_isBehind v_atW v_atL v_atT v_atH v_atM v_atI v_atQ v_packing v_packed v_goPace v_goMinutes v_spentAt v_ranChanges f_m_tape f_m_knee f_m_weight f_m_isLame f_m_loadWeight f_m_owner f_m_food f_m_miles f_m_slope f_m_clauseLetter f_m_sumFrom f_m_codeFrom f_m_codeTo f_m_code f_m_codeArg f_m_newLetter f_m_newSum f_m_newFrom f_m_newTo f_m_newCode f_m_newArg f_m_stack f_m_worth f_m_isRefused f_m_least f_m_packPounds f_m_packOwner f_m_room f_m_givenTo f_m_canBe f_m_setPounds f_m_plainTime f_m_muleTime f_m_planTo f_m_march f_m_tired f_m_ranMinutes f_m_tiredAhead f_m_isReached f_m_toEnd f_m_upTo f_m_upNext f_m_byChanges f_m_bandPaces H.size l_4 i hr_m_loadWeight hr_m_food (by omega) (by omega)) (gi_V lwd_746 lwd_747 lwd_748 lwd_5 lwd_749) ⟨rfl, hd_X10_poundsOf⟩ ⟨Nat.le_of_ble_eq_true rfl, Nat.le_of_ble_eq_true rfl⟩ rfl (Nat.le_of_ble_eq_true rfl) dX10_carriedBy_37) (fun r_15 u_14 H locs hw hP hD hS => ?_)
          try dsimp only at hw hP hD
          obtain ⟨p_16, p_17⟩ := hw
          refine lv_goto (tgt := 44) hx hb dX10_carriedBy_40 (by decide) ?_
          refine lv_iadd hx hb dX10_carriedBy_44 ?_
          refine lv_topi (fun n_18 en_18 => ?_)
          refine lv_istore (lv' := [(4, .int n_18), (5, .int l_4), (0, .ref (hm 0)), (1, .int w), (2, .int k), (3, .int i)]) hx hb dX10_carriedBy_45 hl (by decide) rfl (fun ls hl => ?_)
          obtain ⟨n_19, en_19⟩ : ∃ y : Int32, y = l_4 + 1 := ⟨_, rfl⟩
          have tn_19 : n_19.toInt = l_4.toInt + 1 := i_add en_19 (rfl : l_4.toInt = l_4.toInt) (by decide : (1 : Int32).toInt = 1) (by omega) (by omega)
          refine lv_iinc (v := n_19) (lv' := [(5, .int n_19), (4, .int n_18), (0, .ref (hm 0)), (1, .int w), (2, .int k), (3, .int i)]) hx hb dX10_carriedBy_47 hl (k := 1) rfl (by rw [en_19]; rfl) (by decide) rfl (fun ls hl => ?_)
          refine lv_goto (tgt := 6) hx hb dX10_carriedBy_50 (by decide) ?_
          exact ih6_5 n_18 n_19 (by omega) (by
            have e9 : n_19.toNatClampNeg = l_4.toNatClampNeg + 1 := by rw [i_ix tn_19, i_ix (rfl : l_4.toInt = l_4.toInt)]; omega
            rw [e9, cbF, ← hL6_5_1, show (9 * k.toInt + ((l_4.toNatClampNeg : Nat) : Int)).toNat = n_8.toNatClampNeg from by rw [i_ix (rfl : l_4.toInt = l_4.toInt), i_ix (rfl : n_8.toInt = n_8.toInt)]; omega, ← en_9]
            rw [if_pos (by omega), ← p_17]
            exact en_18) (by omega) (by omega) _ _ _ hP hD hS (lv_sub hl [0, 1, 2, 3, 4, 5] rfl)
  have k_20 : (0 : Int32).toInt = 0 := by decide
  have k_21 : (0 : Int32).toInt = 0 := by decide
  exact L6_5 8589934592 0 0 (by omega) (by rw [show (0 : Int32).toNatClampNeg = 0 from by decide]; rfl) (by omega) (by omega) _ _ _ hP hD hS (lv_sub hl [0, 1, 2, 3, 4, 5] rfl)
set_option maxHeartbeats 16000000 in
set_option maxRecDepth 100000 in
theorem c_X10_takesTired (l : Launch) (D : va_G) (cy : Nat → ClassId) (hm : Nat → Nat) (v_taped v_walkers v_loads v_pieces v_changeCosts v_planned v_isMarch v_clauseMany v_place v_end v_bad v_clauses v_codes v_open v_stacked v_isOver v_isBehind v_atW v_atL v_atT v_atH v_atM v_atI v_atQ v_packing v_packed v_goPace v_goMinutes v_spentAt v_ranChanges : Int32) (f_m_tape f_m_knee f_m_weight f_m_isLame f_m_loadWeight f_m_owner f_m_food f_m_miles f_m_slope f_m_clauseLetter f_m_sumFrom f_m_codeFrom f_m_codeTo f_m_code f_m_codeArg f_m_newLetter f_m_newSum f_m_newFrom f_m_newTo f_m_newCode f_m_newArg f_m_stack f_m_worth f_m_isRefused f_m_least f_m_packPounds f_m_packOwner f_m_room f_m_givenTo f_m_canBe f_m_setPounds f_m_plainTime f_m_muleTime f_m_planTo f_m_march f_m_tired f_m_ranMinutes f_m_tiredAhead f_m_isReached f_m_toEnd f_m_upTo f_m_upNext f_m_byChanges f_m_bandPaces : Nat → Int32) (sz : Nat) (all : Int32) (hr_m_tired : rg (0) 5 f_m_tired) (ha_all : 0 ≤ all.toInt ∧ all.toInt ≤ 46655) : gMv l yX10_takesTired cX10_takesTired 4 1 [.ref (hm 0), .int all] D cy (wMD cy hm v_taped v_walkers v_loads v_pieces v_changeCosts v_planned v_isMarch v_clauseMany v_place v_end v_bad v_clauses v_codes v_open v_stacked v_isOver v_isBehind v_atW v_atL v_atT v_atH v_atM v_atI v_atQ v_packing v_packed v_goPace v_goMinutes v_spentAt v_ranChanges f_m_tape f_m_knee f_m_weight f_m_isLame f_m_loadWeight f_m_owner f_m_food f_m_miles f_m_slope f_m_clauseLetter f_m_sumFrom f_m_codeFrom f_m_codeTo f_m_code f_m_codeArg f_m_newLetter f_m_newSum f_m_newFrom f_m_newTo f_m_newCode f_m_newArg f_m_stack f_m_worth f_m_isRefused f_m_least f_m_packPounds f_m_packOwner f_m_room f_m_givenTo f_m_canBe f_m_setPounds f_m_plainTime f_m_muleTime f_m_planTo f_m_march f_m_tired f_m_ranMinutes f_m_tiredAhead f_m_isReached f_m_toEnd f_m_upTo f_m_upNext f_m_byChanges f_m_bandPaces) NT sz (fun (u : (Nat → Int32)) => (n6 u = tkF all) ∧ (rg (0) 5 u)) (fun u => wMD cy hm v_taped v_walkers v_loads v_pieces v_changeCosts v_planned v_isMarch v_clauseMany v_place v_end v_bad v_clauses v_codes v_open v_stacked v_isOver v_isBehind v_atW v_atL v_atT v_atH v_atM v_atI v_atQ v_packing v_packed v_goPace v_goMinutes v_spentAt v_ranChanges f_m_tape f_m_knee f_m_weight f_m_isLame f_m_loadWeight f_m_owner f_m_food f_m_miles f_m_slope f_m_clauseLetter f_m_sumFrom f_m_codeFrom f_m_codeTo f_m_code f_m_codeArg f_m_newLetter f_m_newSum f_m_newFrom f_m_newTo f_m_newCode f_m_newArg f_m_stack f_m_worth f_m_isRefused f_m_least f_m_packPounds f_m_packOwner f_m_room f_m_givenTo f_m_canBe f_m_setPounds f_m_plainTime f_m_muleTime f_m_planTo f_m_march u f_m_ranMinutes f_m_tiredAhead f_m_isReached f_m_toEnd f_m_upTo f_m_upNext f_m_byChanges f_m_bandPaces) := by
  refine gMv_in (by decide) (Nat.le_of_ble_eq_true rfl) ?_
  intro p e s m args below meth c A ls Q hx hb hml hts hown hsz hP hK hD hN hAe hA hS hl hret
  subst hsz
  have hl : lv_has ls 4 [(0, .ref (hm 0)), (1, .int all)] := hl
  have hrt := fun (f_m_tired' : Nat → Int32) (hp : (n6 f_m_tired' = tkF all) ∧ (rg (0) 5 f_m_tired')) {H : Heap} {locs : List Loc} {pc : Nat} {ls : Array Slot} => hret f_m_tired' (H := H) (locs := locs) (pc := pc) (ls := ls) hp
  clear hret
  refine lv_iload_n hx hb dX10_takesTired_0 rfl (lv_at hl 1 rfl) ?_
  refine lv_istore_n (lv' := [(2, .int all), (0, .ref (hm 0)), (1, .int all)]) hx hb dX10_takesTired_1 rfl hl (by decide) rfl (fun ls hl => ?_)
  refine lv_iconst (v := 0) hx hb dX10_takesTired_2 (by decide) ?_
  refine lv_istore_n (lv' := [(3, .int 0), (2, .int all), (0, .ref (hm 0)), (1, .int all)]) hx hb dX10_takesTired_3 rfl hl (by decide) rfl (fun ls hl => ?_)
  have L4_7 : ∀ (n : Nat) (f_4 : Nat → Int32) (l_5 : Int32) (l_6 : Int32), (rg (0) 5 f_4) → (0 ≤ l_5.toInt ∧ l_5.toInt ≤ 46655) → (0 ≤ l_6.toInt ∧ l_6.toInt ≤ 6) → (l_5 = qF all l_6.toNatClampNeg) → (∀ j : Nat, (j : Int) < l_6.toInt → f_4 j = qF all j - qF all j / 6 * 6) → 7 - l_6.toInt < n → ∀ (H : Heap) (locs : List Loc) (ls : Array Slot), va_P D vwCl (wMD cy hm v_taped v_walkers v_loads v_pieces v_changeCosts v_planned v_isMarch v_clauseMany v_place v_end v_bad v_clauses v_codes v_open v_stacked v_isOver v_isBehind v_atW v_atL v_atT v_atH v_atM v_atI v_atQ v_packing v_packed v_goPace v_goMinutes v_spentAt v_ranChanges f_m_tape f_m_knee f_m_weight f_m_isLame f_m_loadWeight f_m_owner f_m_food f_m_miles f_m_slope f_m_clauseLetter f_m_sumFrom f_m_codeFrom f_m_codeTo f_m_code f_m_codeArg f_m_newLetter f_m_newSum f_m_newFrom f_m_newTo f_m_newCode f_m_newArg f_m_stack f_m_worth f_m_isRefused f_m_least f_m_packPounds f_m_packOwner f_m_room f_m_givenTo f_m_canBe f_m_setPounds f_m_plainTime f_m_muleTime f_m_planTo f_m_march f_4 f_m_ranMinutes f_m_tiredAhead f_m_isReached f_m_toEnd f_m_upTo f_m_upNext f_m_byChanges f_m_bandPaces) H → va_D A (wMD cy hm v_taped v_walkers v_loads v_pieces v_changeCosts v_planned v_isMarch v_clauseMany v_place v_end v_bad v_clauses v_codes v_open v_stacked v_isOver v_isBehind v_atW v_atL v_atT v_atH v_atM v_atI v_atQ v_packing v_packed v_goPace v_goMinutes v_spentAt v_ranChanges f_m_tape f_m_knee f_m_weight f_m_isLame f_m_loadWeight f_m_owner f_m_food f_m_miles f_m_slope f_m_clauseLetter f_m_sumFrom f_m_codeFrom f_m_codeTo f_m_code f_m_codeArg f_m_newLetter f_m_newSum f_m_newFrom f_m_newTo f_m_newCode f_m_newArg f_m_stack f_m_worth f_m_isRefused f_m_least f_m_packPounds f_m_packOwner f_m_room f_m_givenTo f_m_canBe f_m_setPounds f_m_plainTime f_m_muleTime f_m_planTo f_m_march f_4 f_m_ranMinutes f_m_tiredAhead f_m_isReached f_m_toEnd f_m_upTo f_m_upNext f_m_byChanges f_m_bandPaces) → va_S A s.heap H locs → lv_has ls 4 [(3, .int l_6), (2, .int l_5), (0, .ref (hm 0)), (1, .int all)] → W p l e (gRm 1) s m args below meth c H locs 0 0 Q (F0 m 4 ls []) := by
    intro n
    induction n with
    | zero => intro f_4 l_5 l_6 hL4_7_0 hL4_7_1 hL4_7_2 hL4_7_3 hL4_7_4 hm; exact absurd hm (by omega)
    | succ n ih4_7 =>
      intro f_4 l_5 l_6 hL4_7_0 hL4_7_1 hL4_7_2 hL4_7_3 hL4_7_4 hmL4_7 H locs ls hP hD hS hl
      refine lv_iload_n hx hb dX10_takesTired_4 rfl (lv_at hl 0 rfl) ?_
      refine lv_bipush (v := 6) hx hb dX10_takesTired_5 (by decide) ?_
      refine lv_icmp_ge (tgt := 31) hx hb dX10_takesTired_7 (by decide) (fun c_8 => ?_) (fun c_8 => ?_)
      · have gc_8 : 6 ≤ l_6.toInt := i_le (by decide : (6 : Int32).toInt = 6) (rfl : l_6.toInt = l_6.toInt) c_8
        exact hrt f_4 ⟨(n6_eq (fun j hj => hL4_7_4 j (by omega))), hL4_7_0⟩ hP hD hS dX10_takesTired_31
      · have gc_8 : l_6.toInt < 6 := i_nle (by decide : (6 : Int32).toInt = 6) (rfl : l_6.toInt = l_6.toInt) c_8
        skip
        refine lv_aload_n hx hb dX10_takesTired_10 rfl (lv_at hl 2 rfl) ?_
        refine gt_MD_MD_tired hx hb hts hown hK hP lwd_191 dX10_takesTired_11 ?_
        refine lv_iload_n hx hb dX10_takesTired_14 rfl (lv_at hl 0 rfl) ?_
        refine lv_iload_n hx hb dX10_takesTired_15 rfl (lv_at hl 1 rfl) ?_
        refine lv_bipush (v := 6) hx hb dX10_takesTired_16 (by decide) ?_
        refine lv_irem hx hb dX10_takesTired_18 (by decide) ?_
        refine lv_topi (fun n_9 en_9 => ?_)
        have tn_9 : n_9.toInt = l_5.toInt % 6 := i_rem en_9 (rfl : l_5.toInt = l_5.toInt) (by decide : (6 : Int32).toInt = 6) (by omega) (by omega)
        skip
        refine as_m_tired (x := n_9) hx hb hK hP hD hS hL4_7_0 (i_in (rfl : l_6.toInt = l_6.toInt) (by omega) (by omega)) (by omega) dX10_takesTired_19 (fun f_10 ef_10 rf_10 H locs hP hD hS => ?_)
        refine lv_iload_n hx hb dX10_takesTired_20 rfl (lv_at hl 1 rfl) ?_
        refine lv_bipush (v := 6) hx hb dX10_takesTired_21 (by decide) ?_
        refine lv_idiv hx hb dX10_takesTired_23 (by decide) ?_
        refine lv_topi (fun n_11 en_11 => ?_)
        have tn_11 : n_11.toInt = l_5.toInt / 6 := i_div en_11 (rfl : l_5.toInt = l_5.toInt) (by decide : (6 : Int32).toInt = 6) (by omega) (by omega)
        refine lv_istore_n (lv' := [(2, .int n_11), (3, .int l_6), (0, .ref (hm 0)), (1, .int all)]) hx hb dX10_takesTired_24 rfl hl (by decide) rfl (fun ls hl => ?_)
        obtain ⟨n_12, en_12⟩ : ∃ y : Int32, y = l_6 + 1 := ⟨_, rfl⟩
        have tn_12 : n_12.toInt = l_6.toInt + 1 := i_add en_12 (rfl : l_6.toInt = l_6.toInt) (by decide : (1 : Int32).toInt = 1) (by omega) (by omega)
        refine lv_iinc (v := n_12) (lv' := [(3, .int n_12), (2, .int n_11), (0, .ref (hm 0)), (1, .int all)]) hx hb dX10_takesTired_25 hl (k := 1) rfl (by rw [en_12]; rfl) (by decide) rfl (fun ls hl => ?_)
        refine lv_goto (tgt := 4) hx hb dX10_takesTired_28 (by decide) ?_
        exact ih4_7 f_10 n_11 n_12 rf_10 (by omega) (by omega) (by
          have e9 : n_12.toNatClampNeg = l_6.toNatClampNeg + 1 := by rw [i_ix tn_12, i_ix (rfl : l_6.toInt = l_6.toInt)]; omega
          rw [e9, en_11, hL4_7_3]
          rfl) (fun j hj => by
          by_cases q9 : j = l_6.toNatClampNeg
          · rw [q9, ef_10, upd_at, en_9, hL4_7_3]
          · rw [ef_10, upd_off _ _ q9]; exact hL4_7_4 j (by rw [i_ix (rfl : l_6.toInt = l_6.toInt)] at q9; omega)) (by omega) _ _ _ hP hD hS (lv_sub hl [0, 1, 2, 3] rfl)
  have k_13 : (0 : Int32).toInt = 0 := by decide
  exact L4_7 8589934592 f_m_tired all 0 hr_m_tired (by omega) (by omega) (by rw [show (0 : Int32).toNatClampNeg = 0 from by decide]; rfl) (fun j hj => absurd hj (by omega)) (by omega) _ _ _ hP hD hS (lv_sub hl [0, 1, 2, 3] rfl)
set_option maxHeartbeats 16000000 in
set_option maxRecDepth 100000 in
theorem c_X10_allTired (l : Launch) (D : va_G) (cy : Nat → ClassId) (hm : Nat → Nat) (v_taped v_walkers v_loads v_pieces v_changeCosts v_planned v_isMarch v_clauseMany v_place v_end v_bad v_clauses v_codes v_open v_stacked v_isOver v_isBehind v_atW v_atL v_atT v_atH v_atM v_atI v_atQ v_packing v_packed v_goPace v_goMinutes v_spentAt v_ranChanges : Int32) (f_m_tape f_m_knee f_m_weight f_m_isLame f_m_loadWeight f_m_owner f_m_food f_m_miles f_m_slope f_m_clauseLetter f_m_sumFrom f_m_codeFrom f_m_codeTo f_m_code f_m_codeArg f_m_newLetter f_m_newSum f_m_newFrom f_m_newTo f_m_newCode f_m_newArg f_m_stack f_m_worth f_m_isRefused f_m_least f_m_packPounds f_m_packOwner f_m_room f_m_givenTo f_m_canBe f_m_setPounds f_m_plainTime f_m_muleTime f_m_planTo f_m_march f_m_tired f_m_ranMinutes f_m_tiredAhead f_m_isReached f_m_toEnd f_m_upTo f_m_upNext f_m_byChanges f_m_bandPaces : Nat → Int32) (sz : Nat) (hb_v_walkers : 0 ≤ v_walkers.toInt ∧ v_walkers.toInt ≤ 6) (hr_m_tired : rg (0) 5 f_m_tired) : gMi l yX10_allTired cX10_allTired 3 .int 1 [.ref (hm 0)] D cy (wMD cy hm v_taped v_walkers v_loads v_pieces v_changeCosts v_planned v_isMarch v_clauseMany v_place v_end v_bad v_clauses v_codes v_open v_stacked v_isOver v_isBehind v_atW v_atL v_atT v_atH v_atM v_atI v_atQ v_packing v_packed v_goPace v_goMinutes v_spentAt v_ranChanges f_m_tape f_m_knee f_m_weight f_m_isLame f_m_loadWeight f_m_owner f_m_food f_m_miles f_m_slope f_m_clauseLetter f_m_sumFrom f_m_codeFrom f_m_codeTo f_m_code f_m_codeArg f_m_newLetter f_m_newSum f_m_newFrom f_m_newTo f_m_newCode f_m_newArg f_m_stack f_m_worth f_m_isRefused f_m_least f_m_packPounds f_m_packOwner f_m_room f_m_givenTo f_m_canBe f_m_setPounds f_m_plainTime f_m_muleTime f_m_planTo f_m_march f_m_tired f_m_ranMinutes f_m_tiredAhead f_m_isReached f_m_toEnd f_m_upTo f_m_upNext f_m_byChanges f_m_bandPaces) NT sz (fun (r : Int32) (u : Unit) => (0 ≤ r.toInt ∧ r.toInt ≤ 46655) ∧ (v_walkers.toInt ≤ 4 → r.toInt ≤ 1295) ∧ (r = atF (n6 f_m_tired) v_walkers.toNatClampNeg v_walkers.toNatClampNeg)) (fun u => wMD cy hm v_taped v_walkers v_loads v_pieces v_changeCosts v_planned v_isMarch v_clauseMany v_place v_end v_bad v_clauses v_codes v_open v_stacked v_isOver v_isBehind v_atW v_atL v_atT v_atH v_atM v_atI v_atQ v_packing v_packed v_goPace v_goMinutes v_spentAt v_ranChanges f_m_tape f_m_knee f_m_weight f_m_isLame f_m_loadWeight f_m_owner f_m_food f_m_miles f_m_slope f_m_clauseLetter f_m_sumFrom f_m_codeFrom f_m_codeTo f_m_code f_m_codeArg f_m_newLetter f_m_newSum f_m_newFrom f_m_newTo f_m_newCode f_m_newArg f_m_stack f_m_worth f_m_isRefused f_m_least f_m_packPounds f_m_packOwner f_m_room f_m_givenTo f_m_canBe f_m_setPounds f_m_plainTime f_m_muleTime f_m_planTo f_m_march f_m_tired f_m_ranMinutes f_m_tiredAhead f_m_isReached f_m_toEnd f_m_upTo f_m_upNext f_m_byChanges f_m_bandPaces) := by
  refine gMi_in (by decide) (Nat.le_of_ble_eq_true rfl) ?_
  intro p e s m args below meth c A ls Q hx hb hml hts hown hsz hP hK hD hN hAe hA hS hl hret
  subst hsz
  have hl : lv_has ls 3 [(0, .ref (hm 0))] := hl
  have hrt := fun (r : Int32)  (hp : (0 ≤ r.toInt ∧ r.toInt ≤ 46655) ∧ (v_walkers.toInt ≤ 4 → r.toInt ≤ 1295) ∧ (r = atF (n6 f_m_tired) v_walkers.toNatClampNeg v_walkers.toNatClampNeg)) {H : Heap} {locs : List Loc} {pc : Nat} {ls : Array Slot} => hret r () (H := H) (locs := locs) (pc := pc) (ls := ls) hp
  clear hret
  refine lv_iconst (v := 0) hx hb dX10_allTired_0 (by decide) ?_
  refine lv_istore_n (lv' := [(1, .int 0), (0, .ref (hm 0))]) hx hb dX10_allTired_1 rfl hl (by decide) rfl (fun ls hl => ?_)
  refine lv_aload_n hx hb dX10_allTired_2 rfl (lv_at hl 1 rfl) ?_
  refine gt_MD_MD_walkers hx hb hts hown hK hP lwd_221 dX10_allTired_3 ?_
  refine lv_iconst (v := 1) hx hb dX10_allTired_6 (by decide) ?_
  refine lv_isub hx hb dX10_allTired_7 ?_
  refine lv_topi (fun n_1 en_1 => ?_)
  have tn_1 : n_1.toInt = v_walkers.toInt - 1 := i_sub en_1 (rfl : v_walkers.toInt = v_walkers.toInt) (by decide : (1 : Int32).toInt = 1) (by omega) (by omega)
  refine lv_istore_n (lv' := [(2, .int n_1), (1, .int 0), (0, .ref (hm 0))]) hx hb dX10_allTired_8 rfl hl (by decide) rfl (fun ls hl => ?_)
  have L9_6 : ∀ (n : Nat) (l_4 : Int32) (l_5 : Int32), (0 ≤ l_4.toInt ∧ l_4.toInt ≤ 46655) → (-1 ≤ l_5.toInt ∧ l_5.toInt ≤ 5) → (l_5.toInt ≤ v_walkers.toInt - 1) → ((v_walkers.toInt - 1 - l_5.toInt = 0 ∧ l_4.toInt ≤ 0) ∨ (v_walkers.toInt - 1 - l_5.toInt = 1 ∧ l_4.toInt ≤ 5) ∨ (v_walkers.toInt - 1 - l_5.toInt = 2 ∧ l_4.toInt ≤ 35) ∨ (v_walkers.toInt - 1 - l_5.toInt = 3 ∧ l_4.toInt ≤ 215) ∨ (v_walkers.toInt - 1 - l_5.toInt = 4 ∧ l_4.toInt ≤ 1295) ∨ (v_walkers.toInt - 1 - l_5.toInt = 5 ∧ l_4.toInt ≤ 7775) ∨ (v_walkers.toInt - 1 - l_5.toInt = 6 ∧ l_4.toInt ≤ 46655)) → (l_4 = atF f_m_tired v_walkers.toNatClampNeg (v_walkers.toInt - 1 - l_5.toInt).toNat) → l_5.toInt + 1 < n → ∀ (H : Heap) (locs : List Loc) (ls : Array Slot), va_P D vwCl (wMD cy hm v_taped v_walkers v_loads v_pieces v_changeCosts v_planned v_isMarch v_clauseMany v_place v_end v_bad v_clauses v_codes v_open v_stacked v_isOver v_isBehind v_atW v_atL v_atT v_atH v_atM v_atI v_atQ v_packing v_packed v_goPace v_goMinutes v_spentAt v_ranChanges f_m_tape f_m_knee f_m_weight f_m_isLame f_m_loadWeight f_m_owner f_m_food f_m_miles f_m_slope f_m_clauseLetter f_m_sumFrom f_m_codeFrom f_m_codeTo f_m_code f_m_codeArg f_m_newLetter f_m_newSum f_m_newFrom f_m_newTo f_m_newCode f_m_newArg f_m_stack f_m_worth f_m_isRefused f_m_least f_m_packPounds f_m_packOwner f_m_room f_m_givenTo f_m_canBe f_m_setPounds f_m_plainTime f_m_muleTime f_m_planTo f_m_march f_m_tired f_m_ranMinutes f_m_tiredAhead f_m_isReached f_m_toEnd f_m_upTo f_m_upNext f_m_byChanges f_m_bandPaces) H → va_D A (wMD cy hm v_taped v_walkers v_loads v_pieces v_changeCosts v_planned v_isMarch v_clauseMany v_place v_end v_bad v_clauses v_codes v_open v_stacked v_isOver v_isBehind v_atW v_atL v_atT v_atH v_atM v_atI v_atQ v_packing v_packed v_goPace v_goMinutes v_spentAt v_ranChanges f_m_tape f_m_knee f_m_weight f_m_isLame f_m_loadWeight f_m_owner f_m_food f_m_miles f_m_slope f_m_clauseLetter f_m_sumFrom f_m_codeFrom f_m_codeTo f_m_code f_m_codeArg f_m_newLetter f_m_newSum f_m_newFrom f_m_newTo f_m_newCode f_m_newArg f_m_stack f_m_worth f_m_isRefused f_m_least f_m_packPounds f_m_packOwner f_m_room f_m_givenTo f_m_canBe f_m_setPounds f_m_plainTime f_m_muleTime f_m_planTo f_m_march f_m_tired f_m_ranMinutes f_m_tiredAhead f_m_isReached f_m_toEnd f_m_upTo f_m_upNext f_m_byChanges f_m_bandPaces) → va_S A s.heap H locs → lv_has ls 3 [(2, .int l_5), (1, .int l_4), (0, .ref (hm 0))] → W p l e (gRm 1) s m args below meth c H locs 0 0 Q (F0 m 9 ls []) := by
    intro n
    induction n with
    | zero => intro l_4 l_5 hL9_6_0 hL9_6_1 hL9_6_2 hL9_6_3 hL9_6_4 hm; exact absurd hm (by omega)
    | succ n ih9_6 =>
      intro l_4 l_5 hL9_6_0 hL9_6_1 hL9_6_2 hL9_6_3 hL9_6_4 hmL9_6 H locs ls hP hD hS hl
      refine lv_iload_n hx hb dX10_allTired_9 rfl (lv_at hl 0 rfl) ?_
      refine lv_if_lt (tgt := 31) hx hb dX10_allTired_10 (by decide) (fun c_7 => ?_) (fun c_7 => ?_)
      · have gc_7 : l_5.toInt < 0 := i_lt (rfl : l_5.toInt = l_5.toInt) (by decide : (0 : Int32).toInt = 0) c_7
        refine lv_iload_n hx hb dX10_allTired_31 rfl (lv_at hl 1 rfl) ?_
        exact hrt l_4  ⟨(by omega), (by omega), (by rw [atF_n6 (by rw [i_ix (rfl : v_walkers.toInt = v_walkers.toInt)]; omega) _ (Nat.le_refl _), hL9_6_4, show (v_walkers.toInt - 1 - l_5.toInt).toNat = v_walkers.toNatClampNeg from by rw [i_ix (rfl : v_walkers.toInt = v_walkers.toInt)]; omega])⟩ hP hD hS rfl dX10_allTired_32
      · have gc_7 : 0 ≤ l_5.toInt := i_nlt (rfl : l_5.toInt = l_5.toInt) (by decide : (0 : Int32).toInt = 0) c_7
        skip
        refine lv_bipush (v := 6) hx hb dX10_allTired_13 (by decide) ?_
        refine lv_iload_n hx hb dX10_allTired_15 rfl (lv_at hl 1 rfl) ?_
        refine lv_imul hx hb dX10_allTired_16 ?_
        refine lv_topi (fun n_8 en_8 => ?_)
        have tn_8 : n_8.toInt = 6 * l_4.toInt := i_mul en_8 (by decide : (6 : Int32).toInt = 6) (rfl : l_4.toInt = l_4.toInt) (by omega) (by omega)
        refine lv_aload_n hx hb dX10_allTired_17 rfl (lv_at hl 2 rfl) ?_
        refine gt_MD_MD_tired hx hb hts hown hK hP lwd_191 dX10_allTired_18 ?_
        refine lv_iload_n hx hb dX10_allTired_21 rfl (lv_at hl 0 rfl) ?_
        refine al_m_tired hx hb hK hP hr_m_tired (i_in (rfl : l_5.toInt = l_5.toInt) (by omega) (by omega)) dX10_allTired_22 (fun n_9 en_9 bn_9 => ?_)
        skip
        refine lv_iadd hx hb dX10_allTired_23 ?_
        refine lv_topi (fun n_10 en_10 => ?_)
        have tn_10 : n_10.toInt = (6 * l_4.toInt) + n_9.toInt := i_add en_10 tn_8 (rfl : n_9.toInt = n_9.toInt) (by omega) (by omega)
        refine lv_istore_n (lv' := [(1, .int n_10), (2, .int l_5), (0, .ref (hm 0))]) hx hb dX10_allTired_24 rfl hl (by decide) rfl (fun ls hl => ?_)
        obtain ⟨n_11, en_11⟩ : ∃ y : Int32, y = l_5 + (-1) := ⟨_, rfl⟩
        have tn_11 : n_11.toInt = l_5.toInt + (-1) := i_add en_11 (rfl : l_5.toInt = l_5.toInt) (by decide : ((-1) : Int32).toInt = (-1)) (by omega) (by omega)
        refine lv_iinc (v := n_11) (lv' := [(2, .int n_11), (1, .int n_10), (0, .ref (hm 0))]) hx hb dX10_allTired_25 hl (k := 1) rfl (by rw [en_11]; rfl) (by decide) rfl (fun ls hl => ?_)
        refine lv_goto (tgt := 9) hx hb dX10_allTired_28 (by decide) ?_
        exact ih9_6 n_10 n_11 (by omega) (by omega) (by omega) (by omega) (by
          rw [show (v_walkers.toInt - 1 - n_11.toInt).toNat = (v_walkers.toInt - 1 - l_5.toInt).toNat + 1 from by omega, atF, ← hL9_6_4, show v_walkers.toNatClampNeg - 1 - (v_walkers.toInt - 1 - l_5.toInt).toNat = l_5.toNatClampNeg from by rw [i_ix (rfl : l_5.toInt = l_5.toInt), i_ix (rfl : v_walkers.toInt = v_walkers.toInt)]; omega, ← en_9, ← en_8]
          exact en_10) (by omega) _ _ _ hP hD hS (lv_sub hl [0, 1, 2] rfl)
  have k_12 : (0 : Int32).toInt = 0 := by decide
  exact L9_6 8589934592 0 n_1 (by omega) (by omega) (by omega) (by omega) (by rw [show (v_walkers.toInt - 1 - n_1.toInt).toNat = 0 from by omega]; rfl) (by omega) _ _ _ hP hD hS (lv_sub hl [0, 1, 2] rfl)
set_option maxHeartbeats 16000000 in
set_option maxRecDepth 100000 in
theorem c_X10_rests (l : Launch) (D : va_G) (cy : Nat → ClassId) (hm : Nat → Nat) (v_taped v_walkers v_loads v_pieces v_changeCosts v_planned v_isMarch v_clauseMany v_place v_end v_bad v_clauses v_codes v_open v_stacked v_isOver v_isBehind v_atW v_atL v_atT v_atH v_atM v_atI v_atQ v_packing v_packed v_goPace v_goMinutes v_spentAt v_ranChanges : Int32) (f_m_tape f_m_knee f_m_weight f_m_isLame f_m_loadWeight f_m_owner f_m_food f_m_miles f_m_slope f_m_clauseLetter f_m_sumFrom f_m_codeFrom f_m_codeTo f_m_code f_m_codeArg f_m_newLetter f_m_newSum f_m_newFrom f_m_newTo f_m_newCode f_m_newArg f_m_stack f_m_worth f_m_isRefused f_m_least f_m_packPounds f_m_packOwner f_m_room f_m_givenTo f_m_canBe f_m_setPounds f_m_plainTime f_m_muleTime f_m_planTo f_m_march f_m_tired f_m_ranMinutes f_m_tiredAhead f_m_isReached f_m_toEnd f_m_upTo f_m_upNext f_m_byChanges f_m_bandPaces : Nat → Int32) (sz : Nat) (many : Int32) (i : Int32) (hb_v_walkers : 0 ≤ v_walkers.toInt ∧ v_walkers.toInt ≤ 6) (hb_v_clauseMany : 0 ≤ v_clauseMany.toInt ∧ v_clauseMany.toInt ≤ 14) (hb_v_atW : 0 ≤ v_atW.toInt ∧ v_atW.toInt ≤ 5) (hr_m_weight : rg (0) 250 f_m_weight) (hr_m_isRefused : rg (0) 1 f_m_isRefused) (hr_m_tired : rg (0) 5 f_m_tired) (ha_many : 0 ≤ many.toInt ∧ many.toInt ≤ 2) (ha_i : 0 ≤ i.toInt ∧ i.toInt ≤ 9) (hwf : wfC v_clauseMany f_m_sumFrom f_m_codeFrom f_m_codeTo f_m_code) : gMv l yX10_rests cX10_rests 5 5 [.ref (hm 0), .int many, .int i] D cy (wMD cy hm v_taped v_walkers v_loads v_pieces v_changeCosts v_planned v_isMarch v_clauseMany v_place v_end v_bad v_clauses v_codes v_open v_stacked v_isOver v_isBehind v_atW v_atL v_atT v_atH v_atM v_atI v_atQ v_packing v_packed v_goPace v_goMinutes v_spentAt v_ranChanges f_m_tape f_m_knee f_m_weight f_m_isLame f_m_loadWeight f_m_owner f_m_food f_m_miles f_m_slope f_m_clauseLetter f_m_sumFrom f_m_codeFrom f_m_codeTo f_m_code f_m_codeArg f_m_newLetter f_m_newSum f_m_newFrom f_m_newTo f_m_newCode f_m_newArg f_m_stack f_m_worth f_m_isRefused f_m_least f_m_packPounds f_m_packOwner f_m_room f_m_givenTo f_m_canBe f_m_setPounds f_m_plainTime f_m_muleTime f_m_planTo f_m_march f_m_tired f_m_ranMinutes f_m_tiredAhead f_m_isReached f_m_toEnd f_m_upTo f_m_upNext f_m_byChanges f_m_bandPaces) NT sz (fun (u : Int32 × Int32 × Int32 × Int32 × Int32 × Int32 × Int32 × (Nat → Int32) × (Nat → Int32) × (Nat → Int32)) => (n6 (u.2.2.2.2.2.2.2.2.2) = rsN (fun w9 t9 => heldF (t9 - tellF f_m_clauseLetter f_m_sumFrom f_m_codeFrom f_m_codeTo f_m_code f_m_codeArg (valF f_m_knee f_m_weight v_walkers (nI w9) 0 t9 0 0 i 0) 114 0 5 v_clauseMany.toNatClampNeg 0) 0 5) v_walkers.toNatClampNeg (n6 f_m_tired) many.toNatClampNeg) ∧ (0 ≤ (u.1).toInt ∧ (u.1).toInt ≤ 5) ∧ (rg (0) 1 (u.2.2.2.2.2.2.2.2.1)) ∧ (rg (0) 5 (u.2.2.2.2.2.2.2.2.2))) (fun u => wMD cy hm v_taped v_walkers v_loads v_pieces v_changeCosts v_planned v_isMarch v_clauseMany v_place v_end v_bad v_clauses v_codes v_open v_stacked v_isOver v_isBehind (u.1) (u.2.1) (u.2.2.1) (u.2.2.2.1) (u.2.2.2.2.1) (u.2.2.2.2.2.1) (u.2.2.2.2.2.2.1) v_packing v_packed v_goPace v_goMinutes v_spentAt v_ranChanges f_m_tape f_m_knee f_m_weight f_m_isLame f_m_loadWeight f_m_owner f_m_food f_m_miles f_m_slope f_m_clauseLetter f_m_sumFrom f_m_codeFrom f_m_codeTo f_m_code f_m_codeArg f_m_newLetter f_m_newSum f_m_newFrom f_m_newTo f_m_newCode f_m_newArg f_m_stack (u.2.2.2.2.2.2.2.1) (u.2.2.2.2.2.2.2.2.1) f_m_least f_m_packPounds f_m_packOwner f_m_room f_m_givenTo f_m_canBe f_m_setPounds f_m_plainTime f_m_muleTime f_m_planTo f_m_march (u.2.2.2.2.2.2.2.2.2) f_m_ranMinutes f_m_tiredAhead f_m_isReached f_m_toEnd f_m_upTo f_m_upNext f_m_byChanges f_m_bandPaces) := by
  refine gMv_in (by decide) (Nat.le_of_ble_eq_true rfl) ?_
  intro p e s m args below meth c A ls Q hx hb hml hts hown hsz hP hK hD hN hAe hA hS hl hret
  subst hsz
  have hl : lv_has ls 5 [(0, .ref (hm 0)), (1, .int many), (2, .int i)] := hl
  have hrt := fun (v_atW' : Int32) (v_atL' : Int32) (v_atT' : Int32) (v_atH' : Int32) (v_atM' : Int32) (v_atI' : Int32) (v_atQ' : Int32) (f_m_worth' : Nat → Int32) (f_m_isRefused' : Nat → Int32) (f_m_tired' : Nat → Int32) (hp : (n6 f_m_tired' = rsN (fun w9 t9 => heldF (t9 - tellF f_m_clauseLetter f_m_sumFrom f_m_codeFrom f_m_codeTo f_m_code f_m_codeArg (valF f_m_knee f_m_weight v_walkers (nI w9) 0 t9 0 0 i 0) 114 0 5 v_clauseMany.toNatClampNeg 0) 0 5) v_walkers.toNatClampNeg (n6 f_m_tired) many.toNatClampNeg) ∧ (0 ≤ v_atW'.toInt ∧ v_atW'.toInt ≤ 5) ∧ (rg (0) 1 f_m_isRefused') ∧ (rg (0) 5 f_m_tired')) {H : Heap} {locs : List Loc} {pc : Nat} {ls : Array Slot} => hret (v_atW', v_atL', v_atT', v_atH', v_atM', v_atI', v_atQ', f_m_worth', f_m_isRefused', f_m_tired') (H := H) (locs := locs) (pc := pc) (ls := ls) hp
  clear hret
  refine lv_iconst (v := 0) hx hb dX10_rests_0 (by decide) ?_
  refine lv_istore_n (lv' := [(3, .int 0), (0, .ref (hm 0)), (1, .int many), (2, .int i)]) hx hb dX10_rests_1 rfl hl (by decide) rfl (fun ls hl => ?_)
  have L2_23 : ∀ (n : Nat) (f_12 : Nat → Int32) (f_13 : Nat → Int32) (f_14 : Nat → Int32) (l_15 : Int32) (w_16 : Int32) (w_17 : Int32) (w_18 : Int32) (w_19 : Int32) (w_20 : Int32) (w_21 : Int32) (w_22 : Int32), (rg (0) 1 f_12) → (rg (0) 5 f_13) → (0 ≤ l_15.toInt ∧ l_15.toInt ≤ 2) → (0 ≤ w_22.toInt ∧ w_22.toInt ≤ 5) → (n6 f_13 = rsN (fun w9 t9 => heldF (t9 - tellF f_m_clauseLetter f_m_sumFrom f_m_codeFrom f_m_codeTo f_m_code f_m_codeArg (valF f_m_knee f_m_weight v_walkers (nI w9) 0 t9 0 0 i 0) 114 0 5 v_clauseMany.toNatClampNeg 0) 0 5) v_walkers.toNatClampNeg (n6 f_m_tired) l_15.toNatClampNeg) → (l_15.toInt ≤ many.toInt) → 3 - l_15.toInt < n → ∀ (H : Heap) (locs : List Loc) (ls : Array Slot), va_P D vwCl (wMD cy hm v_taped v_walkers v_loads v_pieces v_changeCosts v_planned v_isMarch v_clauseMany v_place v_end v_bad v_clauses v_codes v_open v_stacked v_isOver v_isBehind w_22 w_18 w_21 w_16 w_19 w_17 w_20 v_packing v_packed v_goPace v_goMinutes v_spentAt v_ranChanges f_m_tape f_m_knee f_m_weight f_m_isLame f_m_loadWeight f_m_owner f_m_food f_m_miles f_m_slope f_m_clauseLetter f_m_sumFrom f_m_codeFrom f_m_codeTo f_m_code f_m_codeArg f_m_newLetter f_m_newSum f_m_newFrom f_m_newTo f_m_newCode f_m_newArg f_m_stack f_14 f_12 f_m_least f_m_packPounds f_m_packOwner f_m_room f_m_givenTo f_m_canBe f_m_setPounds f_m_plainTime f_m_muleTime f_m_planTo f_m_march f_13 f_m_ranMinutes f_m_tiredAhead f_m_isReached f_m_toEnd f_m_upTo f_m_upNext f_m_byChanges f_m_bandPaces) H → va_D A (wMD cy hm v_taped v_walkers v_loads v_pieces v_changeCosts v_planned v_isMarch v_clauseMany v_place v_end v_bad v_clauses v_codes v_open v_stacked v_isOver v_isBehind w_22 w_18 w_21 w_16 w_19 w_17 w_20 v_packing v_packed v_goPace v_goMinutes v_spentAt v_ranChanges f_m_tape f_m_knee f_m_weight f_m_isLame f_m_loadWeight f_m_owner f_m_food f_m_miles f_m_slope f_m_clauseLetter f_m_sumFrom f_m_codeFrom f_m_codeTo f_m_code f_m_codeArg f_m_newLetter f_m_newSum f_m_newFrom f_m_newTo f_m_newCode f_m_newArg f_m_stack f_14 f_12 f_m_least f_m_packPounds f_m_packOwner f_m_room f_m_givenTo f_m_canBe f_m_setPounds f_m_plainTime f_m_muleTime f_m_planTo f_m_march f_13 f_m_ranMinutes f_m_tiredAhead f_m_isReached f_m_toEnd f_m_upTo f_m_upNext f_m_byChanges f_m_bandPaces) → va_S A s.heap H locs → lv_has ls 5 [(3, .int l_15), (0, .ref (hm 0)), (1, .int many), (2, .int i)] → W p l e (gRm 5) s m args below meth c H locs 0 0 Q (F0 m 2 ls []) := by
    intro n
    induction n with
    | zero => intro f_12 f_13 f_14 l_15 w_16 w_17 w_18 w_19 w_20 w_21 w_22 hL2_23_0 hL2_23_1 hL2_23_2 hL2_23_3 hL2_23_4 hL2_23_5 hm; exact absurd hm (by omega)
    | succ n ih2_23 =>
      intro f_12 f_13 f_14 l_15 w_16 w_17 w_18 w_19 w_20 w_21 w_22 hL2_23_0 hL2_23_1 hL2_23_2 hL2_23_3 hL2_23_4 hL2_23_5 hmL2_23 H locs ls hP hD hS hl
      refine lv_iload_n hx hb dX10_rests_2 rfl (lv_at hl 0 rfl) ?_
      refine lv_iload_n hx hb dX10_rests_3 rfl (lv_at hl 2 rfl) ?_
      refine lv_icmp_ge (tgt := 101) hx hb dX10_rests_4 (by decide) (fun c_24 => ?_) (fun c_24 => ?_)
      · have gc_24 : many.toInt ≤ l_15.toInt := i_le (rfl : many.toInt = many.toInt) (rfl : l_15.toInt = l_15.toInt) c_24
        exact hrt w_22 w_18 w_21 w_16 w_19 w_17 w_20 f_14 f_12 f_13 ⟨(by rw [show many.toNatClampNeg = l_15.toNatClampNeg from by rw [i_ix (rfl : l_15.toInt = l_15.toInt), i_ix (rfl : many.toInt = many.toInt)]; omega]; exact hL2_23_4), (by omega), hL2_23_0, hL2_23_1⟩ hP hD hS dX10_rests_101
      · have gc_24 : l_15.toInt < many.toInt := i_nle (rfl : many.toInt = many.toInt) (rfl : l_15.toInt = l_15.toInt) c_24
        skip
        refine lv_iconst (v := 0) hx hb dX10_rests_7 (by decide) ?_
        refine lv_istore (lv' := [(4, .int 0), (3, .int l_15), (0, .ref (hm 0)), (1, .int many), (2, .int i)]) hx hb dX10_rests_8 hl (by decide) rfl (fun ls hl => ?_)
        have L10_47 : ∀ (n : Nat) (f_36 : Nat → Int32) (f_37 : Nat → Int32) (f_38 : Nat → Int32) (l_39 : Int32) (w_40 : Int32) (w_41 : Int32) (w_42 : Int32) (w_43 : Int32) (w_44 : Int32) (w_45 : Int32) (w_46 : Int32), (rg (0) 1 f_36) → (rg (0) 5 f_37) → (0 ≤ l_39.toInt ∧ l_39.toInt ≤ 6) → (0 ≤ w_46.toInt ∧ w_46.toInt ≤ 5) → (n6 f_37 = rs1 (fun w9 t9 => heldF (t9 - tellF f_m_clauseLetter f_m_sumFrom f_m_codeFrom f_m_codeTo f_m_code f_m_codeArg (valF f_m_knee f_m_weight v_walkers (nI w9) 0 t9 0 0 i 0) 114 0 5 v_clauseMany.toNatClampNeg 0) 0 5) (rsN (fun w9 t9 => heldF (t9 - tellF f_m_clauseLetter f_m_sumFrom f_m_codeFrom f_m_codeTo f_m_code f_m_codeArg (valF f_m_knee f_m_weight v_walkers (nI w9) 0 t9 0 0 i 0) 114 0 5 v_clauseMany.toNatClampNeg 0) 0 5) v_walkers.toNatClampNeg (n6 f_m_tired) l_15.toNatClampNeg) l_39.toNatClampNeg) → (l_39.toInt ≤ v_walkers.toInt) → 7 - l_39.toInt < n → ∀ (H : Heap) (locs : List Loc) (ls : Array Slot), va_P D vwCl (wMD cy hm v_taped v_walkers v_loads v_pieces v_changeCosts v_planned v_isMarch v_clauseMany v_place v_end v_bad v_clauses v_codes v_open v_stacked v_isOver v_isBehind w_46 w_42 w_45 w_40 w_43 w_41 w_44 v_packing v_packed v_goPace v_goMinutes v_spentAt v_ranChanges f_m_tape f_m_knee f_m_weight f_m_isLame f_m_loadWeight f_m_owner f_m_food f_m_miles f_m_slope f_m_clauseLetter f_m_sumFrom f_m_codeFrom f_m_codeTo f_m_code f_m_codeArg f_m_newLetter f_m_newSum f_m_newFrom f_m_newTo f_m_newCode f_m_newArg f_m_stack f_38 f_36 f_m_least f_m_packPounds f_m_packOwner f_m_room f_m_givenTo f_m_canBe f_m_setPounds f_m_plainTime f_m_muleTime f_m_planTo f_m_march f_37 f_m_ranMinutes f_m_tiredAhead f_m_isReached f_m_toEnd f_m_upTo f_m_upNext f_m_byChanges f_m_bandPaces) H → va_D A (wMD cy hm v_taped v_walkers v_loads v_pieces v_changeCosts v_planned v_isMarch v_clauseMany v_place v_end v_bad v_clauses v_codes v_open v_stacked v_isOver v_isBehind w_46 w_42 w_45 w_40 w_43 w_41 w_44 v_packing v_packed v_goPace v_goMinutes v_spentAt v_ranChanges f_m_tape f_m_knee f_m_weight f_m_isLame f_m_loadWeight f_m_owner f_m_food f_m_miles f_m_slope f_m_clauseLetter f_m_sumFrom f_m_codeFrom f_m_codeTo f_m_code f_m_codeArg f_m_newLetter f_m_newSum f_m_newFrom f_m_newTo f_m_newCode f_m_newArg f_m_stack f_38 f_36 f_m_least f_m_packPounds f_m_packOwner f_m_room f_m_givenTo f_m_canBe f_m_setPounds f_m_plainTime f_m_muleTime f_m_planTo f_m_march f_37 f_m_ranMinutes f_m_tiredAhead f_m_isReached f_m_toEnd f_m_upTo f_m_upNext f_m_byChanges f_m_bandPaces) → va_S A s.heap H locs → lv_has ls 5 [(4, .int l_39), (3, .int l_15), (0, .ref (hm 0)), (1, .int many), (2, .int i)] → W p l e (gRm 5) s m args below meth c H locs 0 0 Q (F0 m 10 ls []) := by
          intro n
          induction n with
          | zero => intro f_36 f_37 f_38 l_39 w_40 w_41 w_42 w_43 w_44 w_45 w_46 hL10_47_0 hL10_47_1 hL10_47_2 hL10_47_3 hL10_47_4 hL10_47_5 hm; exact absurd hm (by omega)
          | succ n ih10_47 =>
            intro f_36 f_37 f_38 l_39 w_40 w_41 w_42 w_43 w_44 w_45 w_46 hL10_47_0 hL10_47_1 hL10_47_2 hL10_47_3 hL10_47_4 hL10_47_5 hmL10_47 H locs ls hP hD hS hl
            refine lv_iload hx hb dX10_rests_10 (lv_at hl 0 rfl) ?_
            refine lv_aload_n hx hb dX10_rests_12 rfl (lv_at hl 2 rfl) ?_
            refine gt_MD_MD_walkers hx hb hts hown hK hP lwd_221 dX10_rests_13 ?_
            refine lv_icmp_ge (tgt := 95) hx hb dX10_rests_16 (by decide) (fun c_48 => ?_) (fun c_48 => ?_)
            · have gc_48 : v_walkers.toInt ≤ l_39.toInt := i_le (rfl : v_walkers.toInt = v_walkers.toInt) (rfl : l_39.toInt = l_39.toInt) c_48
              obtain ⟨n_49, en_49⟩ : ∃ y : Int32, y = l_15 + 1 := ⟨_, rfl⟩
              have tn_49 : n_49.toInt = l_15.toInt + 1 := i_add en_49 (rfl : l_15.toInt = l_15.toInt) (by decide : (1 : Int32).toInt = 1) (by omega) (by omega)
              refine lv_iinc (v := n_49) (lv' := [(3, .int n_49), (4, .int l_39), (0, .ref (hm 0)), (1, .int many), (2, .int i)]) hx hb dX10_rests_95 hl (k := 1) rfl (by rw [en_49]; rfl) (by decide) rfl (fun ls hl => ?_)
              refine lv_goto (tgt := 2) hx hb dX10_rests_98 (by decide) ?_
              exact ih2_23 f_36 f_37 f_38 n_49 w_40 w_41 w_42 w_43 w_44 w_45 w_46 hL10_47_0 hL10_47_1 (by omega) (by omega) (by
                have e9 : n_49.toNatClampNeg = l_15.toNatClampNeg + 1 := by rw [i_ix tn_49, i_ix (rfl : l_15.toInt = l_15.toInt)]; omega
                rw [e9, rsN, show v_walkers.toNatClampNeg = l_39.toNatClampNeg from by rw [i_ix (rfl : l_39.toInt = l_39.toInt), i_ix (rfl : v_walkers.toInt = v_walkers.toInt)]; omega]
                have h9 := hL10_47_4
                rw [show v_walkers.toNatClampNeg = l_39.toNatClampNeg from by rw [i_ix (rfl : l_39.toInt = l_39.toInt), i_ix (rfl : v_walkers.toInt = v_walkers.toInt)]; omega] at h9
                exact h9) (by omega) (by omega) _ _ _ hP hD hS (lv_sub hl [0, 2, 3, 4] rfl)
            · have gc_48 : l_39.toInt < v_walkers.toInt := i_nle (rfl : v_walkers.toInt = v_walkers.toInt) (rfl : l_39.toInt = l_39.toInt) c_48
              skip
              refine lv_aload_n hx hb dX10_rests_19 rfl (lv_at hl 2 rfl) ?_
              refine lv_iload hx hb dX10_rests_20 (lv_at hl 0 rfl) ?_
              refine pt_MD_MD_atW (x := l_39) hx hb hts hown hK hP hD hS lwd_557 dX10_rests_22 (fun H locs hP hD hS => ?_)
              refine lv_aload_n hx hb dX10_rests_25 rfl (lv_at hl 2 rfl) ?_
              refine lv_iconst (v := 0) hx hb dX10_rests_26 (by decide) ?_
              refine pt_MD_MD_atL (x := 0) hx hb hts hown hK hP hD hS lwd_558 dX10_rests_27 (fun H locs hP hD hS => ?_)
              refine lv_aload_n hx hb dX10_rests_30 rfl (lv_at hl 2 rfl) ?_
              refine lv_aload_n hx hb dX10_rests_31 rfl (lv_at hl 2 rfl) ?_
              refine gt_MD_MD_tired hx hb hts hown hK hP lwd_191 dX10_rests_32 ?_
              refine lv_iload hx hb dX10_rests_35 (lv_at hl 0 rfl) ?_
              refine al_m_tired hx hb hK hP hL10_47_1 (i_in (rfl : l_39.toInt = l_39.toInt) (by omega) (by omega)) dX10_rests_37 (fun n_50 en_50 bn_50 => ?_)
              refine pt_MD_MD_atT (x := n_50) hx hb hts hown hK hP hD hS lwd_559 dX10_rests_38 (fun H locs hP hD hS => ?_)
              refine lv_aload_n hx hb dX10_rests_41 rfl (lv_at hl 2 rfl) ?_
              refine lv_iconst (v := 0) hx hb dX10_rests_42 (by decide) ?_
              refine pt_MD_MD_atH (x := 0) hx hb hts hown hK hP hD hS lwd_560 dX10_rests_43 (fun H locs hP hD hS => ?_)
              refine lv_aload_n hx hb dX10_rests_46 rfl (lv_at hl 2 rfl) ?_
              refine lv_iconst (v := 0) hx hb dX10_rests_47 (by decide) ?_
              refine pt_MD_MD_atM (x := 0) hx hb hts hown hK hP hD hS lwd_561 dX10_rests_48 (fun H locs hP hD hS => ?_)
              refine lv_aload_n hx hb dX10_rests_51 rfl (lv_at hl 2 rfl) ?_
              refine lv_iload_n hx hb dX10_rests_52 rfl (lv_at hl 4 rfl) ?_
              refine pt_MD_MD_atI (x := i) hx hb hts hown hK hP hD hS lwd_562 dX10_rests_53 (fun H locs hP hD hS => ?_)
              refine lv_aload_n hx hb dX10_rests_56 rfl (lv_at hl 2 rfl) ?_
              refine lv_iconst (v := 0) hx hb dX10_rests_57 (by decide) ?_
              refine pt_MD_MD_atQ (x := 0) hx hb hts hown hK hP hD hS lwd_563 dX10_rests_58 (fun H locs hP hD hS => ?_)
              refine lv_aload_n hx hb dX10_rests_61 rfl (lv_at hl 2 rfl) ?_
              refine gt_MD_MD_tired hx hb hts hown hK hP lwd_191 dX10_rests_62 ?_
              refine lv_iload hx hb dX10_rests_65 (lv_at hl 0 rfl) ?_
              refine lv_aload_n hx hb dX10_rests_67 rfl (lv_at hl 2 rfl) ?_
              refine gt_MD_MD_tired hx hb hts hown hK hP lwd_191 dX10_rests_68 ?_
              refine lv_iload hx hb dX10_rests_71 (lv_at hl 0 rfl) ?_
              refine al_m_tired hx hb hK hP hL10_47_1 (i_in (rfl : l_39.toInt = l_39.toInt) (by omega) (by omega)) dX10_rests_73 (fun n_51 en_51 bn_51 => ?_)
              obtain rfl : n_50 = n_51 := en_50.trans en_51.symm
              refine lv_aload_n hx hb dX10_rests_74 rfl (lv_at hl 2 rfl) ?_
              refine lv_bipush (v := 114) hx hb dX10_rests_75 (by decide) ?_
              refine lv_iconst (v := 0) hx hb dX10_rests_77 (by decide) ?_
              refine lv_iconst (v := 5) hx hb dX10_rests_78 (by decide) ?_
              have k_52 : (114 : Int32).toInt = 114 := by decide
              have k_53 : (0 : Int32).toInt = 0 := by decide
              have k_54 : (5 : Int32).toInt = 5 := by decide
              refine xi hD hS hA (xV (As := [.int 114, .int 0, .int 5]) (rest := [.int n_50, .int l_39, .ref (hm 36)]) hx hb hml hown hts hK hP hD hS hA NT_ok hN hAe hl.1 ⟨Nat.le_refl _, Nat.le_refl _⟩ 0 rfl rfl rfl (c_X10_tells l D cy hm v_taped v_walkers v_loads v_pieces v_changeCosts v_planned v_isMarch v_clauseMany v_place v_end v_bad v_clauses v_codes v_open v_stacked v_isOver v_isBehind l_39 0 n_50 0 0 i 0 v_packing v_packed v_goPace v_goMinutes v_spentAt v_ranChanges f_m_tape f_m_knee f_m_weight f_m_isLame f_m_loadWeight f_m_owner f_m_food f_m_miles f_m_slope f_m_clauseLetter f_m_sumFrom f_m_codeFrom f_m_codeTo f_m_code f_m_codeArg f_m_newLetter f_m_newSum f_m_newFrom f_m_newTo f_m_newCode f_m_newArg f_m_stack f_38 f_36 f_m_least f_m_packPounds f_m_packOwner f_m_room f_m_givenTo f_m_canBe f_m_setPounds f_m_plainTime f_m_muleTime f_m_planTo f_m_march f_37 f_m_ranMinutes f_m_tiredAhead f_m_isReached f_m_toEnd f_m_upTo f_m_upNext f_m_byChanges f_m_bandPaces H.size 114 0 5 (by omega) (by omega) (by omega) hr_m_weight hL10_47_0 hwf (by omega)) (gi_V lwd_564 lwd_565 lwd_566 lwd_5 lwd_567) ⟨rfl, hd_X10_tells⟩ ⟨Nat.le_of_ble_eq_true rfl, Nat.le_of_ble_eq_true rfl⟩ rfl (Nat.le_of_ble_eq_true rfl) dX10_rests_79) (fun r_56 u_55 H locs hw hP hD hS => ?_)
              obtain ⟨zworth_57, zisRefused_58⟩ := u_55
              try dsimp only at hw hP hD
              obtain ⟨p_59, p_60, p_61⟩ := hw
              refine lv_isub hx hb dX10_rests_82 ?_
              refine lv_topi (fun n_62 en_62 => ?_)
              have tn_62 : n_62.toInt = n_50.toInt - r_56.toInt := i_sub en_62 (rfl : n_50.toInt = n_50.toInt) (rfl : r_56.toInt = r_56.toInt) (by omega) (by omega)
              skip
              refine lv_iconst (v := 0) hx hb dX10_rests_83 (by decide) ?_
              refine lv_iconst (v := 5) hx hb dX10_rests_84 (by decide) ?_
              refine xi hD hS hA (xS (As := [.int n_62, .int 0, .int 5]) (rest := [.int l_39, .ref (hm 36)]) hx hb hml hown hts hK hP hD hS hA NT_ok hN hAe hl.1 ⟨Nat.le_refl _, Nat.le_refl _⟩ (c_X10_held l D cy hm v_taped v_walkers v_loads v_pieces v_changeCosts v_planned v_isMarch v_clauseMany v_place v_end v_bad v_clauses v_codes v_open v_stacked v_isOver v_isBehind l_39 0 n_50 0 0 i 0 v_packing v_packed v_goPace v_goMinutes v_spentAt v_ranChanges f_m_tape f_m_knee f_m_weight f_m_isLame f_m_loadWeight f_m_owner f_m_food f_m_miles f_m_slope f_m_clauseLetter f_m_sumFrom f_m_codeFrom f_m_codeTo f_m_code f_m_codeArg f_m_newLetter f_m_newSum f_m_newFrom f_m_newTo f_m_newCode f_m_newArg f_m_stack zworth_57 zisRefused_58 f_m_least f_m_packPounds f_m_packOwner f_m_room f_m_givenTo f_m_canBe f_m_setPounds f_m_plainTime f_m_muleTime f_m_planTo f_m_march f_37 f_m_ranMinutes f_m_tiredAhead f_m_isReached f_m_toEnd f_m_upTo f_m_upNext f_m_byChanges f_m_bandPaces H.size n_62 0 5 (by omega)) (gi_S lwd_583 lwd_584 lwd_5 lwd_585) hd_X10_held ⟨Nat.le_of_ble_eq_true rfl, Nat.le_of_ble_eq_true rfl⟩ rfl (Nat.le_of_ble_eq_true rfl) dX10_rests_85) (fun r_64 u_63 H locs hw hP hD hS => ?_)
              try dsimp only at hw hP hD
              obtain ⟨p_65, p_66⟩ := hw
              refine as_m_tired (x := r_64) hx hb hK hP hD hS hL10_47_1 (i_in (rfl : l_39.toInt = l_39.toInt) (by omega) (by omega)) (by omega) dX10_rests_88 (fun f_67 ef_67 rf_67 H locs hP hD hS => ?_)
              obtain ⟨n_68, en_68⟩ : ∃ y : Int32, y = l_39 + 1 := ⟨_, rfl⟩
              have tn_68 : n_68.toInt = l_39.toInt + 1 := i_add en_68 (rfl : l_39.toInt = l_39.toInt) (by decide : (1 : Int32).toInt = 1) (by omega) (by omega)
              refine lv_iinc (v := n_68) (lv' := [(4, .int n_68), (3, .int l_15), (0, .ref (hm 0)), (1, .int many), (2, .int i)]) hx hb dX10_rests_89 hl (k := 0) rfl (by rw [en_68]; rfl) (by decide) rfl (fun ls hl => ?_)
              refine lv_goto (tgt := 10) hx hb dX10_rests_92 (by decide) ?_
              have k_69 : (0 : Int32).toInt = 0 := by decide
              have k_70 : (0 : Int32).toInt = 0 := by decide
              have k_71 : (0 : Int32).toInt = 0 := by decide
              have k_72 : (0 : Int32).toInt = 0 := by decide
              exact ih10_47 zisRefused_58 f_67 zworth_57 n_68 0 i 0 0 0 n_50 l_39 p_61 rf_67 (by omega) (by omega) (by
                have e9 : n_68.toNatClampNeg = l_39.toNatClampNeg + 1 := by rw [i_ix tn_68, i_ix (rfl : l_39.toInt = l_39.toInt)]; omega
                have hw9 : l_39.toNatClampNeg < 6 := by rw [i_ix (rfl : l_39.toInt = l_39.toInt)]; omega
                rw [e9, rs1, ef_67, n6_upd hw9, ← hL10_47_4, n6_at hw9, nI_back (by omega), ← en_50, p_66, en_62, p_60]) (by omega) (by omega) _ _ _ hP hD hS (lv_sub hl [0, 1, 2, 3, 4] rfl)
        have k_73 : (0 : Int32).toInt = 0 := by decide
        exact L10_47 8589934592 f_12 f_13 f_14 0 w_16 w_17 w_18 w_19 w_20 w_21 w_22 hL2_23_0 hL2_23_1 (by omega) (by omega) (by rw [show (0 : Int32).toNatClampNeg = 0 from by decide]; exact hL2_23_4) (by omega) (by omega) _ _ _ hP hD hS (lv_sub hl [0, 1, 2, 3, 4] rfl)
  have k_74 : (0 : Int32).toInt = 0 := by decide
  exact L2_23 8589934592 f_m_isRefused f_m_tired f_m_worth 0 v_atH v_atI v_atL v_atM v_atQ v_atT v_atW hr_m_isRefused hr_m_tired (by omega) (by omega) (by rw [show (0 : Int32).toNatClampNeg = 0 from by decide]; rfl) (by omega) (by omega) _ _ _ hP hD hS (lv_sub hl [0, 1, 2, 3] rfl)
set_option maxHeartbeats 16000000 in
set_option maxRecDepth 100000 in
theorem c_X10_bandPace (l : Launch) (D : va_G) (cy : Nat → ClassId) (hm : Nat → Nat) (v_taped v_walkers v_loads v_pieces v_changeCosts v_planned v_isMarch v_clauseMany v_place v_end v_bad v_clauses v_codes v_open v_stacked v_isOver v_isBehind v_atW v_atL v_atT v_atH v_atM v_atI v_atQ v_packing v_packed v_goPace v_goMinutes v_spentAt v_ranChanges : Int32) (f_m_tape f_m_knee f_m_weight f_m_isLame f_m_loadWeight f_m_owner f_m_food f_m_miles f_m_slope f_m_clauseLetter f_m_sumFrom f_m_codeFrom f_m_codeTo f_m_code f_m_codeArg f_m_newLetter f_m_newSum f_m_newFrom f_m_newTo f_m_newCode f_m_newArg f_m_stack f_m_worth f_m_isRefused f_m_least f_m_packPounds f_m_packOwner f_m_room f_m_givenTo f_m_canBe f_m_setPounds f_m_plainTime f_m_muleTime f_m_planTo f_m_march f_m_tired f_m_ranMinutes f_m_tiredAhead f_m_isReached f_m_toEnd f_m_upTo f_m_upNext f_m_byChanges f_m_bandPaces : Nat → Int32) (sz : Nat) (k : Int32) (i : Int32) (hb_v_walkers : 0 ≤ v_walkers.toInt ∧ v_walkers.toInt ≤ 6) (hb_v_loads : 0 ≤ v_loads.toInt ∧ v_loads.toInt ≤ 9) (hb_v_clauseMany : 0 ≤ v_clauseMany.toInt ∧ v_clauseMany.toInt ≤ 14) (hb_v_atW : 0 ≤ v_atW.toInt ∧ v_atW.toInt ≤ 5) (hr_m_weight : rg (0) 250 f_m_weight) (hr_m_isLame : rg (0) 1 f_m_isLame) (hr_m_loadWeight : rg (0) 120 f_m_loadWeight) (hr_m_food : rg (0) 20 f_m_food) (hr_m_miles : rg (0) 20 f_m_miles) (hr_m_isRefused : rg (0) 1 f_m_isRefused) (hr_m_tired : rg (0) 5 f_m_tired) (ha_k : 0 ≤ k.toInt ∧ k.toInt ≤ 5) (ha_i : 0 ≤ i.toInt ∧ i.toInt ≤ 9) (hwf : wfC v_clauseMany f_m_sumFrom f_m_codeFrom f_m_codeTo f_m_code) : gMi l yX10_bandPace cX10_bandPace 6 .int 6 [.ref (hm 0), .int k, .int i] D cy (wMD cy hm v_taped v_walkers v_loads v_pieces v_changeCosts v_planned v_isMarch v_clauseMany v_place v_end v_bad v_clauses v_codes v_open v_stacked v_isOver v_isBehind v_atW v_atL v_atT v_atH v_atM v_atI v_atQ v_packing v_packed v_goPace v_goMinutes v_spentAt v_ranChanges f_m_tape f_m_knee f_m_weight f_m_isLame f_m_loadWeight f_m_owner f_m_food f_m_miles f_m_slope f_m_clauseLetter f_m_sumFrom f_m_codeFrom f_m_codeTo f_m_code f_m_codeArg f_m_newLetter f_m_newSum f_m_newFrom f_m_newTo f_m_newCode f_m_newArg f_m_stack f_m_worth f_m_isRefused f_m_least f_m_packPounds f_m_packOwner f_m_room f_m_givenTo f_m_canBe f_m_setPounds f_m_plainTime f_m_muleTime f_m_planTo f_m_march f_m_tired f_m_ranMinutes f_m_tiredAhead f_m_isReached f_m_toEnd f_m_upTo f_m_upNext f_m_byChanges f_m_bandPaces) NT sz (fun (r : Int32) (u : Int32 × Int32 × Int32 × Int32 × Int32 × Int32 × Int32 × (Nat → Int32) × (Nat → Int32)) => (0 ≤ r.toInt ∧ r.toInt ≤ 60) ∧ (r = bnF (fun w9 => paceF f_m_clauseLetter f_m_sumFrom f_m_codeFrom f_m_codeTo f_m_code f_m_codeArg f_m_knee f_m_weight f_m_isLame f_m_slope f_m_miles v_clauseMany v_walkers (nI w9) (cbF f_m_planTo f_m_loadWeight f_m_food (nI w9) k i v_loads.toNatClampNeg) (n6 f_m_tired w9) i 0) v_walkers.toNatClampNeg) ∧ (0 ≤ (u.1).toInt ∧ (u.1).toInt ≤ 5) ∧ (rg (0) 1 (u.2.2.2.2.2.2.2.2))) (fun u => wMD cy hm v_taped v_walkers v_loads v_pieces v_changeCosts v_planned v_isMarch v_clauseMany v_place v_end v_bad v_clauses v_codes v_open v_stacked v_isOver v_isBehind (u.1) (u.2.1) (u.2.2.1) (u.2.2.2.1) (u.2.2.2.2.1) (u.2.2.2.2.2.1) (u.2.2.2.2.2.2.1) v_packing v_packed v_goPace v_goMinutes v_spentAt v_ranChanges f_m_tape f_m_knee f_m_weight f_m_isLame f_m_loadWeight f_m_owner f_m_food f_m_miles f_m_slope f_m_clauseLetter f_m_sumFrom f_m_codeFrom f_m_codeTo f_m_code f_m_codeArg f_m_newLetter f_m_newSum f_m_newFrom f_m_newTo f_m_newCode f_m_newArg f_m_stack (u.2.2.2.2.2.2.2.1) (u.2.2.2.2.2.2.2.2) f_m_least f_m_packPounds f_m_packOwner f_m_room f_m_givenTo f_m_canBe f_m_setPounds f_m_plainTime f_m_muleTime f_m_planTo f_m_march f_m_tired f_m_ranMinutes f_m_tiredAhead f_m_isReached f_m_toEnd f_m_upTo f_m_upNext f_m_byChanges f_m_bandPaces) := by
  refine gMi_in (by decide) (Nat.le_of_ble_eq_true rfl) ?_
  intro p e s m args below meth c A ls Q hx hb hml hts hown hsz hP hK hD hN hAe hA hS hl hret
  subst hsz
  have hl : lv_has ls 6 [(0, .ref (hm 0)), (1, .int k), (2, .int i)] := hl
  have hrt := fun (r : Int32) (v_atW' : Int32) (v_atL' : Int32) (v_atT' : Int32) (v_atH' : Int32) (v_atM' : Int32) (v_atI' : Int32) (v_atQ' : Int32) (f_m_worth' : Nat → Int32) (f_m_isRefused' : Nat → Int32) (hp : (0 ≤ r.toInt ∧ r.toInt ≤ 60) ∧ (r = bnF (fun w9 => paceF f_m_clauseLetter f_m_sumFrom f_m_codeFrom f_m_codeTo f_m_code f_m_codeArg f_m_knee f_m_weight f_m_isLame f_m_slope f_m_miles v_clauseMany v_walkers (nI w9) (cbF f_m_planTo f_m_loadWeight f_m_food (nI w9) k i v_loads.toNatClampNeg) (n6 f_m_tired w9) i 0) v_walkers.toNatClampNeg) ∧ (0 ≤ v_atW'.toInt ∧ v_atW'.toInt ≤ 5) ∧ (rg (0) 1 f_m_isRefused')) {H : Heap} {locs : List Loc} {pc : Nat} {ls : Array Slot} => hret r (v_atW', v_atL', v_atT', v_atH', v_atM', v_atI', v_atQ', f_m_worth', f_m_isRefused') (H := H) (locs := locs) (pc := pc) (ls := ls) hp
  clear hret
  refine lv_bipush (v := 60) hx hb dX10_bandPace_0 (by decide) ?_
  refine lv_istore_n (lv' := [(3, .int 60), (0, .ref (hm 0)), (1, .int k), (2, .int i)]) hx hb dX10_bandPace_2 rfl hl (by decide) rfl (fun ls hl => ?_)
  refine lv_iconst (v := 0) hx hb dX10_bandPace_3 (by decide) ?_
  refine lv_istore (lv' := [(4, .int 0), (3, .int 60), (0, .ref (hm 0)), (1, .int k), (2, .int i)]) hx hb dX10_bandPace_4 hl (by decide) rfl (fun ls hl => ?_)
  have L6_23 : ∀ (n : Nat) (f_12 : Nat → Int32) (f_13 : Nat → Int32) (l_14 : Int32) (l_15 : Int32) (w_16 : Int32) (w_17 : Int32) (w_18 : Int32) (w_19 : Int32) (w_20 : Int32) (w_21 : Int32) (w_22 : Int32), (rg (0) 1 f_12) → (0 ≤ l_14.toInt ∧ l_14.toInt ≤ 60) → (0 ≤ l_15.toInt ∧ l_15.toInt ≤ 6) → (0 ≤ w_22.toInt ∧ w_22.toInt ≤ 5) → (l_14 = bnF (fun w9 => paceF f_m_clauseLetter f_m_sumFrom f_m_codeFrom f_m_codeTo f_m_code f_m_codeArg f_m_knee f_m_weight f_m_isLame f_m_slope f_m_miles v_clauseMany v_walkers (nI w9) (cbF f_m_planTo f_m_loadWeight f_m_food (nI w9) k i v_loads.toNatClampNeg) (n6 f_m_tired w9) i 0) l_15.toNatClampNeg) → (l_15.toInt ≤ v_walkers.toInt) → 7 - l_15.toInt < n → ∀ (H : Heap) (locs : List Loc) (ls : Array Slot), va_P D vwCl (wMD cy hm v_taped v_walkers v_loads v_pieces v_changeCosts v_planned v_isMarch v_clauseMany v_place v_end v_bad v_clauses v_codes v_open v_stacked v_isOver v_isBehind w_22 w_18 w_21 w_16 w_19 w_17 w_20 v_packing v_packed v_goPace v_goMinutes v_spentAt v_ranChanges f_m_tape f_m_knee f_m_weight f_m_isLame f_m_loadWeight f_m_owner f_m_food f_m_miles f_m_slope f_m_clauseLetter f_m_sumFrom f_m_codeFrom f_m_codeTo f_m_code f_m_codeArg f_m_newLetter f_m_newSum f_m_newFrom f_m_newTo f_m_newCode f_m_newArg f_m_stack f_13 f_12 f_m_least f_m_packPounds f_m_packOwner f_m_room f_m_givenTo f_m_canBe f_m_setPounds f_m_plainTime f_m_muleTime f_m_planTo f_m_march f_m_tired f_m_ranMinutes f_m_tiredAhead f_m_isReached f_m_toEnd f_m_upTo f_m_upNext f_m_byChanges f_m_bandPaces) H → va_D A (wMD cy hm v_taped v_walkers v_loads v_pieces v_changeCosts v_planned v_isMarch v_clauseMany v_place v_end v_bad v_clauses v_codes v_open v_stacked v_isOver v_isBehind w_22 w_18 w_21 w_16 w_19 w_17 w_20 v_packing v_packed v_goPace v_goMinutes v_spentAt v_ranChanges f_m_tape f_m_knee f_m_weight f_m_isLame f_m_loadWeight f_m_owner f_m_food f_m_miles f_m_slope f_m_clauseLetter f_m_sumFrom f_m_codeFrom f_m_codeTo f_m_code f_m_codeArg f_m_newLetter f_m_newSum f_m_newFrom f_m_newTo f_m_newCode f_m_newArg f_m_stack f_13 f_12 f_m_least f_m_packPounds f_m_packOwner f_m_room f_m_givenTo f_m_canBe f_m_setPounds f_m_plainTime f_m_muleTime f_m_planTo f_m_march f_m_tired f_m_ranMinutes f_m_tiredAhead f_m_isReached f_m_toEnd f_m_upTo f_m_upNext f_m_byChanges f_m_bandPaces) → va_S A s.heap H locs → lv_has ls 6 [(4, .int l_15), (3, .int l_14), (0, .ref (hm 0)), (1, .int k), (2, .int i)] → W p l e (gRm 6) s m args below meth c H locs 0 0 Q (F0 m 6 ls []) := by
    intro n
    induction n with
    | zero => intro f_12 f_13 l_14 l_15 w_16 w_17 w_18 w_19 w_20 w_21 w_22 hL6_23_0 hL6_23_1 hL6_23_2 hL6_23_3 hL6_23_4 hL6_23_5 hm; exact absurd hm (by omega)
    | succ n ih6_23 =>
      intro f_12 f_13 l_14 l_15 w_16 w_17 w_18 w_19 w_20 w_21 w_22 hL6_23_0 hL6_23_1 hL6_23_2 hL6_23_3 hL6_23_4 hL6_23_5 hmL6_23 H locs ls hP hD hS hl
      refine lv_iload hx hb dX10_bandPace_6 (lv_at hl 0 rfl) ?_
      refine lv_aload_n hx hb dX10_bandPace_8 rfl (lv_at hl 2 rfl) ?_
      refine gt_MD_MD_walkers hx hb hts hown hK hP lwd_221 dX10_bandPace_9 ?_
      refine lv_icmp_ge (tgt := 59) hx hb dX10_bandPace_12 (by decide) (fun c_24 => ?_) (fun c_24 => ?_)
      · have gc_24 : v_walkers.toInt ≤ l_15.toInt := i_le (rfl : v_walkers.toInt = v_walkers.toInt) (rfl : l_15.toInt = l_15.toInt) c_24
        refine lv_iload_n hx hb dX10_bandPace_59 rfl (lv_at hl 1 rfl) ?_
        exact hrt l_14 w_22 w_18 w_21 w_16 w_19 w_17 w_20 f_13 f_12 ⟨(by omega), (by rw [show v_walkers.toNatClampNeg = l_15.toNatClampNeg from by rw [i_ix (rfl : l_15.toInt = l_15.toInt), i_ix (rfl : v_walkers.toInt = v_walkers.toInt)]; omega]; exact hL6_23_4), (by omega), hL6_23_0⟩ hP hD hS rfl dX10_bandPace_60
      · have gc_24 : l_15.toInt < v_walkers.toInt := i_nle (rfl : v_walkers.toInt = v_walkers.toInt) (rfl : l_15.toInt = l_15.toInt) c_24
        skip
        refine lv_aload_n hx hb dX10_bandPace_15 rfl (lv_at hl 2 rfl) ?_
        refine lv_iload hx hb dX10_bandPace_16 (lv_at hl 0 rfl) ?_
        refine lv_aload_n hx hb dX10_bandPace_18 rfl (lv_at hl 2 rfl) ?_
        refine lv_iload hx hb dX10_bandPace_19 (lv_at hl 0 rfl) ?_
        refine lv_iload_n hx hb dX10_bandPace_21 rfl (lv_at hl 3 rfl) ?_
        refine lv_iload_n hx hb dX10_bandPace_22 rfl (lv_at hl 4 rfl) ?_
        refine xi hD hS hA (xV (As := [.int l_15, .int k, .int i]) (rest := [.int l_15, .ref (hm 0)]) hx hb hml hown hts hK hP hD hS hA NT_ok hN hAe hl.1 ⟨Nat.le_refl _, Nat.le_refl _⟩ 0 rfl rfl rfl (c_X10_carriedBy l D cy hm v_taped v_walkers v_loads v_pieces v_changeCosts v_planned v_isMarch v_clauseMany v_place v_end v_bad v_clauses v_codes v_open v_stacked v_isOver v_isBehind w_22 w_18 w_21 w_16 w_19 w_17 w_20 v_packing v_packed v_goPace v_goMinutes v_spentAt v_ranChanges f_m_tape f_m_knee f_m_weight f_m_isLame f_m_loadWeight f_m_owner f_m_food f_m_miles f_m_slope f_m_clauseLetter f_m_sumFrom f_m_codeFrom f_m_codeTo f_m_code f_m_codeArg f_m_newLetter f_m_newSum f_m_newFrom f_m_newTo f_m_newCode f_m_newArg f_m_stack f_13 f_12 f_m_least f_m_packPounds f_m_packOwner f_m_room f_m_givenTo f_m_canBe f_m_setPounds f_m_plainTime f_m_muleTime f_m_planTo f_m_march f_m_tired f_m_ranMinutes f_m_tiredAhead f_m_isReached f_m_toEnd f_m_upTo f_m_upNext f_m_byChanges f_m_bandPaces H.size l_15 k i (by omega) hr_m_loadWeight hr_m_food (by omega) (by omega)) (gi_V lwd_1008 lwd_1009 lwd_1010 lwd_5 lwd_1011) ⟨rfl, hd_X10_carriedBy⟩ ⟨Nat.le_of_ble_eq_true rfl, Nat.le_of_ble_eq_true rfl⟩ rfl (Nat.le_of_ble_eq_true rfl) dX10_bandPace_23) (fun r_26 u_25 H locs hw hP hD hS => ?_)
        try dsimp only at hw hP hD
        have p_27 := hw
        clear hw
        refine lv_aload_n hx hb dX10_bandPace_26 rfl (lv_at hl 2 rfl) ?_
        refine gt_MD_MD_tired hx hb hts hown hK hP lwd_191 dX10_bandPace_27 ?_
        refine lv_iload hx hb dX10_bandPace_30 (lv_at hl 0 rfl) ?_
        refine al_m_tired hx hb hK hP hr_m_tired (i_in (rfl : l_15.toInt = l_15.toInt) (by omega) (by omega)) dX10_bandPace_32 (fun n_28 en_28 bn_28 => ?_)
        refine lv_iload_n hx hb dX10_bandPace_33 rfl (lv_at hl 4 rfl) ?_
        refine lv_iconst (v := 0) hx hb dX10_bandPace_34 (by decide) ?_
        have k_29 : (0 : Int32).toInt = 0 := by decide
        refine xi hD hS hA (xV (As := [.int l_15, .int r_26, .int n_28, .int i, .int 0]) (rest := []) hx hb hml hown hts hK hP hD hS hA NT_ok hN hAe hl.1 ⟨Nat.le_refl _, Nat.le_refl _⟩ 0 rfl rfl rfl (c_X10_paceOf l D cy hm v_taped v_walkers v_loads v_pieces v_changeCosts v_planned v_isMarch v_clauseMany v_place v_end v_bad v_clauses v_codes v_open v_stacked v_isOver v_isBehind w_22 w_18 w_21 w_16 w_19 w_17 w_20 v_packing v_packed v_goPace v_goMinutes v_spentAt v_ranChanges f_m_tape f_m_knee f_m_weight f_m_isLame f_m_loadWeight f_m_owner f_m_food f_m_miles f_m_slope f_m_clauseLetter f_m_sumFrom f_m_codeFrom f_m_codeTo f_m_code f_m_codeArg f_m_newLetter f_m_newSum f_m_newFrom f_m_newTo f_m_newCode f_m_newArg f_m_stack f_13 f_12 f_m_least f_m_packPounds f_m_packOwner f_m_room f_m_givenTo f_m_canBe f_m_setPounds f_m_plainTime f_m_muleTime f_m_planTo f_m_march f_m_tired f_m_ranMinutes f_m_tiredAhead f_m_isReached f_m_toEnd f_m_upTo f_m_upNext f_m_byChanges f_m_bandPaces H.size l_15 r_26 n_28 i 0 (by omega) (by omega) (by omega) hr_m_weight hr_m_isLame hr_m_miles hL6_23_0 (by omega) (by omega) (by omega) hwf) (gi_V lwd_553 lwd_554 lwd_555 lwd_5 lwd_556) ⟨rfl, hd_X10_paceOf⟩ ⟨Nat.le_of_ble_eq_true rfl, Nat.le_of_ble_eq_true rfl⟩ rfl (Nat.le_of_ble_eq_true rfl) dX10_bandPace_35) (fun r_31 u_30 H locs hw hP hD hS => ?_)
        obtain ⟨zatW_32, zatL_33, zatT_34, zatH_35, zatM_36, zatI_37, zatQ_38, zworth_39, zisRefused_40⟩ := u_30
        try dsimp only at hw hP hD
        obtain ⟨p_41, p_42, p_43, p_44⟩ := hw
        refine lv_istore (lv' := [(5, .int r_31), (4, .int l_15), (3, .int l_14), (0, .ref (hm 0)), (1, .int k), (2, .int i)]) hx hb dX10_bandPace_38 hl (by decide) rfl (fun ls hl => ?_)
        refine lv_iload hx hb dX10_bandPace_40 (lv_at hl 0 rfl) ?_
        refine lv_iload_n hx hb dX10_bandPace_42 rfl (lv_at hl 2 rfl) ?_
        refine lv_icmp_ge (tgt := 51) hx hb dX10_bandPace_43 (by decide) (fun c_45 => ?_) (fun c_45 => ?_)
        · have gc_45 : l_14.toInt ≤ r_31.toInt := i_le (rfl : l_14.toInt = l_14.toInt) (rfl : r_31.toInt = r_31.toInt) c_45
          refine lv_iload_n hx hb dX10_bandPace_51 rfl (lv_at hl 2 rfl) ?_
          refine lv_istore_n (lv' := [(3, .int l_14), (5, .int r_31), (4, .int l_15), (0, .ref (hm 0)), (1, .int k), (2, .int i)]) hx hb dX10_bandPace_52 rfl hl (by decide) rfl (fun ls hl => ?_)
          obtain ⟨n_46, en_46⟩ : ∃ y : Int32, y = l_15 + 1 := ⟨_, rfl⟩
          have tn_46 : n_46.toInt = l_15.toInt + 1 := i_add en_46 (rfl : l_15.toInt = l_15.toInt) (by decide : (1 : Int32).toInt = 1) (by omega) (by omega)
          refine lv_iinc (v := n_46) (lv' := [(4, .int n_46), (3, .int l_14), (5, .int r_31), (0, .ref (hm 0)), (1, .int k), (2, .int i)]) hx hb dX10_bandPace_53 hl (k := 2) rfl (by rw [en_46]; rfl) (by decide) rfl (fun ls hl => ?_)
          refine lv_goto (tgt := 6) hx hb dX10_bandPace_56 (by decide) ?_
          exact ih6_23 zisRefused_40 zworth_39 l_14 n_46 zatH_35 zatI_37 zatL_33 zatM_36 zatQ_38 zatT_34 zatW_32 p_44 (by omega) (by omega) (by omega) (by
            have e9 : n_46.toNatClampNeg = l_15.toNatClampNeg + 1 := by rw [i_ix tn_46, i_ix (rfl : l_15.toInt = l_15.toInt)]; omega
            rw [e9, bnF, nI_back (by omega), n6_at (by rw [i_ix (rfl : l_15.toInt = l_15.toInt)]; omega), ← en_28, ← p_27, ← p_42, ← hL6_23_4]
            first | exact (if_pos (by omega)).symm | exact Eq.trans (by first | rfl | omega) (if_neg (by omega)).symm) (by omega) (by omega) _ _ _ hP hD hS (lv_sub hl [0, 1, 3, 4, 5] rfl)
        · have gc_45 : r_31.toInt < l_14.toInt := i_nle (rfl : l_14.toInt = l_14.toInt) (rfl : r_31.toInt = r_31.toInt) c_45
          refine lv_iload hx hb dX10_bandPace_46 (lv_at hl 0 rfl) ?_
          refine lv_goto (tgt := 52) hx hb dX10_bandPace_48 (by decide) ?_
          refine lv_istore_n (lv' := [(3, .int r_31), (5, .int r_31), (4, .int l_15), (0, .ref (hm 0)), (1, .int k), (2, .int i)]) hx hb dX10_bandPace_52 rfl hl (by decide) rfl (fun ls hl => ?_)
          obtain ⟨n_47, en_47⟩ : ∃ y : Int32, y = l_15 + 1 := ⟨_, rfl⟩
          have tn_47 : n_47.toInt = l_15.toInt + 1 := i_add en_47 (rfl : l_15.toInt = l_15.toInt) (by decide : (1 : Int32).toInt = 1) (by omega) (by omega)
          refine lv_iinc (v := n_47) (lv' := [(4, .int n_47), (3, .int r_31), (5, .int r_31), (0, .ref (hm 0)), (1, .int k), (2, .int i)]) hx hb dX10_bandPace_53 hl (k := 2) rfl (by rw [en_47]; rfl) (by decide) rfl (fun ls hl => ?_)
          refine lv_goto (tgt := 6) hx hb dX10_bandPace_56 (by decide) ?_
          exact ih6_23 zisRefused_40 zworth_39 r_31 n_47 zatH_35 zatI_37 zatL_33 zatM_36 zatQ_38 zatT_34 zatW_32 p_44 (by omega) (by omega) (by omega) (by
            have e9 : n_47.toNatClampNeg = l_15.toNatClampNeg + 1 := by rw [i_ix tn_47, i_ix (rfl : l_15.toInt = l_15.toInt)]; omega
            rw [e9, bnF, nI_back (by omega), n6_at (by rw [i_ix (rfl : l_15.toInt = l_15.toInt)]; omega), ← en_28, ← p_27, ← p_42, ← hL6_23_4]
            first | exact (if_pos (by omega)).symm | exact Eq.trans (by first | rfl | omega) (if_neg (by omega)).symm) (by omega) (by omega) _ _ _ hP hD hS (lv_sub hl [0, 1, 3, 4, 5] rfl)
  have k_48 : (60 : Int32).toInt = 60 := by decide
  have k_49 : (0 : Int32).toInt = 0 := by decide
  exact L6_23 8589934592 f_m_isRefused f_m_worth 60 0 v_atH v_atI v_atL v_atM v_atQ v_atT v_atW hr_m_isRefused (by omega) (by omega) (by omega) (by rw [show (0 : Int32).toNatClampNeg = 0 from by decide]; rfl) (by omega) (by omega) _ _ _ hP hD hS (lv_sub hl [0, 1, 2, 3, 4] rfl)
set_option maxHeartbeats 16000000 in
set_option maxRecDepth 100000 in
theorem c_X10_goesOver (l : Launch) (D : va_G) (cy : Nat → ClassId) (hm : Nat → Nat) (v_taped v_walkers v_loads v_pieces v_changeCosts v_planned v_isMarch v_clauseMany v_place v_end v_bad v_clauses v_codes v_open v_stacked v_isOver v_isBehind v_atW v_atL v_atT v_atH v_atM v_atI v_atQ v_packing v_packed v_goPace v_goMinutes v_spentAt v_ranChanges : Int32) (f_m_tape f_m_knee f_m_weight f_m_isLame f_m_loadWeight f_m_owner f_m_food f_m_miles f_m_slope f_m_clauseLetter f_m_sumFrom f_m_codeFrom f_m_codeTo f_m_code f_m_codeArg f_m_newLetter f_m_newSum f_m_newFrom f_m_newTo f_m_newCode f_m_newArg f_m_stack f_m_worth f_m_isRefused f_m_least f_m_packPounds f_m_packOwner f_m_room f_m_givenTo f_m_canBe f_m_setPounds f_m_plainTime f_m_muleTime f_m_planTo f_m_march f_m_tired f_m_ranMinutes f_m_tiredAhead f_m_isReached f_m_toEnd f_m_upTo f_m_upNext f_m_byChanges f_m_bandPaces : Nat → Int32) (sz : Nat) (i : Int32) (act : Int32) (hb_v_walkers : 0 ≤ v_walkers.toInt ∧ v_walkers.toInt ≤ 6) (hb_v_loads : 0 ≤ v_loads.toInt ∧ v_loads.toInt ≤ 9) (hb_v_clauseMany : 0 ≤ v_clauseMany.toInt ∧ v_clauseMany.toInt ≤ 14) (hb_v_atW : 0 ≤ v_atW.toInt ∧ v_atW.toInt ≤ 5) (hb_v_goPace : 0 ≤ v_goPace.toInt ∧ v_goPace.toInt ≤ 60) (hr_m_weight : rg (0) 250 f_m_weight) (hr_m_isLame : rg (0) 1 f_m_isLame) (hr_m_loadWeight : rg (0) 120 f_m_loadWeight) (hr_m_food : rg (0) 20 f_m_food) (hr_m_miles : rg (0) 20 f_m_miles) (hr_m_isRefused : rg (0) 1 f_m_isRefused) (hr_m_tired : rg (0) 5 f_m_tired) (ha_i : 0 ≤ i.toInt ∧ i.toInt ≤ 9) (ha_act : 0 ≤ act.toInt ∧ act.toInt ≤ 17) (hwf : wfC v_clauseMany f_m_sumFrom f_m_codeFrom f_m_codeTo f_m_code) : gMi l yX10_goesOver cX10_goesOver 5 .boolean 7 [.ref (hm 0), .int i, .int act] D cy (wMD cy hm v_taped v_walkers v_loads v_pieces v_changeCosts v_planned v_isMarch v_clauseMany v_place v_end v_bad v_clauses v_codes v_open v_stacked v_isOver v_isBehind v_atW v_atL v_atT v_atH v_atM v_atI v_atQ v_packing v_packed v_goPace v_goMinutes v_spentAt v_ranChanges f_m_tape f_m_knee f_m_weight f_m_isLame f_m_loadWeight f_m_owner f_m_food f_m_miles f_m_slope f_m_clauseLetter f_m_sumFrom f_m_codeFrom f_m_codeTo f_m_code f_m_codeArg f_m_newLetter f_m_newSum f_m_newFrom f_m_newTo f_m_newCode f_m_newArg f_m_stack f_m_worth f_m_isRefused f_m_least f_m_packPounds f_m_packOwner f_m_room f_m_givenTo f_m_canBe f_m_setPounds f_m_plainTime f_m_muleTime f_m_planTo f_m_march f_m_tired f_m_ranMinutes f_m_tiredAhead f_m_isReached f_m_toEnd f_m_upTo f_m_upNext f_m_byChanges f_m_bandPaces) NT sz (fun (r : Int32) (u : Int32 × Int32 × Int32 × Int32 × Int32 × Int32 × Int32 × Int32 × Int32 × (Nat → Int32) × (Nat → Int32) × (Nat → Int32)) => (0 ≤ r.toInt ∧ r.toInt ≤ 1) ∧ ((r.toInt = 0 ∧ (gP f_m_clauseLetter f_m_sumFrom f_m_codeFrom f_m_codeTo f_m_code f_m_codeArg f_m_knee f_m_weight f_m_isLame f_m_slope f_m_miles f_m_planTo f_m_loadWeight f_m_food v_clauseMany v_walkers v_loads i act (n6 f_m_tired)).toInt = 0) ∨ (r.toInt = 1 ∧ (gP f_m_clauseLetter f_m_sumFrom f_m_codeFrom f_m_codeTo f_m_code f_m_codeArg f_m_knee f_m_weight f_m_isLame f_m_slope f_m_miles f_m_planTo f_m_loadWeight f_m_food v_clauseMany v_walkers v_loads i act (n6 f_m_tired)).toInt ≠ 0 ∧ (u.2.2.2.2.2.2.2.2.1) = gMn f_m_clauseLetter f_m_sumFrom f_m_codeFrom f_m_codeTo f_m_code f_m_codeArg f_m_knee f_m_weight f_m_isLame f_m_slope f_m_miles f_m_planTo f_m_loadWeight f_m_food v_clauseMany v_walkers v_loads i act (n6 f_m_tired) ∧ n6 (u.2.2.2.2.2.2.2.2.2.2.2) = gT2 f_m_clauseLetter f_m_sumFrom f_m_codeFrom f_m_codeTo f_m_code f_m_codeArg f_m_knee f_m_weight f_m_isLame f_m_slope f_m_miles f_m_planTo f_m_loadWeight f_m_food v_clauseMany v_walkers v_loads i act (n6 f_m_tired))) ∧ (0 ≤ (u.1).toInt ∧ (u.1).toInt ≤ 5) ∧ (0 ≤ (u.2.2.2.2.2.2.2.1).toInt ∧ (u.2.2.2.2.2.2.2.1).toInt ≤ 60) ∧ (rg (0) 1 (u.2.2.2.2.2.2.2.2.2.2.1)) ∧ (rg (0) 5 (u.2.2.2.2.2.2.2.2.2.2.2))) (fun u => wMD cy hm v_taped v_walkers v_loads v_pieces v_changeCosts v_planned v_isMarch v_clauseMany v_place v_end v_bad v_clauses v_codes v_open v_stacked v_isOver v_isBehind (u.1) (u.2.1) (u.2.2.1) (u.2.2.2.1) (u.2.2.2.2.1) (u.2.2.2.2.2.1) (u.2.2.2.2.2.2.1) v_packing v_packed (u.2.2.2.2.2.2.2.1) (u.2.2.2.2.2.2.2.2.1) v_spentAt v_ranChanges f_m_tape f_m_knee f_m_weight f_m_isLame f_m_loadWeight f_m_owner f_m_food f_m_miles f_m_slope f_m_clauseLetter f_m_sumFrom f_m_codeFrom f_m_codeTo f_m_code f_m_codeArg f_m_newLetter f_m_newSum f_m_newFrom f_m_newTo f_m_newCode f_m_newArg f_m_stack (u.2.2.2.2.2.2.2.2.2.1) (u.2.2.2.2.2.2.2.2.2.2.1) f_m_least f_m_packPounds f_m_packOwner f_m_room f_m_givenTo f_m_canBe f_m_setPounds f_m_plainTime f_m_muleTime f_m_planTo f_m_march (u.2.2.2.2.2.2.2.2.2.2.2) f_m_ranMinutes f_m_tiredAhead f_m_isReached f_m_toEnd f_m_upTo f_m_upNext f_m_byChanges f_m_bandPaces) := by
  refine gMi_in (by decide) (Nat.le_of_ble_eq_true rfl) ?_
  intro p e s m args below meth c A ls Q hx hb hml hts hown hsz hP hK hD hN hAe hA hS hl hret
  subst hsz
  have hl : lv_has ls 5 [(0, .ref (hm 0)), (1, .int i), (2, .int act)] := hl
  have hrt := fun (r : Int32) (v_atW' : Int32) (v_atL' : Int32) (v_atT' : Int32) (v_atH' : Int32) (v_atM' : Int32) (v_atI' : Int32) (v_atQ' : Int32) (v_goPace' : Int32) (v_goMinutes' : Int32) (f_m_worth' : Nat → Int32) (f_m_isRefused' : Nat → Int32) (f_m_tired' : Nat → Int32) (hp : (0 ≤ r.toInt ∧ r.toInt ≤ 1) ∧ ((r.toInt = 0 ∧ (gP f_m_clauseLetter f_m_sumFrom f_m_codeFrom f_m_codeTo f_m_code f_m_codeArg f_m_knee f_m_weight f_m_isLame f_m_slope f_m_miles f_m_planTo f_m_loadWeight f_m_food v_clauseMany v_walkers v_loads i act (n6 f_m_tired)).toInt = 0) ∨ (r.toInt = 1 ∧ (gP f_m_clauseLetter f_m_sumFrom f_m_codeFrom f_m_codeTo f_m_code f_m_codeArg f_m_knee f_m_weight f_m_isLame f_m_slope f_m_miles f_m_planTo f_m_loadWeight f_m_food v_clauseMany v_walkers v_loads i act (n6 f_m_tired)).toInt ≠ 0 ∧ v_goMinutes' = gMn f_m_clauseLetter f_m_sumFrom f_m_codeFrom f_m_codeTo f_m_code f_m_codeArg f_m_knee f_m_weight f_m_isLame f_m_slope f_m_miles f_m_planTo f_m_loadWeight f_m_food v_clauseMany v_walkers v_loads i act (n6 f_m_tired) ∧ n6 f_m_tired' = gT2 f_m_clauseLetter f_m_sumFrom f_m_codeFrom f_m_codeTo f_m_code f_m_codeArg f_m_knee f_m_weight f_m_isLame f_m_slope f_m_miles f_m_planTo f_m_loadWeight f_m_food v_clauseMany v_walkers v_loads i act (n6 f_m_tired))) ∧ (0 ≤ v_atW'.toInt ∧ v_atW'.toInt ≤ 5) ∧ (0 ≤ v_goPace'.toInt ∧ v_goPace'.toInt ≤ 60) ∧ (rg (0) 1 f_m_isRefused') ∧ (rg (0) 5 f_m_tired')) {H : Heap} {locs : List Loc} {pc : Nat} {ls : Array Slot} => hret r (v_atW', v_atL', v_atT', v_atH', v_atM', v_atI', v_atQ', v_goPace', v_goMinutes', f_m_worth', f_m_isRefused', f_m_tired') (H := H) (locs := locs) (pc := pc) (ls := ls) hp
  clear hret
  refine lv_iload_n hx hb dX10_goesOver_0 rfl (lv_at hl 2 rfl) ?_
  refine lv_bipush (v := 6) hx hb dX10_goesOver_1 (by decide) ?_
  refine lv_irem hx hb dX10_goesOver_3 (by decide) ?_
  refine lv_topi (fun n_1 en_1 => ?_)
  have tn_1 : n_1.toInt = act.toInt % 6 := i_rem en_1 (rfl : act.toInt = act.toInt) (by decide : (6 : Int32).toInt = 6) (by omega) (by omega)
  refine lv_istore_n (lv' := [(3, .int n_1), (0, .ref (hm 0)), (1, .int i), (2, .int act)]) hx hb dX10_goesOver_4 rfl hl (by decide) rfl (fun ls hl => ?_)
  refine lv_aload_n hx hb dX10_goesOver_5 rfl (lv_at hl 1 rfl) ?_
  refine lv_iload_n hx hb dX10_goesOver_6 rfl (lv_at hl 3 rfl) ?_
  refine lv_bipush (v := 6) hx hb dX10_goesOver_7 (by decide) ?_
  refine lv_idiv hx hb dX10_goesOver_9 (by decide) ?_
  refine lv_topi (fun n_2 en_2 => ?_)
  have tn_2 : n_2.toInt = act.toInt / 6 := i_div en_2 (rfl : act.toInt = act.toInt) (by decide : (6 : Int32).toInt = 6) (by omega) (by omega)
  skip
  refine lv_iload_n hx hb dX10_goesOver_10 rfl (lv_at hl 2 rfl) ?_
  refine xv hD hS hA (xV (As := [.int n_2, .int i]) (rest := []) hx hb hml hown hts hK hP hD hS hA NT_ok hN hAe hl.1 ⟨Nat.le_refl _, Nat.le_refl _⟩ 0 rfl rfl rfl (c_X10_rests l D cy hm v_taped v_walkers v_loads v_pieces v_changeCosts v_planned v_isMarch v_clauseMany v_place v_end v_bad v_clauses v_codes v_open v_stacked v_isOver v_isBehind v_atW v_atL v_atT v_atH v_atM v_atI v_atQ v_packing v_packed v_goPace v_goMinutes v_spentAt v_ranChanges f_m_tape f_m_knee f_m_weight f_m_isLame f_m_loadWeight f_m_owner f_m_food f_m_miles f_m_slope f_m_clauseLetter f_m_sumFrom f_m_codeFrom f_m_codeTo f_m_code f_m_codeArg f_m_newLetter f_m_newSum f_m_newFrom f_m_newTo f_m_newCode f_m_newArg f_m_stack f_m_worth f_m_isRefused f_m_least f_m_packPounds f_m_packOwner f_m_room f_m_givenTo f_m_canBe f_m_setPounds f_m_plainTime f_m_muleTime f_m_planTo f_m_march f_m_tired f_m_ranMinutes f_m_tiredAhead f_m_isReached f_m_toEnd f_m_upTo f_m_upNext f_m_byChanges f_m_bandPaces s.heap.size n_2 i (by omega) (by omega) (by omega) hr_m_weight hr_m_isRefused hr_m_tired (by omega) (by omega) hwf) (gi_V lwd_1000 lwd_1001 lwd_1002 lwd_5 lwd_1003) ⟨rfl, hd_X10_rests⟩ ⟨Nat.le_of_ble_eq_true rfl, Nat.le_of_ble_eq_true rfl⟩ rfl (Nat.le_of_ble_eq_true rfl) dX10_goesOver_11) (fun u_3 H locs hw hP hD hS => ?_)
  obtain ⟨zatW_5, zatL_6, zatT_7, zatH_8, zatM_9, zatI_10, zatQ_11, zworth_12, zisRefused_13, ztired_14⟩ := u_3
  try dsimp only at hw hP hD
  obtain ⟨p_15, p_16, p_17, p_18⟩ := hw
  have hT9 : n6 ztired_14 = gT1 f_m_clauseLetter f_m_sumFrom f_m_codeFrom f_m_codeTo f_m_code f_m_codeArg f_m_knee f_m_weight f_m_isLame f_m_slope f_m_miles f_m_planTo f_m_loadWeight f_m_food v_clauseMany v_walkers v_loads i act (n6 f_m_tired) := by
    have h := p_15
    rw [en_2] at h
    exact h
  skip
  refine lv_aload_n hx hb dX10_goesOver_14 rfl (lv_at hl 1 rfl) ?_
  refine lv_aload_n hx hb dX10_goesOver_15 rfl (lv_at hl 1 rfl) ?_
  refine lv_iload_n hx hb dX10_goesOver_16 rfl (lv_at hl 0 rfl) ?_
  refine lv_iload_n hx hb dX10_goesOver_17 rfl (lv_at hl 2 rfl) ?_
  refine xi hD hS hA (xV (As := [.int n_1, .int i]) (rest := [.ref (hm 0)]) hx hb hml hown hts hK hP hD hS hA NT_ok hN hAe hl.1 ⟨Nat.le_refl _, Nat.le_refl _⟩ 0 rfl rfl rfl (c_X10_bandPace l D cy hm v_taped v_walkers v_loads v_pieces v_changeCosts v_planned v_isMarch v_clauseMany v_place v_end v_bad v_clauses v_codes v_open v_stacked v_isOver v_isBehind zatW_5 zatL_6 zatT_7 zatH_8 zatM_9 zatI_10 zatQ_11 v_packing v_packed v_goPace v_goMinutes v_spentAt v_ranChanges f_m_tape f_m_knee f_m_weight f_m_isLame f_m_loadWeight f_m_owner f_m_food f_m_miles f_m_slope f_m_clauseLetter f_m_sumFrom f_m_codeFrom f_m_codeTo f_m_code f_m_codeArg f_m_newLetter f_m_newSum f_m_newFrom f_m_newTo f_m_newCode f_m_newArg f_m_stack zworth_12 zisRefused_13 f_m_least f_m_packPounds f_m_packOwner f_m_room f_m_givenTo f_m_canBe f_m_setPounds f_m_plainTime f_m_muleTime f_m_planTo f_m_march ztired_14 f_m_ranMinutes f_m_tiredAhead f_m_isReached f_m_toEnd f_m_upTo f_m_upNext f_m_byChanges f_m_bandPaces H.size n_1 i (by omega) (by omega) (by omega) (by omega) hr_m_weight hr_m_isLame hr_m_loadWeight hr_m_food hr_m_miles p_17 p_18 (by omega) (by omega) hwf) (gi_V lwd_1004 lwd_1005 lwd_1006 lwd_5 lwd_1007) ⟨rfl, hd_X10_bandPace⟩ ⟨Nat.le_of_ble_eq_true rfl, Nat.le_of_ble_eq_true rfl⟩ rfl (Nat.le_of_ble_eq_true rfl) dX10_goesOver_18) (fun r_20 u_19 H locs hw hP hD hS => ?_)
  obtain ⟨zatW_21, zatL_22, zatT_23, zatH_24, zatM_25, zatI_26, zatQ_27, zworth_28, zisRefused_29⟩ := u_19
  try dsimp only at hw hP hD
  obtain ⟨p_30, p_31, p_32, p_33⟩ := hw
  refine pt_MD_MD_goPace (x := r_20) hx hb hts hown hK hP hD hS lwd_999 dX10_goesOver_21 (fun H locs hP hD hS => ?_)
  have hP9 : r_20 = gP f_m_clauseLetter f_m_sumFrom f_m_codeFrom f_m_codeTo f_m_code f_m_codeArg f_m_knee f_m_weight f_m_isLame f_m_slope f_m_miles f_m_planTo f_m_loadWeight f_m_food v_clauseMany v_walkers v_loads i act (n6 f_m_tired) := by
    have h := p_31
    rw [en_1, hT9] at h
    exact h
  skip
  refine lv_aload_n hx hb dX10_goesOver_24 rfl (lv_at hl 1 rfl) ?_
  refine gt_MD_MD_goPace hx hb hts hown hK hP lwd_999 dX10_goesOver_25 ?_
  refine lv_if_ne (tgt := 33) hx hb dX10_goesOver_28 (by decide) (fun c_34 => ?_) (fun c_34 => ?_)
  · have gc_34 : r_20.toInt ≠ 0 := i_ne (rfl : r_20.toInt = r_20.toInt) (by decide : (0 : Int32).toInt = 0) c_34
    refine lv_aload_n hx hb dX10_goesOver_33 rfl (lv_at hl 1 rfl) ?_
    refine lv_bipush (v := 30) hx hb dX10_goesOver_34 (by decide) ?_
    refine lv_iload_n hx hb dX10_goesOver_36 rfl (lv_at hl 3 rfl) ?_
    refine lv_bipush (v := 6) hx hb dX10_goesOver_37 (by decide) ?_
    refine lv_idiv hx hb dX10_goesOver_39 (by decide) ?_
    refine lv_topi (fun n_35 en_35 => ?_)
    have tn_35 : n_35.toInt = act.toInt / 6 := i_div en_35 (rfl : act.toInt = act.toInt) (by decide : (6 : Int32).toInt = 6) (by omega) (by omega)
    skip
    refine lv_imul hx hb dX10_goesOver_40 ?_
    refine lv_topi (fun n_36 en_36 => ?_)
    have tn_36 : n_36.toInt = 30 * (act.toInt / 6) := i_mul en_36 (by decide : (30 : Int32).toInt = 30) tn_35 (by omega) (by omega)
    skip
    refine lv_aload_n hx hb dX10_goesOver_41 rfl (lv_at hl 1 rfl) ?_
    refine lv_iload_n hx hb dX10_goesOver_42 rfl (lv_at hl 2 rfl) ?_
    refine lv_aload_n hx hb dX10_goesOver_43 rfl (lv_at hl 1 rfl) ?_
    refine gt_MD_MD_goPace hx hb hts hown hK hP lwd_999 dX10_goesOver_44 ?_
    refine xi hD hS hA (xV (As := [.int i, .int r_20]) (rest := [.int n_36, .ref (hm 0)]) hx hb hml hown hts hK hP hD hS hA NT_ok hN hAe hl.1 ⟨Nat.le_refl _, Nat.le_refl _⟩ 0 rfl rfl rfl (c_X10_minutesOf l D cy hm v_taped v_walkers v_loads v_pieces v_changeCosts v_planned v_isMarch v_clauseMany v_place v_end v_bad v_clauses v_codes v_open v_stacked v_isOver v_isBehind zatW_21 zatL_22 zatT_23 zatH_24 zatM_25 zatI_26 zatQ_27 v_packing v_packed r_20 v_goMinutes v_spentAt v_ranChanges f_m_tape f_m_knee f_m_weight f_m_isLame f_m_loadWeight f_m_owner f_m_food f_m_miles f_m_slope f_m_clauseLetter f_m_sumFrom f_m_codeFrom f_m_codeTo f_m_code f_m_codeArg f_m_newLetter f_m_newSum f_m_newFrom f_m_newTo f_m_newCode f_m_newArg f_m_stack zworth_28 zisRefused_29 f_m_least f_m_packPounds f_m_packOwner f_m_room f_m_givenTo f_m_canBe f_m_setPounds f_m_plainTime f_m_muleTime f_m_planTo f_m_march ztired_14 f_m_ranMinutes f_m_tiredAhead f_m_isReached f_m_toEnd f_m_upTo f_m_upNext f_m_byChanges f_m_bandPaces H.size i r_20 hr_m_miles (by omega) (by omega)) (gi_V lwd_668 lwd_669 lwd_670 lwd_5 lwd_671) ⟨rfl, hd_X10_minutesOf⟩ ⟨Nat.le_of_ble_eq_true rfl, Nat.le_of_ble_eq_true rfl⟩ rfl (Nat.le_of_ble_eq_true rfl) dX10_goesOver_47) (fun r_38 u_37 H locs hw hP hD hS => ?_)
    try dsimp only at hw hP hD
    have p_39 := hw
    clear hw
    refine lv_iadd hx hb dX10_goesOver_50 ?_
    refine lv_topi (fun n_40 en_40 => ?_)
    skip
    refine pt_MD_MD_goMinutes (x := n_40) hx hb hts hown hK hP hD hS lwd_990 dX10_goesOver_51 (fun H locs hP hD hS => ?_)
    have hM9 : n_40 = gMn f_m_clauseLetter f_m_sumFrom f_m_codeFrom f_m_codeTo f_m_code f_m_codeArg f_m_knee f_m_weight f_m_isLame f_m_slope f_m_miles f_m_planTo f_m_loadWeight f_m_food v_clauseMany v_walkers v_loads i act (n6 f_m_tired) := by
      unfold gMn
      rw [← hP9, en_40, p_39, en_36, en_35]
    skip
    refine lv_iconst (v := 0) hx hb dX10_goesOver_54 (by decide) ?_
    refine lv_istore (lv' := [(4, .int 0), (3, .int n_1), (0, .ref (hm 0)), (1, .int i), (2, .int act)]) hx hb dX10_goesOver_55 hl (by decide) rfl (fun ls hl => ?_)
    have L57_63 : ∀ (n : Nat) (f_52 : Nat → Int32) (f_53 : Nat → Int32) (f_54 : Nat → Int32) (l_55 : Int32) (w_56 : Int32) (w_57 : Int32) (w_58 : Int32) (w_59 : Int32) (w_60 : Int32) (w_61 : Int32) (w_62 : Int32), (rg (0) 1 f_52) → (rg (0) 5 f_53) → (0 ≤ l_55.toInt ∧ l_55.toInt ≤ 6) → (0 ≤ w_62.toInt ∧ w_62.toInt ≤ 5) → (n6 f_53 = rs1 (gGF f_m_clauseLetter f_m_sumFrom f_m_codeFrom f_m_codeTo f_m_code f_m_codeArg f_m_knee f_m_weight f_m_isLame f_m_slope f_m_miles f_m_planTo f_m_loadWeight f_m_food v_clauseMany v_walkers v_loads i act (gP f_m_clauseLetter f_m_sumFrom f_m_codeFrom f_m_codeTo f_m_code f_m_codeArg f_m_knee f_m_weight f_m_isLame f_m_slope f_m_miles f_m_planTo f_m_loadWeight f_m_food v_clauseMany v_walkers v_loads i act (n6 f_m_tired))) (gT1 f_m_clauseLetter f_m_sumFrom f_m_codeFrom f_m_codeTo f_m_code f_m_codeArg f_m_knee f_m_weight f_m_isLame f_m_slope f_m_miles f_m_planTo f_m_loadWeight f_m_food v_clauseMany v_walkers v_loads i act (n6 f_m_tired)) l_55.toNatClampNeg) → (l_55.toInt ≤ v_walkers.toInt) → 7 - l_55.toInt < n → ∀ (H : Heap) (locs : List Loc) (ls : Array Slot), va_P D vwCl (wMD cy hm v_taped v_walkers v_loads v_pieces v_changeCosts v_planned v_isMarch v_clauseMany v_place v_end v_bad v_clauses v_codes v_open v_stacked v_isOver v_isBehind w_62 w_58 w_61 w_56 w_59 w_57 w_60 v_packing v_packed r_20 n_40 v_spentAt v_ranChanges f_m_tape f_m_knee f_m_weight f_m_isLame f_m_loadWeight f_m_owner f_m_food f_m_miles f_m_slope f_m_clauseLetter f_m_sumFrom f_m_codeFrom f_m_codeTo f_m_code f_m_codeArg f_m_newLetter f_m_newSum f_m_newFrom f_m_newTo f_m_newCode f_m_newArg f_m_stack f_54 f_52 f_m_least f_m_packPounds f_m_packOwner f_m_room f_m_givenTo f_m_canBe f_m_setPounds f_m_plainTime f_m_muleTime f_m_planTo f_m_march f_53 f_m_ranMinutes f_m_tiredAhead f_m_isReached f_m_toEnd f_m_upTo f_m_upNext f_m_byChanges f_m_bandPaces) H → va_D A (wMD cy hm v_taped v_walkers v_loads v_pieces v_changeCosts v_planned v_isMarch v_clauseMany v_place v_end v_bad v_clauses v_codes v_open v_stacked v_isOver v_isBehind w_62 w_58 w_61 w_56 w_59 w_57 w_60 v_packing v_packed r_20 n_40 v_spentAt v_ranChanges f_m_tape f_m_knee f_m_weight f_m_isLame f_m_loadWeight f_m_owner f_m_food f_m_miles f_m_slope f_m_clauseLetter f_m_sumFrom f_m_codeFrom f_m_codeTo f_m_code f_m_codeArg f_m_newLetter f_m_newSum f_m_newFrom f_m_newTo f_m_newCode f_m_newArg f_m_stack f_54 f_52 f_m_least f_m_packPounds f_m_packOwner f_m_room f_m_givenTo f_m_canBe f_m_setPounds f_m_plainTime f_m_muleTime f_m_planTo f_m_march f_53 f_m_ranMinutes f_m_tiredAhead f_m_isReached f_m_toEnd f_m_upTo f_m_upNext f_m_byChanges f_m_bandPaces) → va_S A s.heap H locs → lv_has ls 5 [(4, .int l_55), (3, .int n_1), (0, .ref (hm 0)), (1, .int i), (2, .int act)] → W p l e (gRm 7) s m args below meth c H locs 0 0 Q (F0 m 57 ls []) := by
      intro n
      induction n with
      | zero => intro f_52 f_53 f_54 l_55 w_56 w_57 w_58 w_59 w_60 w_61 w_62 hL57_63_0 hL57_63_1 hL57_63_2 hL57_63_3 hL57_63_4 hL57_63_5 hm; exact absurd hm (by omega)
      | succ n ih57_63 =>
        intro f_52 f_53 f_54 l_55 w_56 w_57 w_58 w_59 w_60 w_61 w_62 hL57_63_0 hL57_63_1 hL57_63_2 hL57_63_3 hL57_63_4 hL57_63_5 hmL57_63 H locs ls hP hD hS hl
        refine lv_iload hx hb dX10_goesOver_57 (lv_at hl 0 rfl) ?_
        refine lv_aload_n hx hb dX10_goesOver_59 rfl (lv_at hl 2 rfl) ?_
        refine gt_MD_MD_walkers hx hb hts hown hK hP lwd_221 dX10_goesOver_60 ?_
        refine lv_icmp_ge (tgt := 168) hx hb dX10_goesOver_63 (by decide) (fun c_64 => ?_) (fun c_64 => ?_)
        · have gc_64 : v_walkers.toInt ≤ l_55.toInt := i_le (rfl : v_walkers.toInt = v_walkers.toInt) (rfl : l_55.toInt = l_55.toInt) c_64
          refine lv_iconst (v := 1) hx hb dX10_goesOver_168 (by decide) ?_
          have k_65 : (1 : Int32).toInt = 1 := by decide
          exact hrt 1 w_62 w_58 w_61 w_56 w_59 w_57 w_60 r_20 n_40 f_54 f_52 f_53 ⟨(by omega), (Or.inr ⟨by omega, by rw [← hP9]; omega, hM9, by
            have h9 := hL57_63_4
            rw [show l_55.toNatClampNeg = v_walkers.toNatClampNeg from by rw [i_ix (rfl : l_55.toInt = l_55.toInt), i_ix (rfl : v_walkers.toInt = v_walkers.toInt)]; omega] at h9
            exact h9⟩), (by omega), (by omega), hL57_63_0, hL57_63_1⟩ hP hD hS rfl dX10_goesOver_169
        · have gc_64 : l_55.toInt < v_walkers.toInt := i_nle (rfl : v_walkers.toInt = v_walkers.toInt) (rfl : l_55.toInt = l_55.toInt) c_64
          skip
          refine lv_aload_n hx hb dX10_goesOver_66 rfl (lv_at hl 2 rfl) ?_
          refine lv_iload hx hb dX10_goesOver_67 (lv_at hl 0 rfl) ?_
          refine pt_MD_MD_atW (x := l_55) hx hb hts hown hK hP hD hS lwd_557 dX10_goesOver_69 (fun H locs hP hD hS => ?_)
          refine lv_aload_n hx hb dX10_goesOver_72 rfl (lv_at hl 2 rfl) ?_
          refine lv_aload_n hx hb dX10_goesOver_73 rfl (lv_at hl 2 rfl) ?_
          refine lv_iload hx hb dX10_goesOver_74 (lv_at hl 0 rfl) ?_
          refine lv_iload_n hx hb dX10_goesOver_76 rfl (lv_at hl 1 rfl) ?_
          refine lv_iload_n hx hb dX10_goesOver_77 rfl (lv_at hl 3 rfl) ?_
          refine xi hD hS hA (xV (As := [.int l_55, .int n_1, .int i]) (rest := [.ref (hm 0)]) hx hb hml hown hts hK hP hD hS hA NT_ok hN hAe hl.1 ⟨Nat.le_refl _, Nat.le_refl _⟩ 0 rfl rfl rfl (c_X10_carriedBy l D cy hm v_taped v_walkers v_loads v_pieces v_changeCosts v_planned v_isMarch v_clauseMany v_place v_end v_bad v_clauses v_codes v_open v_stacked v_isOver v_isBehind l_55 w_58 w_61 w_56 w_59 w_57 w_60 v_packing v_packed r_20 n_40 v_spentAt v_ranChanges f_m_tape f_m_knee f_m_weight f_m_isLame f_m_loadWeight f_m_owner f_m_food f_m_miles f_m_slope f_m_clauseLetter f_m_sumFrom f_m_codeFrom f_m_codeTo f_m_code f_m_codeArg f_m_newLetter f_m_newSum f_m_newFrom f_m_newTo f_m_newCode f_m_newArg f_m_stack f_54 f_52 f_m_least f_m_packPounds f_m_packOwner f_m_room f_m_givenTo f_m_canBe f_m_setPounds f_m_plainTime f_m_muleTime f_m_planTo f_m_march f_53 f_m_ranMinutes f_m_tiredAhead f_m_isReached f_m_toEnd f_m_upTo f_m_upNext f_m_byChanges f_m_bandPaces H.size l_55 n_1 i (by omega) hr_m_loadWeight hr_m_food (by omega) (by omega)) (gi_V lwd_1008 lwd_1009 lwd_1010 lwd_5 lwd_1011) ⟨rfl, hd_X10_carriedBy⟩ ⟨Nat.le_of_ble_eq_true rfl, Nat.le_of_ble_eq_true rfl⟩ rfl (Nat.le_of_ble_eq_true rfl) dX10_goesOver_78) (fun r_67 u_66 H locs hw hP hD hS => ?_)
          try dsimp only at hw hP hD
          have p_68 := hw
          clear hw
          refine pt_MD_MD_atL (x := r_67) hx hb hts hown hK hP hD hS lwd_558 dX10_goesOver_81 (fun H locs hP hD hS => ?_)
          refine lv_aload_n hx hb dX10_goesOver_84 rfl (lv_at hl 2 rfl) ?_
          refine lv_aload_n hx hb dX10_goesOver_85 rfl (lv_at hl 2 rfl) ?_
          refine gt_MD_MD_tired hx hb hts hown hK hP lwd_191 dX10_goesOver_86 ?_
          refine lv_iload hx hb dX10_goesOver_89 (lv_at hl 0 rfl) ?_
          refine al_m_tired hx hb hK hP hL57_63_1 (i_in (rfl : l_55.toInt = l_55.toInt) (by omega) (by omega)) dX10_goesOver_91 (fun n_69 en_69 bn_69 => ?_)
          refine pt_MD_MD_atT (x := n_69) hx hb hts hown hK hP hD hS lwd_559 dX10_goesOver_92 (fun H locs hP hD hS => ?_)
          refine lv_aload_n hx hb dX10_goesOver_95 rfl (lv_at hl 2 rfl) ?_
          refine lv_aload_n hx hb dX10_goesOver_96 rfl (lv_at hl 2 rfl) ?_
          refine gt_MD_MD_slope hx hb hts hown hK hP lwd_164 dX10_goesOver_97 ?_
          refine lv_iload_n hx hb dX10_goesOver_100 rfl (lv_at hl 3 rfl) ?_
          refine al_m_slope hx hb hK hP (i_in (rfl : i.toInt = i.toInt) (by omega) (by omega)) dX10_goesOver_101 (fun n_70 en_70 => ?_)
          refine pt_MD_MD_atH (x := n_70) hx hb hts hown hK hP hD hS lwd_560 dX10_goesOver_102 (fun H locs hP hD hS => ?_)
          refine lv_aload_n hx hb dX10_goesOver_105 rfl (lv_at hl 2 rfl) ?_
          refine lv_aload_n hx hb dX10_goesOver_106 rfl (lv_at hl 2 rfl) ?_
          refine gt_MD_MD_miles hx hb hts hown hK hP lwd_163 dX10_goesOver_107 ?_
          refine lv_iload_n hx hb dX10_goesOver_110 rfl (lv_at hl 3 rfl) ?_
          refine al_m_miles hx hb hK hP hr_m_miles (i_in (rfl : i.toInt = i.toInt) (by omega) (by omega)) dX10_goesOver_111 (fun n_71 en_71 bn_71 => ?_)
          refine pt_MD_MD_atM (x := n_71) hx hb hts hown hK hP hD hS lwd_561 dX10_goesOver_112 (fun H locs hP hD hS => ?_)
          refine lv_aload_n hx hb dX10_goesOver_115 rfl (lv_at hl 2 rfl) ?_
          refine lv_iload_n hx hb dX10_goesOver_116 rfl (lv_at hl 3 rfl) ?_
          refine pt_MD_MD_atI (x := i) hx hb hts hown hK hP hD hS lwd_562 dX10_goesOver_117 (fun H locs hP hD hS => ?_)
          refine lv_aload_n hx hb dX10_goesOver_120 rfl (lv_at hl 2 rfl) ?_
          refine lv_aload_n hx hb dX10_goesOver_121 rfl (lv_at hl 2 rfl) ?_
          refine lv_iload_n hx hb dX10_goesOver_122 rfl (lv_at hl 3 rfl) ?_
          refine lv_aload_n hx hb dX10_goesOver_123 rfl (lv_at hl 2 rfl) ?_
          refine gt_MD_MD_goPace hx hb hts hown hK hP lwd_999 dX10_goesOver_124 ?_
          refine xi hD hS hA (xV (As := [.int i, .int r_20]) (rest := [.ref (hm 0)]) hx hb hml hown hts hK hP hD hS hA NT_ok hN hAe hl.1 ⟨Nat.le_refl _, Nat.le_refl _⟩ 0 rfl rfl rfl (c_X10_minutesOf l D cy hm v_taped v_walkers v_loads v_pieces v_changeCosts v_planned v_isMarch v_clauseMany v_place v_end v_bad v_clauses v_codes v_open v_stacked v_isOver v_isBehind l_55 r_67 n_69 n_70 n_71 i w_60 v_packing v_packed r_20 n_40 v_spentAt v_ranChanges f_m_tape f_m_knee f_m_weight f_m_isLame f_m_loadWeight f_m_owner f_m_food f_m_miles f_m_slope f_m_clauseLetter f_m_sumFrom f_m_codeFrom f_m_codeTo f_m_code f_m_codeArg f_m_newLetter f_m_newSum f_m_newFrom f_m_newTo f_m_newCode f_m_newArg f_m_stack f_54 f_52 f_m_least f_m_packPounds f_m_packOwner f_m_room f_m_givenTo f_m_canBe f_m_setPounds f_m_plainTime f_m_muleTime f_m_planTo f_m_march f_53 f_m_ranMinutes f_m_tiredAhead f_m_isReached f_m_toEnd f_m_upTo f_m_upNext f_m_byChanges f_m_bandPaces H.size i r_20 hr_m_miles (by omega) (by omega)) (gi_V lwd_668 lwd_669 lwd_670 lwd_5 lwd_671) ⟨rfl, hd_X10_minutesOf⟩ ⟨Nat.le_of_ble_eq_true rfl, Nat.le_of_ble_eq_true rfl⟩ rfl (Nat.le_of_ble_eq_true rfl) dX10_goesOver_127) (fun r_73 u_72 H locs hw hP hD hS => ?_)
          try dsimp only at hw hP hD
          have p_74 := hw
          clear hw
          refine pt_MD_MD_atQ (x := r_73) hx hb hts hown hK hP hD hS lwd_563 dX10_goesOver_130 (fun H locs hP hD hS => ?_)
          refine lv_aload_n hx hb dX10_goesOver_133 rfl (lv_at hl 2 rfl) ?_
          refine gt_MD_MD_tired hx hb hts hown hK hP lwd_191 dX10_goesOver_134 ?_
          refine lv_iload hx hb dX10_goesOver_137 (lv_at hl 0 rfl) ?_
          refine lv_aload_n hx hb dX10_goesOver_139 rfl (lv_at hl 2 rfl) ?_
          refine gt_MD_MD_tired hx hb hts hown hK hP lwd_191 dX10_goesOver_140 ?_
          refine lv_iload hx hb dX10_goesOver_143 (lv_at hl 0 rfl) ?_
          refine al_m_tired hx hb hK hP hL57_63_1 (i_in (rfl : l_55.toInt = l_55.toInt) (by omega) (by omega)) dX10_goesOver_145 (fun n_75 en_75 bn_75 => ?_)
          obtain rfl : n_69 = n_75 := en_69.trans en_75.symm
          refine lv_aload_n hx hb dX10_goesOver_146 rfl (lv_at hl 2 rfl) ?_
          refine lv_bipush (v := 103) hx hb dX10_goesOver_147 (by decide) ?_
          refine lv_bipush (v := (-5)) hx hb dX10_goesOver_149 (by decide) ?_
          refine lv_iconst (v := 5) hx hb dX10_goesOver_151 (by decide) ?_
          have k_76 : (103 : Int32).toInt = 103 := by decide
          have k_77 : ((-5) : Int32).toInt = (-5) := by decide
          have k_78 : (5 : Int32).toInt = 5 := by decide
          refine xi hD hS hA (xV (As := [.int 103, .int (-5), .int 5]) (rest := [.int n_69, .int l_55, .ref (hm 36)]) hx hb hml hown hts hK hP hD hS hA NT_ok hN hAe hl.1 ⟨Nat.le_refl _, Nat.le_refl _⟩ 0 rfl rfl rfl (c_X10_tells l D cy hm v_taped v_walkers v_loads v_pieces v_changeCosts v_planned v_isMarch v_clauseMany v_place v_end v_bad v_clauses v_codes v_open v_stacked v_isOver v_isBehind l_55 r_67 n_69 n_70 n_71 i r_73 v_packing v_packed r_20 n_40 v_spentAt v_ranChanges f_m_tape f_m_knee f_m_weight f_m_isLame f_m_loadWeight f_m_owner f_m_food f_m_miles f_m_slope f_m_clauseLetter f_m_sumFrom f_m_codeFrom f_m_codeTo f_m_code f_m_codeArg f_m_newLetter f_m_newSum f_m_newFrom f_m_newTo f_m_newCode f_m_newArg f_m_stack f_54 f_52 f_m_least f_m_packPounds f_m_packOwner f_m_room f_m_givenTo f_m_canBe f_m_setPounds f_m_plainTime f_m_muleTime f_m_planTo f_m_march f_53 f_m_ranMinutes f_m_tiredAhead f_m_isReached f_m_toEnd f_m_upTo f_m_upNext f_m_byChanges f_m_bandPaces H.size 103 (-5) 5 (by omega) (by omega) (by omega) hr_m_weight hL57_63_0 hwf (by omega)) (gi_V lwd_564 lwd_565 lwd_566 lwd_5 lwd_567) ⟨rfl, hd_X10_tells⟩ ⟨Nat.le_of_ble_eq_true rfl, Nat.le_of_ble_eq_true rfl⟩ rfl (Nat.le_of_ble_eq_true rfl) dX10_goesOver_152) (fun r_80 u_79 H locs hw hP hD hS => ?_)
          obtain ⟨zworth_81, zisRefused_82⟩ := u_79
          try dsimp only at hw hP hD
          obtain ⟨p_83, p_84, p_85⟩ := hw
          refine lv_iadd hx hb dX10_goesOver_155 ?_
          refine lv_topi (fun n_86 en_86 => ?_)
          have tn_86 : n_86.toInt = n_69.toInt + r_80.toInt := i_add en_86 (rfl : n_69.toInt = n_69.toInt) (rfl : r_80.toInt = r_80.toInt) (by omega) (by omega)
          skip
          refine lv_iconst (v := 0) hx hb dX10_goesOver_156 (by decide) ?_
          refine lv_iconst (v := 5) hx hb dX10_goesOver_157 (by decide) ?_
          have k_87 : (0 : Int32).toInt = 0 := by decide
          refine xi hD hS hA (xS (As := [.int n_86, .int 0, .int 5]) (rest := [.int l_55, .ref (hm 36)]) hx hb hml hown hts hK hP hD hS hA NT_ok hN hAe hl.1 ⟨Nat.le_refl _, Nat.le_refl _⟩ (c_X10_held l D cy hm v_taped v_walkers v_loads v_pieces v_changeCosts v_planned v_isMarch v_clauseMany v_place v_end v_bad v_clauses v_codes v_open v_stacked v_isOver v_isBehind l_55 r_67 n_69 n_70 n_71 i r_73 v_packing v_packed r_20 n_40 v_spentAt v_ranChanges f_m_tape f_m_knee f_m_weight f_m_isLame f_m_loadWeight f_m_owner f_m_food f_m_miles f_m_slope f_m_clauseLetter f_m_sumFrom f_m_codeFrom f_m_codeTo f_m_code f_m_codeArg f_m_newLetter f_m_newSum f_m_newFrom f_m_newTo f_m_newCode f_m_newArg f_m_stack zworth_81 zisRefused_82 f_m_least f_m_packPounds f_m_packOwner f_m_room f_m_givenTo f_m_canBe f_m_setPounds f_m_plainTime f_m_muleTime f_m_planTo f_m_march f_53 f_m_ranMinutes f_m_tiredAhead f_m_isReached f_m_toEnd f_m_upTo f_m_upNext f_m_byChanges f_m_bandPaces H.size n_86 0 5 (by omega)) (gi_S lwd_583 lwd_584 lwd_5 lwd_585) hd_X10_held ⟨Nat.le_of_ble_eq_true rfl, Nat.le_of_ble_eq_true rfl⟩ rfl (Nat.le_of_ble_eq_true rfl) dX10_goesOver_158) (fun r_89 u_88 H locs hw hP hD hS => ?_)
          try dsimp only at hw hP hD
          obtain ⟨p_90, p_91⟩ := hw
          refine as_m_tired (x := r_89) hx hb hK hP hD hS hL57_63_1 (i_in (rfl : l_55.toInt = l_55.toInt) (by omega) (by omega)) (by omega) dX10_goesOver_161 (fun f_92 ef_92 rf_92 H locs hP hD hS => ?_)
          obtain ⟨n_93, en_93⟩ : ∃ y : Int32, y = l_55 + 1 := ⟨_, rfl⟩
          have tn_93 : n_93.toInt = l_55.toInt + 1 := i_add en_93 (rfl : l_55.toInt = l_55.toInt) (by decide : (1 : Int32).toInt = 1) (by omega) (by omega)
          refine lv_iinc (v := n_93) (lv' := [(4, .int n_93), (3, .int n_1), (0, .ref (hm 0)), (1, .int i), (2, .int act)]) hx hb dX10_goesOver_162 hl (k := 0) rfl (by rw [en_93]; rfl) (by decide) rfl (fun ls hl => ?_)
          refine lv_goto (tgt := 57) hx hb dX10_goesOver_165 (by decide) ?_
          exact ih57_63 zisRefused_82 f_92 zworth_81 n_93 n_70 i r_67 n_71 r_73 n_69 l_55 p_85 rf_92 (by omega) (by omega) (by
            have e9 : n_93.toNatClampNeg = l_55.toNatClampNeg + 1 := by rw [i_ix tn_93, i_ix (rfl : l_55.toInt = l_55.toInt)]; omega
            have hw9 : l_55.toNatClampNeg < 6 := by rw [i_ix (rfl : l_55.toInt = l_55.toInt)]; omega
            rw [e9, rs1, ef_92, n6_upd hw9, ← hL57_63_4, n6_at hw9]
            unfold gGF
            rw [nI_back (by omega), ← en_69, p_91, en_86, p_84, p_68, p_74, en_70, en_71, en_1, hP9]) (by omega) (by omega) _ _ _ hP hD hS (lv_sub hl [0, 1, 2, 3, 4] rfl)
    have k_94 : (0 : Int32).toInt = 0 := by decide
    exact L57_63 8589934592 zisRefused_29 ztired_14 zworth_28 0 zatH_24 zatI_26 zatL_22 zatM_25 zatQ_27 zatT_23 zatW_21 p_33 p_18 (by omega) (by omega) (by rw [show (0 : Int32).toNatClampNeg = 0 from by decide]; exact hT9) (by omega) (by omega) _ _ _ hP hD hS (lv_sub hl [0, 1, 2, 3, 4] rfl)
  · have gc_34 : r_20.toInt = 0 := i_eq (rfl : r_20.toInt = r_20.toInt) (by decide : (0 : Int32).toInt = 0) c_34
    refine lv_iconst (v := 0) hx hb dX10_goesOver_31 (by decide) ?_
    have k_95 : (0 : Int32).toInt = 0 := by decide
    exact hrt 0 zatW_21 zatL_22 zatT_23 zatH_24 zatM_25 zatI_26 zatQ_27 r_20 v_goMinutes zworth_28 zisRefused_29 ztired_14 ⟨(by omega), (Or.inl ⟨by omega, by rw [← hP9]; omega⟩), (by omega), (by omega), p_33, p_18⟩ hP hD hS rfl dX10_goesOver_32
