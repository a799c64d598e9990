set_option maxHeartbeats 16000000 in
set_option maxRecDepth 100000 in
theorem c_X10_carriedBy (l : Launch) (D : va_G) (cy : Nat → ClassId) (hm : Nat → Nat) (v_taped v_walkers v_loads v_pieces v_changeCosts v_planned v_isMarch v_clauseMany v_place v_end v_bad v_clauses v_codes v_open v_stacked v_isOver v_isBehind v_atW v_atL v_atT v_atH v_atM v_atI v_atQ v_packing v_packed v_goPace v_goMinutes v_spentAt v_ranChanges : Int32) (f_m_tape f_m_knee f_m_weight f_m_isLame f_m_loadWeight f_m_owner f_m_food f_m_miles f_m_slope f_m_clauseLetter f_m_sumFrom f_m_codeFrom f_m_codeTo f_m_code f_m_codeArg f_m_newLetter f_m_newSum f_m_newFrom f_m_newTo f_m_newCode f_m_newArg f_m_stack f_m_worth f_m_isRefused f_m_least f_m_packPounds f_m_packOwner f_m_room f_m_givenTo f_m_canBe f_m_setPounds f_m_plainTime f_m_muleTime f_m_planTo f_m_march f_m_tired f_m_ranMinutes f_m_tiredAhead f_m_isReached f_m_toEnd f_m_upTo f_m_upNext f_m_byChanges f_m_bandPaces : Nat → Int32) (sz : Nat) (w : Int32) (k : Int32) (i : Int32) (hb_v_loads : 0 ≤ v_loads.toInt ∧ v_loads.toInt ≤ 9) (hr_m_loadWeight : rg (0) 120 f_m_loadWeight) (hr_m_food : rg (0) 20 f_m_food) (ha_k : 0 ≤ k.toInt ∧ k.toInt ≤ 5) (ha_i : 0 ≤ i.toInt ∧ i.toInt ≤ 9) : gMi l yX10_carriedBy cX10_carriedBy 6 .int 2 [.ref (hm 0), .int w, .int k, .int i] D cy (wMD cy hm v_taped v_walkers v_loads v_pieces v_changeCosts v_planned v_isMarch v_clauseMany v_place v_end v_bad v_clauses v_codes v_open v_stacked v_isOver v_isBehind v_atW v_atL v_atT v_atH v_atM v_atI v_atQ v_packing v_packed v_goPace v_goMinutes v_spentAt v_ranChanges f_m_tape f_m_knee f_m_weight f_m_isLame f_m_loadWeight f_m_owner f_m_food f_m_miles f_m_slope f_m_clauseLetter f_m_sumFrom f_m_codeFrom f_m_codeTo f_m_code f_m_codeArg f_m_newLetter f_m_newSum f_m_newFrom f_m_newTo f_m_newCode f_m_newArg f_m_stack f_m_worth f_m_isRefused f_m_least f_m_packPounds f_m_packOwner f_m_room f_m_givenTo f_m_canBe f_m_setPounds f_m_plainTime f_m_muleTime f_m_planTo f_m_march f_m_tired f_m_ranMinutes f_m_tiredAhead f_m_isReached f_m_toEnd f_m_upTo f_m_upNext f_m_byChanges f_m_bandPaces) NT sz (fun (r : Int32) (u : Unit) => True) (fun u => wMD cy hm v_taped v_walkers v_loads v_pieces v_changeCosts v_planned v_isMarch v_clauseMany v_place v_end v_bad v_clauses v_codes v_open v_stacked v_isOver v_isBehind v_atW v_atL v_atT v_atH v_atM v_atI v_atQ v_packing v_packed v_goPace v_goMinutes v_spentAt v_ranChanges f_m_tape f_m_knee f_m_weight f_m_isLame f_m_loadWeight f_m_owner f_m_food f_m_miles f_m_slope f_m_clauseLetter f_m_sumFrom f_m_codeFrom f_m_codeTo f_m_code f_m_codeArg f_m_newLetter f_m_newSum f_m_newFrom f_m_newTo f_m_newCode f_m_newArg f_m_stack f_m_worth f_m_isRefused f_m_least f_m_packPounds f_m_packOwner f_m_room f_m_givenTo f_m_canBe f_m_setPounds f_m_plainTime f_m_muleTime f_m_planTo f_m_march f_m_tired f_m_ranMinutes f_m_tiredAhead f_m_isReached f_m_toEnd f_m_upTo f_m_upNext f_m_byChanges f_m_bandPaces) := by
  refine gMi_in (by decide) (Nat.le_of_ble_eq_true rfl) ?_
  intro p e s m args below meth c A ls Q hx hb hml hts hown hsz hP hK hD hN hAe hA hS hl hret
  subst hsz
  have hl : lv_has ls 6 [(0, .ref (hm 0)), (1, .int w), (2, .int k), (3, .int i)] := hl
  have hrt := fun (r : Int32)   {H : Heap} {locs : List Loc} {pc : Nat} {ls : Array Slot} => hret r () (H := H) (locs := locs) (pc := pc) (ls := ls) trivial
  clear hret
  refine lv_iconst (v := 0) hx hb dX10_carriedBy_0 (by decide) ?_
  refine lv_istore (lv' := [(4, .int 0), (0, .ref (hm 0)), (1, .int w), (2, .int k), (3, .int i)]) hx hb dX10_carriedBy_1 hl (by decide) rfl (fun ls hl => ?_)
  refine lv_iconst (v := 0) hx hb dX10_carriedBy_3 (by decide) ?_
  refine lv_istore (lv' := [(5, .int 0), (4, .int 0), (0, .ref (hm 0)), (1, .int w), (2, .int k), (3, .int i)]) hx hb dX10_carriedBy_4 hl (by decide) rfl (fun ls hl => ?_)
  have L6_5 : ∀ (n : Nat) (l_3 : Int32) (l_4 : Int32), (0 ≤ l_4.toInt ∧ l_4.toInt ≤ 9) → 10 - l_4.toInt < n → ∀ (H : Heap) (locs : List Loc) (ls : Array Slot), va_P D vwCl (wMD cy hm v_taped v_walkers v_loads v_pieces v_changeCosts v_planned v_isMarch v_clauseMany v_place v_end v_bad v_clauses v_codes v_open v_stacked v_isOver v_isBehind v_atW v_atL v_atT v_atH v_atM v_atI v_atQ v_packing v_packed v_goPace v_goMinutes v_spentAt v_ranChanges f_m_tape f_m_knee f_m_weight f_m_isLame f_m_loadWeight f_m_owner f_m_food f_m_miles f_m_slope f_m_clauseLetter f_m_sumFrom f_m_codeFrom f_m_codeTo f_m_code f_m_codeArg f_m_newLetter f_m_newSum f_m_newFrom f_m_newTo f_m_newCode f_m_newArg f_m_stack f_m_worth f_m_isRefused f_m_least f_m_packPounds f_m_packOwner f_m_room f_m_givenTo f_m_canBe f_m_setPounds f_m_plainTime f_m_muleTime f_m_planTo f_m_march f_m_tired f_m_ranMinutes f_m_tiredAhead f_m_isReached f_m_toEnd f_m_upTo f_m_upNext f_m_byChanges f_m_bandPaces) H → va_D A (wMD cy hm v_taped v_walkers v_loads v_pieces v_changeCosts v_planned v_isMarch v_clauseMany v_place v_end v_bad v_clauses v_codes v_open v_stacked v_isOver v_isBehind v_atW v_atL v_atT v_atH v_atM v_atI v_atQ v_packing v_packed v_goPace v_goMinutes v_spentAt v_ranChanges f_m_tape f_m_knee f_m_weight f_m_isLame f_m_loadWeight f_m_owner f_m_food f_m_miles f_m_slope f_m_clauseLetter f_m_sumFrom f_m_codeFrom f_m_codeTo f_m_code f_m_codeArg f_m_newLetter f_m_newSum f_m_newFrom f_m_newTo f_m_newCode f_m_newArg f_m_stack f_m_worth f_m_isRefused f_m_least f_m_packPounds f_m_packOwner f_m_room f_m_givenTo f_m_canBe f_m_setPounds f_m_plainTime f_m_muleTime f_m_planTo f_m_march f_m_tired f_m_ranMinutes f_m_tiredAhead f_m_isReached f_m_toEnd f_m_upTo f_m_upNext f_m_byChanges f_m_bandPaces) → va_S A s.heap H locs → lv_has ls 6 [(5, .int l_4), (4, .int l_3), (0, .ref (hm 0)), (1, .int w), (2, .int k), (3, .int i)] → W p l e (gRm 2) s m args below meth c H locs 0 0 Q (F0 m 6 ls []) := by
    intro n
    induction n with
    | zero => intro l_3 l_4 hL6_5_0 hm; exact absurd hm (by omega)
    | succ n ih6_5 =>
      intro l_3 l_4 hL6_5_0 hmL6_5 H locs ls hP hD hS hl
      refine lv_iload hx hb dX10_carriedBy_6 (lv_at hl 0 rfl) ?_
      refine lv_aload_n hx hb dX10_carriedBy_8 rfl (lv_at hl 2 rfl) ?_
      refine gt_MD_MD_loads hx hb hts hown hK hP lwd_247 dX10_carriedBy_9 ?_
      refine lv_icmp_ge (tgt := 53) hx hb dX10_carriedBy_12 (by decide) (fun c_6 => ?_) (fun c_6 => ?_)
      · have gc_6 : v_loads.toInt ≤ l_4.toInt := i_le (rfl : v_loads.toInt = v_loads.toInt) (rfl : l_4.toInt = l_4.toInt) c_6
        refine lv_iload hx hb dX10_carriedBy_53 (lv_at hl 1 rfl) ?_
        exact hrt l_3   hP hD hS rfl dX10_carriedBy_55
      · have gc_6 : l_4.toInt < v_loads.toInt := i_nle (rfl : v_loads.toInt = v_loads.toInt) (rfl : l_4.toInt = l_4.toInt) c_6
        refine lv_iload hx hb dX10_carriedBy_15 (lv_at hl 1 rfl) ?_
        refine lv_aload_n hx hb dX10_carriedBy_17 rfl (lv_at hl 2 rfl) ?_
        refine gt_MD_MD_planTo hx hb hts hown hK hP lwd_189 dX10_carriedBy_18 ?_
        refine lv_bipush (v := 9) hx hb dX10_carriedBy_21 (by decide) ?_
        refine lv_iload_n hx hb dX10_carriedBy_23 rfl (lv_at hl 4 rfl) ?_
        refine lv_imul hx hb dX10_carriedBy_24 ?_
        refine lv_topi (fun n_7 en_7 => ?_)
        have tn_7 : n_7.toInt = 9 * k.toInt := i_mul en_7 (by decide : (9 : Int32).toInt = 9) (rfl : k.toInt = k.toInt) (by omega) (by omega)
        refine lv_iload hx hb dX10_carriedBy_25 (lv_at hl 0 rfl) ?_
        refine lv_iadd hx hb dX10_carriedBy_27 ?_
        refine lv_topi (fun n_8 en_8 => ?_)
        have tn_8 : n_8.toInt = (9 * k.toInt) + l_4.toInt := i_add en_8 tn_7 (rfl : l_4.toInt = l_4.toInt) (by omega) (by omega)
        refine al_m_planTo hx hb hK hP (i_in tn_8 (by omega) (by omega)) dX10_carriedBy_28 (fun n_9 en_9 => ?_)
        refine lv_iload_n hx hb dX10_carriedBy_29 rfl (lv_at hl 3 rfl) ?_
        refine lv_icmp_ne (tgt := 43) hx hb dX10_carriedBy_30 (by decide) (fun c_10 => ?_) (fun c_10 => ?_)
        · have gc_10 : n_9.toInt ≠ w.toInt := i_ne (rfl : n_9.toInt = n_9.toInt) (rfl : w.toInt = w.toInt) c_10
          refine lv_iconst (v := 0) hx hb dX10_carriedBy_43 (by decide) ?_
          refine lv_iadd hx hb dX10_carriedBy_44 ?_
          have hb_11 := And.intro (i_bot l_3) (i_top l_3)
          refine lv_topi (fun n_12 en_12 => ?_)
          have tn_12 : n_12.toInt = l_3.toInt + 0 := i_add en_12 (rfl : l_3.toInt = l_3.toInt) (by decide : (0 : Int32).toInt = 0) (by omega) (by omega)
          refine lv_istore (lv' := [(4, .int n_12), (5, .int l_4), (0, .ref (hm 0)), (1, .int w), (2, .int k), (3, .int i)]) hx hb dX10_carriedBy_45 hl (by decide) rfl (fun ls hl => ?_)
          obtain ⟨n_13, en_13⟩ : ∃ y : Int32, y = l_4 + 1 := ⟨_, rfl⟩
          have tn_13 : n_13.toInt = l_4.toInt + 1 := i_add en_13 (rfl : l_4.toInt = l_4.toInt) (by decide : (1 : Int32).toInt = 1) (by omega) (by omega)
          refine lv_iinc (v := n_13) (lv' := [(5, .int n_13), (4, .int n_12), (0, .ref (hm 0)), (1, .int w), (2, .int k), (3, .int i)]) hx hb dX10_carriedBy_47 hl (k := 1) rfl (by rw [en_13]; rfl) (by decide) rfl (fun ls hl => ?_)
          refine lv_goto (tgt := 6) hx hb dX10_carriedBy_50 (by decide) ?_
          exact ih6_5 n_12 n_13 (by omega) (by omega) _ _ _ hP hD hS (lv_sub hl [0, 1, 2, 3, 4, 5] rfl)
        · have gc_10 : n_9.toInt = w.toInt := i_eq (rfl : n_9.toInt = n_9.toInt) (rfl : w.toInt = w.toInt) c_10
          refine lv_aload_n hx hb dX10_carriedBy_33 rfl (lv_at hl 2 rfl) ?_
          refine lv_iload hx hb dX10_carriedBy_34 (lv_at hl 0 rfl) ?_
          refine lv_iload_n hx hb dX10_carriedBy_36 rfl (lv_at hl 5 rfl) ?_
          refine xi hD hS hA (xV (As := [.int l_4, .int i]) (rest := [.int l_3]) hx hb hml hown hts hK hP hD hS hA NT_ok hN hAe hl.1 ⟨Nat.le_refl _, Nat.le_refl _⟩ 0 rfl rfl rfl (c_X10_poundsOf l D cy hm v_taped v_walkers v_loads v_pieces v_changeCosts v_planned v_isMarch v_clauseMany v_place v_end v_bad v_clauses v_codes v_open v_stacked v_isOver v_isBehind v_atW v_atL v_atT v_atH v_atM v_atI v_atQ v_packing v_packed v_goPace v_goMinutes v_spentAt v_ranChanges f_m_tape f_m_knee f_m_weight f_m_isLame f_m_loadWeight f_m_owner f_m_food f_m_miles f_m_slope f_m_clauseLetter f_m_sumFrom f_m_codeFrom f_m_codeTo f_m_code f_m_codeArg f_m_newLetter f_m_newSum f_m_newFrom f_m_newTo f_m_newCode f_m_newArg f_m_stack f_m_worth f_m_isRefused f_m_least f_m_packPounds f_m_packOwner f_m_room f_m_givenTo f_m_canBe f_m_setPounds f_m_plainTime f_m_muleTime f_m_planTo f_m_march f_m_tired f_m_ranMinutes f_m_tiredAhead f_m_isReached f_m_toEnd f_m_upTo f_m_upNext f_m_byChanges f_m_bandPaces H.size l_4 i hr_m_loadWeight hr_m_food (by omega) (by omega)) (gi_V lwd_746 lwd_747 lwd_748 lwd_5 lwd_749) ⟨rfl, hd_X10_poundsOf⟩ ⟨Nat.le_of_ble_eq_true rfl, Nat.le_of_ble_eq_true rfl⟩ rfl (Nat.le_of_ble_eq_true rfl) dX10_carriedBy_37) (fun r_15 u_14 H locs hw hP hD hS => ?_)
          try dsimp only at hw hP hD
          have p_16 := hw
          clear hw
          refine lv_goto (tgt := 44) hx hb dX10_carriedBy_40 (by decide) ?_
          refine lv_iadd hx hb dX10_carriedBy_44 ?_
          refine lv_topi (fun n_17 en_17 => ?_)
          refine lv_istore (lv' := [(4, .int n_17), (5, .int l_4), (0, .ref (hm 0)), (1, .int w), (2, .int k), (3, .int i)]) hx hb dX10_carriedBy_45 hl (by decide) rfl (fun ls hl => ?_)
          obtain ⟨n_18, en_18⟩ : ∃ y : Int32, y = l_4 + 1 := ⟨_, rfl⟩
          have tn_18 : n_18.toInt = l_4.toInt + 1 := i_add en_18 (rfl : l_4.toInt = l_4.toInt) (by decide : (1 : Int32).toInt = 1) (by omega) (by omega)
          refine lv_iinc (v := n_18) (lv' := [(5, .int n_18), (4, .int n_17), (0, .ref (hm 0)), (1, .int w), (2, .int k), (3, .int i)]) hx hb dX10_carriedBy_47 hl (k := 1) rfl (by rw [en_18]; rfl) (by decide) rfl (fun ls hl => ?_)
          refine lv_goto (tgt := 6) hx hb dX10_carriedBy_50 (by decide) ?_
          exact ih6_5 n_17 n_18 (by omega) (by omega) _ _ _ hP hD hS (lv_sub hl [0, 1, 2, 3, 4, 5] rfl)
  have k_19 : (0 : Int32).toInt = 0 := by decide
  have k_20 : (0 : Int32).toInt = 0 := by decide
  exact L6_5 8589934592 0 0 (by omega) (by omega) _ _ _ hP hD hS (lv_sub hl [0, 1, 2, 3, 4, 5] rfl)
set_option maxHeartbeats 16000000 in
set_option maxRecDepth 100000 in
theorem c_X10_takesTired (l : Launch) (D : va_G) (cy : Nat → ClassId) (hm : Nat → Nat) (v_taped v_walkers v_loads v_pieces v_changeCosts v_planned v_isMarch v_clauseMany v_place v_end v_bad v_clauses v_codes v_open v_stacked v_isOver v_isBehind v_atW v_atL v_atT v_atH v_atM v_atI v_atQ v_packing v_packed v_goPace v_goMinutes v_spentAt v_ranChanges : Int32) (f_m_tape f_m_knee f_m_weight f_m_isLame f_m_loadWeight f_m_owner f_m_food f_m_miles f_m_slope f_m_clauseLetter f_m_sumFrom f_m_codeFrom f_m_codeTo f_m_code f_m_codeArg f_m_newLetter f_m_newSum f_m_newFrom f_m_newTo f_m_newCode f_m_newArg f_m_stack f_m_worth f_m_isRefused f_m_least f_m_packPounds f_m_packOwner f_m_room f_m_givenTo f_m_canBe f_m_setPounds f_m_plainTime f_m_muleTime f_m_planTo f_m_march f_m_tired f_m_ranMinutes f_m_tiredAhead f_m_isReached f_m_toEnd f_m_upTo f_m_upNext f_m_byChanges f_m_bandPaces : Nat → Int32) (sz : Nat) (all : Int32) (hr_m_tired : rg (0) 5 f_m_tired) (ha_all : 0 ≤ all.toInt ∧ all.toInt ≤ 46655) : gMv l yX10_takesTired cX10_takesTired 4 1 [.ref (hm 0), .int all] D cy (wMD cy hm v_taped v_walkers v_loads v_pieces v_changeCosts v_planned v_isMarch v_clauseMany v_place v_end v_bad v_clauses v_codes v_open v_stacked v_isOver v_isBehind v_atW v_atL v_atT v_atH v_atM v_atI v_atQ v_packing v_packed v_goPace v_goMinutes v_spentAt v_ranChanges f_m_tape f_m_knee f_m_weight f_m_isLame f_m_loadWeight f_m_owner f_m_food f_m_miles f_m_slope f_m_clauseLetter f_m_sumFrom f_m_codeFrom f_m_codeTo f_m_code f_m_codeArg f_m_newLetter f_m_newSum f_m_newFrom f_m_newTo f_m_newCode f_m_newArg f_m_stack f_m_worth f_m_isRefused f_m_least f_m_packPounds f_m_packOwner f_m_room f_m_givenTo f_m_canBe f_m_setPounds f_m_plainTime f_m_muleTime f_m_planTo f_m_march f_m_tired f_m_ranMinutes f_m_tiredAhead f_m_isReached f_m_toEnd f_m_upTo f_m_upNext f_m_byChanges f_m_bandPaces) NT sz (fun (u : (Nat → Int32)) => (rg (0) 5 u)) (fun u => wMD cy hm v_taped v_walkers v_loads v_pieces v_changeCosts v_planned v_isMarch v_clauseMany v_place v_end v_bad v_clauses v_codes v_open v_stacked v_isOver v_isBehind v_atW v_atL v_atT v_atH v_atM v_atI v_atQ v_packing v_packed v_goPace v_goMinutes v_spentAt v_ranChanges f_m_tape f_m_knee f_m_weight f_m_isLame f_m_loadWeight f_m_owner f_m_food f_m_miles f_m_slope f_m_clauseLetter f_m_sumFrom f_m_codeFrom f_m_codeTo f_m_code f_m_codeArg f_m_newLetter f_m_newSum f_m_newFrom f_m_newTo f_m_newCode f_m_newArg f_m_stack f_m_worth f_m_isRefused f_m_least f_m_packPounds f_m_packOwner f_m_room f_m_givenTo f_m_canBe f_m_setPounds f_m_plainTime f_m_muleTime f_m_planTo f_m_march u f_m_ranMinutes f_m_tiredAhead f_m_isReached f_m_toEnd f_m_upTo f_m_upNext f_m_byChanges f_m_bandPaces) := by
  refine gMv_in (by decide) (Nat.le_of_ble_eq_true rfl) ?_
  intro p e s m args below meth c A ls Q hx hb hml hts hown hsz hP hK hD hN hAe hA hS hl hret
  subst hsz
  have hl : lv_has ls 4 [(0, .ref (hm 0)), (1, .int all)] := hl
  have hrt := fun (f_m_tired' : Nat → Int32) (hp : (rg (0) 5 f_m_tired')) {H : Heap} {locs : List Loc} {pc : Nat} {ls : Array Slot} => hret f_m_tired' (H := H) (locs := locs) (pc := pc) (ls := ls) hp
  clear hret
  refine lv_iload_n hx hb dX10_takesTired_0 rfl (lv_at hl 1 rfl) ?_
  refine lv_istore_n (lv' := [(2, .int all), (0, .ref (hm 0)), (1, .int all)]) hx hb dX10_takesTired_1 rfl hl (by decide) rfl (fun ls hl => ?_)
  refine lv_iconst (v := 0) hx hb dX10_takesTired_2 (by decide) ?_
  refine lv_istore_n (lv' := [(3, .int 0), (2, .int all), (0, .ref (hm 0)), (1, .int all)]) hx hb dX10_takesTired_3 rfl hl (by decide) rfl (fun ls hl => ?_)
  have L4_7 : ∀ (n : Nat) (f_4 : Nat → Int32) (l_5 : Int32) (l_6 : Int32), (rg (0) 5 f_4) → (0 ≤ l_5.toInt ∧ l_5.toInt ≤ 46655) → (0 ≤ l_6.toInt ∧ l_6.toInt ≤ 6) → 7 - l_6.toInt < n → ∀ (H : Heap) (locs : List Loc) (ls : Array Slot), va_P D vwCl (wMD cy hm v_taped v_walkers v_loads v_pieces v_changeCosts v_planned v_isMarch v_clauseMany v_place v_end v_bad v_clauses v_codes v_open v_stacked v_isOver v_isBehind v_atW v_atL v_atT v_atH v_atM v_atI v_atQ v_packing v_packed v_goPace v_goMinutes v_spentAt v_ranChanges f_m_tape f_m_knee f_m_weight f_m_isLame f_m_loadWeight f_m_owner f_m_food f_m_miles f_m_slope f_m_clauseLetter f_m_sumFrom f_m_codeFrom f_m_codeTo f_m_code f_m_codeArg f_m_newLetter f_m_newSum f_m_newFrom f_m_newTo f_m_newCode f_m_newArg f_m_stack f_m_worth f_m_isRefused f_m_least f_m_packPounds f_m_packOwner f_m_room f_m_givenTo f_m_canBe f_m_setPounds f_m_plainTime f_m_muleTime f_m_planTo f_m_march f_4 f_m_ranMinutes f_m_tiredAhead f_m_isReached f_m_toEnd f_m_upTo f_m_upNext f_m_byChanges f_m_bandPaces) H → va_D A (wMD cy hm v_taped v_walkers v_loads v_pieces v_changeCosts v_planned v_isMarch v_clauseMany v_place v_end v_bad v_clauses v_codes v_open v_stacked v_isOver v_isBehind v_atW v_atL v_atT v_atH v_atM v_atI v_atQ v_packing v_packed v_goPace v_goMinutes v_spentAt v_ranChanges f_m_tape f_m_knee f_m_weight f_m_isLame f_m_loadWeight f_m_owner f_m_food f_m_miles f_m_slope f_m_clauseLetter f_m_sumFrom f_m_codeFrom f_m_codeTo f_m_code f_m_codeArg f_m_newLetter f_m_newSum f_m_newFrom f_m_newTo f_m_newCode f_m_newArg f_m_stack f_m_worth f_m_isRefused f_m_least f_m_packPounds f_m_packOwner f_m_room f_m_givenTo f_m_canBe f_m_setPounds f_m_plainTime f_m_muleTime f_m_planTo f_m_march f_4 f_m_ranMinutes f_m_tiredAhead f_m_isReached f_m_toEnd f_m_upTo f_m_upNext f_m_byChanges f_m_bandPaces) → va_S A s.heap H locs → lv_has ls 4 [(3, .int l_6), (2, .int l_5), (0, .ref (hm 0)), (1, .int all)] → W p l e (gRm 1) s m args below meth c H locs 0 0 Q (F0 m 4 ls []) := by
    intro n
    induction n with
    | zero => intro f_4 l_5 l_6 hL4_7_0 hL4_7_1 hL4_7_2 hm; exact absurd hm (by omega)
    | succ n ih4_7 =>
      intro f_4 l_5 l_6 hL4_7_0 hL4_7_1 hL4_7_2 hmL4_7 H locs ls hP hD hS hl
      refine lv_iload_n hx hb dX10_takesTired_4 rfl (lv_at hl 0 rfl) ?_
      refine lv_bipush (v := 6) hx hb dX10_takesTired_5 (by decide) ?_
      refine lv_icmp_ge (tgt := 31) hx hb dX10_takesTired_7 (by decide) (fun c_8 => ?_) (fun c_8 => ?_)
      · have gc_8 : 6 ≤ l_6.toInt := i_le (by decide : (6 : Int32).toInt = 6) (rfl : l_6.toInt = l_6.toInt) c_8
        exact hrt f_4 hL4_7_0 hP hD hS dX10_takesTired_31
      · have gc_8 : l_6.toInt < 6 := i_nle (by decide : (6 : Int32).toInt = 6) (rfl : l_6.toInt = l_6.toInt) c_8
        refine lv_aload_n hx hb dX10_takesTired_10 rfl (lv_at hl 2 rfl) ?_
        refine gt_MD_MD_tired hx hb hts hown hK hP lwd_191 dX10_takesTired_11 ?_
        refine lv_iload_n hx hb dX10_takesTired_14 rfl (lv_at hl 0 rfl) ?_
        refine lv_iload_n hx hb dX10_takesTired_15 rfl (lv_at hl 1 rfl) ?_
        refine lv_bipush (v := 6) hx hb dX10_takesTired_16 (by decide) ?_
        refine lv_irem hx hb dX10_takesTired_18 (by decide) ?_
        refine lv_topi (fun n_9 en_9 => ?_)
        have tn_9 : n_9.toInt = l_5.toInt % 6 := i_rem en_9 (rfl : l_5.toInt = l_5.toInt) (by decide : (6 : Int32).toInt = 6) (by omega) (by omega)
        refine as_m_tired (x := n_9) hx hb hK hP hD hS hL4_7_0 (i_in (rfl : l_6.toInt = l_6.toInt) (by omega) (by omega)) (by omega) dX10_takesTired_19 (fun f_10 ef_10 rf_10 H locs hP hD hS => ?_)
        refine lv_iload_n hx hb dX10_takesTired_20 rfl (lv_at hl 1 rfl) ?_
        refine lv_bipush (v := 6) hx hb dX10_takesTired_21 (by decide) ?_
        refine lv_idiv hx hb dX10_takesTired_23 (by decide) ?_
        refine lv_topi (fun n_11 en_11 => ?_)
        have tn_11 : n_11.toInt = l_5.toInt / 6 := i_div en_11 (rfl : l_5.toInt = l_5.toInt) (by decide : (6 : Int32).toInt = 6) (by omega) (by omega)
        refine lv_istore_n (lv' := [(2, .int n_11), (3, .int l_6), (0, .ref (hm 0)), (1, .int all)]) hx hb dX10_takesTired_24 rfl hl (by decide) rfl (fun ls hl => ?_)
        obtain ⟨n_12, en_12⟩ : ∃ y : Int32, y = l_6 + 1 := ⟨_, rfl⟩
        have tn_12 : n_12.toInt = l_6.toInt + 1 := i_add en_12 (rfl : l_6.toInt = l_6.toInt) (by decide : (1 : Int32).toInt = 1) (by omega) (by omega)
        refine lv_iinc (v := n_12) (lv' := [(3, .int n_12), (2, .int n_11), (0, .ref (hm 0)), (1, .int all)]) hx hb dX10_takesTired_25 hl (k := 1) rfl (by rw [en_12]; rfl) (by decide) rfl (fun ls hl => ?_)
        refine lv_goto (tgt := 4) hx hb dX10_takesTired_28 (by decide) ?_
        exact ih4_7 f_10 n_11 n_12 rf_10 (by omega) (by omega) (by omega) _ _ _ hP hD hS (lv_sub hl [0, 1, 2, 3] rfl)
  have k_13 : (0 : Int32).toInt = 0 := by decide
  exact L4_7 8589934592 f_m_tired all 0 hr_m_tired (by omega) (by omega) (by omega) _ _ _ hP hD hS (lv_sub hl [0, 1, 2, 3] rfl)
set_option maxHeartbeats 16000000 in
set_option maxRecDepth 100000 in
theorem c_X10_allTired (l : Launch) (D : va_G) (cy : Nat → ClassId) (hm : Nat → Nat) (v_taped v_walkers v_loads v_pieces v_changeCosts v_planned v_isMarch v_clauseMany v_place v_end v_bad v_clauses v_codes v_open v_stacked v_isOver v_isBehind v_atW v_atL v_atT v_atH v_atM v_atI v_atQ v_packing v_packed v_goPace v_goMinutes v_spentAt v_ranChanges : Int32) (f_m_tape f_m_knee f_m_weight f_m_isLame f_m_loadWeight f_m_owner f_m_food f_m_miles f_m_slope f_m_clauseLetter f_m_sumFrom f_m_codeFrom f_m_codeTo f_m_code f_m_codeArg f_m_newLetter f_m_newSum f_m_newFrom f_m_newTo f_m_newCode f_m_newArg f_m_stack f_m_worth f_m_isRefused f_m_least f_m_packPounds f_m_packOwner f_m_room f_m_givenTo f_m_canBe f_m_setPounds f_m_plainTime f_m_muleTime f_m_planTo f_m_march f_m_tired f_m_ranMinutes f_m_tiredAhead f_m_isReached f_m_toEnd f_m_upTo f_m_upNext f_m_byChanges f_m_bandPaces : Nat → Int32) (sz : Nat) (hb_v_walkers : 0 ≤ v_walkers.toInt ∧ v_walkers.toInt ≤ 6) (hr_m_tired : rg (0) 5 f_m_tired) : gMi l yX10_allTired cX10_allTired 3 .int 1 [.ref (hm 0)] D cy (wMD cy hm v_taped v_walkers v_loads v_pieces v_changeCosts v_planned v_isMarch v_clauseMany v_place v_end v_bad v_clauses v_codes v_open v_stacked v_isOver v_isBehind v_atW v_atL v_atT v_atH v_atM v_atI v_atQ v_packing v_packed v_goPace v_goMinutes v_spentAt v_ranChanges f_m_tape f_m_knee f_m_weight f_m_isLame f_m_loadWeight f_m_owner f_m_food f_m_miles f_m_slope f_m_clauseLetter f_m_sumFrom f_m_codeFrom f_m_codeTo f_m_code f_m_codeArg f_m_newLetter f_m_newSum f_m_newFrom f_m_newTo f_m_newCode f_m_newArg f_m_stack f_m_worth f_m_isRefused f_m_least f_m_packPounds f_m_packOwner f_m_room f_m_givenTo f_m_canBe f_m_setPounds f_m_plainTime f_m_muleTime f_m_planTo f_m_march f_m_tired f_m_ranMinutes f_m_tiredAhead f_m_isReached f_m_toEnd f_m_upTo f_m_upNext f_m_byChanges f_m_bandPaces) NT sz (fun (r : Int32) (u : Unit) => (0 ≤ r.toInt ∧ r.toInt ≤ 46655) ∧ (v_walkers.toInt ≤ 4 → r.toInt ≤ 1295)) (fun u => wMD cy hm v_taped v_walkers v_loads v_pieces v_changeCosts v_planned v_isMarch v_clauseMany v_place v_end v_bad v_clauses v_codes v_open v_stacked v_isOver v_isBehind v_atW v_atL v_atT v_atH v_atM v_atI v_atQ v_packing v_packed v_goPace v_goMinutes v_spentAt v_ranChanges f_m_tape f_m_knee f_m_weight f_m_isLame f_m_loadWeight f_m_owner f_m_food f_m_miles f_m_slope f_m_clauseLetter f_m_sumFrom f_m_codeFrom f_m_codeTo f_m_code f_m_codeArg f_m_newLetter f_m_newSum f_m_newFrom f_m_newTo f_m_newCode f_m_newArg f_m_stack f_m_worth f_m_isRefused f_m_least f_m_packPounds f_m_packOwner f_m_room f_m_givenTo f_m_canBe f_m_setPounds f_m_plainTime f_m_muleTime f_m_planTo f_m_march f_m_tired f_m_ranMinutes f_m_tiredAhead f_m_isReached f_m_toEnd f_m_upTo f_m_upNext f_m_byChanges f_m_bandPaces) := by
  refine gMi_in (by decide) (Nat.le_of_ble_eq_true rfl) ?_
  intro p e s m args below meth c A ls Q hx hb hml hts hown hsz hP hK hD hN hAe hA hS hl hret
  subst hsz
  have hl : lv_has ls 3 [(0, .ref (hm 0))] := hl
  have hrt := fun (r : Int32)  (hp : (0 ≤ r.toInt ∧ r.toInt ≤ 46655) ∧ (v_walkers.toInt ≤ 4 → r.toInt ≤ 1295)) {H : Heap} {locs : List Loc} {pc : Nat} {ls : Array Slot} => hret r () (H := H) (locs := locs) (pc := pc) (ls := ls) hp
  clear hret
  refine lv_iconst (v := 0) hx hb dX10_allTired_0 (by decide) ?_
  refine lv_istore_n (lv' := [(1, .int 0), (0, .ref (hm 0))]) hx hb dX10_allTired_1 rfl hl (by decide) rfl (fun ls hl => ?_)
  refine lv_aload_n hx hb dX10_allTired_2 rfl (lv_at hl 1 rfl) ?_
  refine gt_MD_MD_walkers hx hb hts hown hK hP lwd_221 dX10_allTired_3 ?_
  refine lv_iconst (v := 1) hx hb dX10_allTired_6 (by decide) ?_
  refine lv_isub hx hb dX10_allTired_7 ?_
  refine lv_topi (fun n_1 en_1 => ?_)
  have tn_1 : n_1.toInt = v_walkers.toInt - 1 := i_sub en_1 (rfl : v_walkers.toInt = v_walkers.toInt) (by decide : (1 : Int32).toInt = 1) (by omega) (by omega)
  refine lv_istore_n (lv' := [(2, .int n_1), (1, .int 0), (0, .ref (hm 0))]) hx hb dX10_allTired_8 rfl hl (by decide) rfl (fun ls hl => ?_)
  have L9_6 : ∀ (n : Nat) (l_4 : Int32) (l_5 : Int32), (0 ≤ l_4.toInt ∧ l_4.toInt ≤ 46655) → (-1 ≤ l_5.toInt ∧ l_5.toInt ≤ 5) → (l_5.toInt ≤ v_walkers.toInt - 1) → ((v_walkers.toInt - 1 - l_5.toInt = 0 ∧ l_4.toInt ≤ 0) ∨ (v_walkers.toInt - 1 - l_5.toInt = 1 ∧ l_4.toInt ≤ 5) ∨ (v_walkers.toInt - 1 - l_5.toInt = 2 ∧ l_4.toInt ≤ 35) ∨ (v_walkers.toInt - 1 - l_5.toInt = 3 ∧ l_4.toInt ≤ 215) ∨ (v_walkers.toInt - 1 - l_5.toInt = 4 ∧ l_4.toInt ≤ 1295) ∨ (v_walkers.toInt - 1 - l_5.toInt = 5 ∧ l_4.toInt ≤ 7775) ∨ (v_walkers.toInt - 1 - l_5.toInt = 6 ∧ l_4.toInt ≤ 46655)) → l_5.toInt + 1 < n → ∀ (H : Heap) (locs : List Loc) (ls : Array Slot), va_P D vwCl (wMD cy hm v_taped v_walkers v_loads v_pieces v_changeCosts v_planned v_isMarch v_clauseMany v_place v_end v_bad v_clauses v_codes v_open v_stacked v_isOver v_isBehind v_atW v_atL v_atT v_atH v_atM v_atI v_atQ v_packing v_packed v_goPace v_goMinutes v_spentAt v_ranChanges f_m_tape f_m_knee f_m_weight f_m_isLame f_m_loadWeight f_m_owner f_m_food f_m_miles f_m_slope f_m_clauseLetter f_m_sumFrom f_m_codeFrom f_m_codeTo f_m_code f_m_codeArg f_m_newLetter f_m_newSum f_m_newFrom f_m_newTo f_m_newCode f_m_newArg f_m_stack f_m_worth f_m_isRefused f_m_least f_m_packPounds f_m_packOwner f_m_room f_m_givenTo f_m_canBe f_m_setPounds f_m_plainTime f_m_muleTime f_m_planTo f_m_march f_m_tired f_m_ranMinutes f_m_tiredAhead f_m_isReached f_m_toEnd f_m_upTo f_m_upNext f_m_byChanges f_m_bandPaces) H → va_D A (wMD cy hm v_taped v_walkers v_loads v_pieces v_changeCosts v_planned v_isMarch v_clauseMany v_place v_end v_bad v_clauses v_codes v_open v_stacked v_isOver v_isBehind v_atW v_atL v_atT v_atH v_atM v_atI v_atQ v_packing v_packed v_goPace v_goMinutes v_spentAt v_ranChanges f_m_tape f_m_knee f_m_weight f_m_isLame f_m_loadWeight f_m_owner f_m_food f_m_miles f_m_slope f_m_clauseLetter f_m_sumFrom f_m_codeFrom f_m_codeTo f_m_code f_m_codeArg f_m_newLetter f_m_newSum f_m_newFrom f_m_newTo f_m_newCode f_m_newArg f_m_stack f_m_worth f_m_isRefused f_m_least f_m_packPounds f_m_packOwner f_m_room f_m_givenTo f_m_canBe f_m_setPounds f_m_plainTime f_m_muleTime f_m_planTo f_m_march f_m_tired f_m_ranMinutes f_m_tiredAhead f_m_isReached f_m_toEnd f_m_upTo f_m_upNext f_m_byChanges f_m_bandPaces) → va_S A s.heap H locs → lv_has ls 3 [(2, .int l_5), (1, .int l_4), (0, .ref (hm 0))] → W p l e (gRm 1) s m args below meth c H locs 0 0 Q (F0 m 9 ls []) := by
    intro n
    induction n with
    | zero => intro l_4 l_5 hL9_6_0 hL9_6_1 hL9_6_2 hL9_6_3 hm; exact absurd hm (by omega)
    | succ n ih9_6 =>
      intro l_4 l_5 hL9_6_0 hL9_6_1 hL9_6_2 hL9_6_3 hmL9_6 H locs ls hP hD hS hl
      refine lv_iload_n hx hb dX10_allTired_9 rfl (lv_at hl 0 rfl) ?_
      refine lv_if_lt (tgt := 31) hx hb dX10_allTired_10 (by decide) (fun c_7 => ?_) (fun c_7 => ?_)
      · have gc_7 : l_5.toInt < 0 := i_lt (rfl : l_5.toInt = l_5.toInt) (by decide : (0 : Int32).toInt = 0) c_7
        refine lv_iload_n hx hb dX10_allTired_31 rfl (lv_at hl 1 rfl) ?_
        exact hrt l_4  ⟨(by omega), (by omega)⟩ hP hD hS rfl dX10_allTired_32
      · have gc_7 : 0 ≤ l_5.toInt := i_nlt (rfl : l_5.toInt = l_5.toInt) (by decide : (0 : Int32).toInt = 0) c_7
        refine lv_bipush (v := 6) hx hb dX10_allTired_13 (by decide) ?_
        refine lv_iload_n hx hb dX10_allTired_15 rfl (lv_at hl 1 rfl) ?_
        refine lv_imul hx hb dX10_allTired_16 ?_
        refine lv_topi (fun n_8 en_8 => ?_)
        have tn_8 : n_8.toInt = 6 * l_4.toInt := i_mul en_8 (by decide : (6 : Int32).toInt = 6) (rfl : l_4.toInt = l_4.toInt) (by omega) (by omega)
        refine lv_aload_n hx hb dX10_allTired_17 rfl (lv_at hl 2 rfl) ?_
        refine gt_MD_MD_tired hx hb hts hown hK hP lwd_191 dX10_allTired_18 ?_
        refine lv_iload_n hx hb dX10_allTired_21 rfl (lv_at hl 0 rfl) ?_
        refine al_m_tired hx hb hK hP hr_m_tired (i_in (rfl : l_5.toInt = l_5.toInt) (by omega) (by omega)) dX10_allTired_22 (fun n_9 en_9 bn_9 => ?_)
        refine lv_iadd hx hb dX10_allTired_23 ?_
        refine lv_topi (fun n_10 en_10 => ?_)
        have tn_10 : n_10.toInt = (6 * l_4.toInt) + n_9.toInt := i_add en_10 tn_8 (rfl : n_9.toInt = n_9.toInt) (by omega) (by omega)
        refine lv_istore_n (lv' := [(1, .int n_10), (2, .int l_5), (0, .ref (hm 0))]) hx hb dX10_allTired_24 rfl hl (by decide) rfl (fun ls hl => ?_)
        obtain ⟨n_11, en_11⟩ : ∃ y : Int32, y = l_5 + (-1) := ⟨_, rfl⟩
        have tn_11 : n_11.toInt = l_5.toInt + (-1) := i_add en_11 (rfl : l_5.toInt = l_5.toInt) (by decide : ((-1) : Int32).toInt = (-1)) (by omega) (by omega)
        refine lv_iinc (v := n_11) (lv' := [(2, .int n_11), (1, .int n_10), (0, .ref (hm 0))]) hx hb dX10_allTired_25 hl (k := 1) rfl (by rw [en_11]; rfl) (by decide) rfl (fun ls hl => ?_)
        refine lv_goto (tgt := 9) hx hb dX10_allTired_28 (by decide) ?_
        exact ih9_6 n_10 n_11 (by omega) (by omega) (by omega) (by omega) (by omega) _ _ _ hP hD hS (lv_sub hl [0, 1, 2] rfl)
  have k_12 : (0 : Int32).toInt = 0 := by decide
  exact L9_6 8589934592 0 n_1 (by omega) (by omega) (by omega) (by omega) (by omega) _ _ _ hP hD hS (lv_sub hl [0, 1, 2] rfl)
set_option maxHeartbeats 16000000 in
set_option maxRecDepth 100000 in
theorem c_X10_rests (l : Launch) (D : va_G) (cy : Nat → ClassId) (hm : Nat → Nat) (v_taped v_walkers v_loads v_pieces v_changeCosts v_planned v_isMarch v_clauseMany v_place v_end v_bad v_clauses v_codes v_open v_stacked v_isOver v_isBehind v_atW v_atL v_atT v_atH v_atM v_atI v_atQ v_packing v_packed v_goPace v_goMinutes v_spentAt v_ranChanges : Int32) (f_m_tape f_m_knee f_m_weight f_m_isLame f_m_loadWeight f_m_owner f_m_food f_m_miles f_m_slope f_m_clauseLetter f_m_sumFrom f_m_codeFrom f_m_codeTo f_m_code f_m_codeArg f_m_newLetter f_m_newSum f_m_newFrom f_m_newTo f_m_newCode f_m_newArg f_m_stack f_m_worth f_m_isRefused f_m_least f_m_packPounds f_m_packOwner f_m_room f_m_givenTo f_m_canBe f_m_setPounds f_m_plainTime f_m_muleTime f_m_planTo f_m_march f_m_tired f_m_ranMinutes f_m_tiredAhead f_m_isReached f_m_toEnd f_m_upTo f_m_upNext f_m_byChanges f_m_bandPaces : Nat → Int32) (sz : Nat) (many : Int32) (i : Int32) (hb_v_walkers : 0 ≤ v_walkers.toInt ∧ v_walkers.toInt ≤ 6) (hb_v_clauseMany : 0 ≤ v_clauseMany.toInt ∧ v_clauseMany.toInt ≤ 14) (hb_v_atW : 0 ≤ v_atW.toInt ∧ v_atW.toInt ≤ 5) (hr_m_weight : rg (0) 250 f_m_weight) (hr_m_isRefused : rg (0) 1 f_m_isRefused) (hr_m_tired : rg (0) 5 f_m_tired) (ha_many : 0 ≤ many.toInt ∧ many.toInt ≤ 2) (ha_i : 0 ≤ i.toInt ∧ i.toInt ≤ 9) (hwf : wfC v_clauseMany f_m_sumFrom f_m_codeFrom f_m_codeTo f_m_code) : gMv l yX10_rests cX10_rests 5 5 [.ref (hm 0), .int many, .int i] D cy (wMD cy hm v_taped v_walkers v_loads v_pieces v_changeCosts v_planned v_isMarch v_clauseMany v_place v_end v_bad v_clauses v_codes v_open v_stacked v_isOver v_isBehind v_atW v_atL v_atT v_atH v_atM v_atI v_atQ v_packing v_packed v_goPace v_goMinutes v_spentAt v_ranChanges f_m_tape f_m_knee f_m_weight f_m_isLame f_m_loadWeight f_m_owner f_m_food f_m_miles f_m_slope f_m_clauseLetter f_m_sumFrom f_m_codeFrom f_m_codeTo f_m_code f_m_codeArg f_m_newLetter f_m_newSum f_m_newFrom f_m_newTo f_m_newCode f_m_newArg f_m_stack f_m_worth f_m_isRefused f_m_least f_m_packPounds f_m_packOwner f_m_room f_m_givenTo f_m_canBe f_m_setPounds f_m_plainTime f_m_muleTime f_m_planTo f_m_march f_m_tired f_m_ranMinutes f_m_tiredAhead f_m_isReached f_m_toEnd f_m_upTo f_m_upNext f_m_byChanges f_m_bandPaces) NT sz (fun (u : Int32 × Int32 × Int32 × Int32 × Int32 × Int32 × Int32 × (Nat → Int32) × (Nat → Int32) × (Nat → Int32)) => (0 ≤ (u.1).toInt ∧ (u.1).toInt ≤ 5) ∧ (rg (0) 1 (u.2.2.2.2.2.2.2.2.1)) ∧ (rg (0) 5 (u.2.2.2.2.2.2.2.2.2))) (fun u => wMD cy hm v_taped v_walkers v_loads v_pieces v_changeCosts v_planned v_isMarch v_clauseMany v_place v_end v_bad v_clauses v_codes v_open v_stacked v_isOver v_isBehind (u.1) (u.2.1) (u.2.2.1) (u.2.2.2.1) (u.2.2.2.2.1) (u.2.2.2.2.2.1) (u.2.2.2.2.2.2.1) v_packing v_packed v_goPace v_goMinutes v_spentAt v_ranChanges f_m_tape f_m_knee f_m_weight f_m_isLame f_m_loadWeight f_m_owner f_m_food f_m_miles f_m_slope f_m_clauseLetter f_m_sumFrom f_m_codeFrom f_m_codeTo f_m_code f_m_codeArg f_m_newLetter f_m_newSum f_m_newFrom f_m_newTo f_m_newCode f_m_newArg f_m_stack (u.2.2.2.2.2.2.2.1) (u.2.2.2.2.2.2.2.2.1) f_m_least f_m_packPounds f_m_packOwner f_m_room f_m_givenTo f_m_canBe f_m_setPounds f_m_plainTime f_m_muleTime f_m_planTo f_m_march (u.2.2.2.2.2.2.2.2.2) f_m_ranMinutes f_m_tiredAhead f_m_isReached f_m_toEnd f_m_upTo f_m_upNext f_m_byChanges f_m_bandPaces) := by
  refine gMv_in (by decide) (Nat.le_of_ble_eq_true rfl) ?_
  intro p e s m args below meth c A ls Q hx hb hml hts hown hsz hP hK hD hN hAe hA hS hl hret
  subst hsz
  have hl : lv_has ls 5 [(0, .ref (hm 0)), (1, .int many), (2, .int i)] := hl
  have hrt := fun (v_atW' : Int32) (v_atL' : Int32) (v_atT' : Int32) (v_atH' : Int32) (v_atM' : Int32) (v_atI' : Int32) (v_atQ' : Int32) (f_m_worth' : Nat → Int32) (f_m_isRefused' : Nat → Int32) (f_m_tired' : Nat → Int32) (hp : (0 ≤ v_atW'.toInt ∧ v_atW'.toInt ≤ 5) ∧ (rg (0) 1 f_m_isRefused') ∧ (rg (0) 5 f_m_tired')) {H : Heap} {locs : List Loc} {pc : Nat} {ls : Array Slot} => hret (v_atW', v_atL', v_atT', v_atH', v_atM', v_atI', v_atQ', f_m_worth', f_m_isRefused', f_m_tired') (H := H) (locs := locs) (pc := pc) (ls := ls) hp
  clear hret
  refine lv_iconst (v := 0) hx hb dX10_rests_0 (by decide) ?_
  refine lv_istore_n (lv' := [(3, .int 0), (0, .ref (hm 0)), (1, .int many), (2, .int i)]) hx hb dX10_rests_1 rfl hl (by decide) rfl (fun ls hl => ?_)
  have L2_23 : ∀ (n : Nat) (f_12 : Nat → Int32) (f_13 : Nat → Int32) (f_14 : Nat → Int32) (l_15 : Int32) (w_16 : Int32) (w_17 : Int32) (w_18 : Int32) (w_19 : Int32) (w_20 : Int32) (w_21 : Int32) (w_22 : Int32), (rg (0) 1 f_12) → (rg (0) 5 f_13) → (0 ≤ l_15.toInt ∧ l_15.toInt ≤ 2) → (0 ≤ w_22.toInt ∧ w_22.toInt ≤ 5) → 3 - l_15.toInt < n → ∀ (H : Heap) (locs : List Loc) (ls : Array Slot), va_P D vwCl (wMD cy hm v_taped v_walkers v_loads v_pieces v_changeCosts v_planned v_isMarch v_clauseMany v_place v_end v_bad v_clauses v_codes v_open v_stacked v_isOver v_isBehind w_22 w_18 w_21 w_16 w_19 w_17 w_20 v_packing v_packed v_goPace v_goMinutes v_spentAt v_ranChanges f_m_tape f_m_knee f_m_weight f_m_isLame f_m_loadWeight f_m_owner f_m_food f_m_miles f_m_slope f_m_clauseLetter f_m_sumFrom f_m_codeFrom f_m_codeTo f_m_code f_m_codeArg f_m_newLetter f_m_newSum f_m_newFrom f_m_newTo f_m_newCode f_m_newArg f_m_stack f_14 f_12 f_m_least f_m_packPounds f_m_packOwner f_m_room f_m_givenTo f_m_canBe f_m_setPounds f_m_plainTime f_m_muleTime f_m_planTo f_m_march f_13 f_m_ranMinutes f_m_tiredAhead f_m_isReached f_m_toEnd f_m_upTo f_m_upNext f_m_byChanges f_m_bandPaces) H → va_D A (wMD cy hm v_taped v_walkers v_loads v_pieces v_changeCosts v_planned v_isMarch v_clauseMany v_place v_end v_bad v_clauses v_codes v_open v_stacked v_isOver v_isBehind w_22 w_18 w_21 w_16 w_19 w_17 w_20 v_packing v_packed v_goPace v_goMinutes v_spentAt v_ranChanges f_m_tape f_m_knee f_m_weight f_m_isLame f_m_loadWeight f_m_owner f_m_food f_m_miles f_m_slope f_m_clauseLetter f_m_sumFrom f_m_codeFrom f_m_codeTo f_m_code f_m_codeArg f_m_newLetter f_m_newSum f_m_newFrom f_m_newTo f_m_newCode f_m_newArg f_m_stack f_14 f_12 f_m_least f_m_packPounds f_m_packOwner f_m_room f_m_givenTo f_m_canBe f_m_setPounds f_m_plainTime f_m_muleTime f_m_planTo f_m_march f_13 f_m_ranMinutes f_m_tiredAhead f_m_isReached f_m_toEnd f_m_upTo f_m_upNext f_m_byChanges f_m_bandPaces) → va_S A s.heap H locs → lv_has ls 5 [(3, .int l_15), (0, .ref (hm 0)), (1, .int many), (2, .int i)] → W p l e (gRm 5) s m args below meth c H locs 0 0 Q (F0 m 2 ls []) := by
    intro n
    induction n with
    | zero => intro f_12 f_13 f_14 l_15 w_16 w_17 w_18 w_19 w_20 w_21 w_22 hL2_23_0 hL2_23_1 hL2_23_2 hL2_23_3 hm; exact absurd hm (by omega)
    | succ n ih2_23 =>
      intro f_12 f_13 f_14 l_15 w_16 w_17 w_18 w_19 w_20 w_21 w_22 hL2_23_0 hL2_23_1 hL2_23_2 hL2_23_3 hmL2_23 H locs ls hP hD hS hl
      refine lv_iload_n hx hb dX10_rests_2 rfl (lv_at hl 0 rfl) ?_
      refine lv_iload_n hx hb dX10_rests_3 rfl (lv_at hl 2 rfl) ?_
      refine lv_icmp_ge (tgt := 101) hx hb dX10_rests_4 (by decide) (fun c_24 => ?_) (fun c_24 => ?_)
      · have gc_24 : many.toInt ≤ l_15.toInt := i_le (rfl : many.toInt = many.toInt) (rfl : l_15.toInt = l_15.toInt) c_24
        exact hrt w_22 w_18 w_21 w_16 w_19 w_17 w_20 f_14 f_12 f_13 ⟨(by omega), hL2_23_0, hL2_23_1⟩ hP hD hS dX10_rests_101
      · have gc_24 : l_15.toInt < many.toInt := i_nle (rfl : many.toInt = many.toInt) (rfl : l_15.toInt = l_15.toInt) c_24
        refine lv_iconst (v := 0) hx hb dX10_rests_7 (by decide) ?_
        refine lv_istore (lv' := [(4, .int 0), (3, .int l_15), (0, .ref (hm 0)), (1, .int many), (2, .int i)]) hx hb dX10_rests_8 hl (by decide) rfl (fun ls hl => ?_)
        have L10_47 : ∀ (n : Nat) (f_36 : Nat → Int32) (f_37 : Nat → Int32) (f_38 : Nat → Int32) (l_39 : Int32) (w_40 : Int32) (w_41 : Int32) (w_42 : Int32) (w_43 : Int32) (w_44 : Int32) (w_45 : Int32) (w_46 : Int32), (rg (0) 1 f_36) → (rg (0) 5 f_37) → (0 ≤ l_39.toInt ∧ l_39.toInt ≤ 6) → (0 ≤ w_46.toInt ∧ w_46.toInt ≤ 5) → 7 - l_39.toInt < n → ∀ (H : Heap) (locs : List Loc) (ls : Array Slot), va_P D vwCl (wMD cy hm v_taped v_walkers v_loads v_pieces v_changeCosts v_planned v_isMarch v_clauseMany v_place v_end v_bad v_clauses v_codes v_open v_stacked v_isOver v_isBehind w_46 w_42 w_45 w_40 w_43 w_41 w_44 v_packing v_packed v_goPace v_goMinutes v_spentAt v_ranChanges f_m_tape f_m_knee f_m_weight f_m_isLame f_m_loadWeight f_m_owner f_m_food f_m_miles f_m_slope f_m_clauseLetter f_m_sumFrom f_m_codeFrom f_m_codeTo f_m_code f_m_codeArg f_m_newLetter f_m_newSum f_m_newFrom f_m_newTo f_m_newCode f_m_newArg f_m_stack f_38 f_36 f_m_least f_m_packPounds f_m_packOwner f_m_room f_m_givenTo f_m_canBe f_m_setPounds f_m_plainTime f_m_muleTime f_m_planTo f_m_march f_37 f_m_ranMinutes f_m_tiredAhead f_m_isReached f_m_toEnd f_m_upTo f_m_upNext f_m_byChanges f_m_bandPaces) H → va_D A (wMD cy hm v_taped v_walkers v_loads v_pieces v_changeCosts v_planned v_isMarch v_clauseMany v_place v_end v_bad v_clauses v_codes v_open v_stacked v_isOver v_isBehind w_46 w_42 w_45 w_40 w_43 w_41 w_44 v_packing v_packed v_goPace v_goMinutes v_spentAt v_ranChanges f_m_tape f_m_knee f_m_weight f_m_isLame f_m_loadWeight f_m_owner f_m_food f_m_miles f_m_slope f_m_clauseLetter f_m_sumFrom f_m_codeFrom f_m_codeTo f_m_code f_m_codeArg f_m_newLetter f_m_newSum f_m_newFrom f_m_newTo f_m_newCode f_m_newArg f_m_stack f_38 f_36 f_m_least f_m_packPounds f_m_packOwner f_m_room f_m_givenTo f_m_canBe f_m_setPounds f_m_plainTime f_m_muleTime f_m_planTo f_m_march f_37 f_m_ranMinutes f_m_tiredAhead f_m_isReached f_m_toEnd f_m_upTo f_m_upNext f_m_byChanges f_m_bandPaces) → va_S A s.heap H locs → lv_has ls 5 [(4, .int l_39), (3, .int l_15), (0, .ref (hm 0)), (1, .int many), (2, .int i)] → W p l e (gRm 5) s m args below meth c H locs 0 0 Q (F0 m 10 ls []) := by
          intro n
          induction n with
          | zero => intro f_36 f_37 f_38 l_39 w_40 w_41 w_42 w_43 w_44 w_45 w_46 hL10_47_0 hL10_47_1 hL10_47_2 hL10_47_3 hm; exact absurd hm (by omega)
          | succ n ih10_47 =>
            intro f_36 f_37 f_38 l_39 w_40 w_41 w_42 w_43 w_44 w_45 w_46 hL10_47_0 hL10_47_1 hL10_47_2 hL10_47_3 hmL10_47 H locs ls hP hD hS hl
            refine lv_iload hx hb dX10_rests_10 (lv_at hl 0 rfl) ?_
            refine lv_aload_n hx hb dX10_rests_12 rfl (lv_at hl 2 rfl) ?_
            refine gt_MD_MD_walkers hx hb hts hown hK hP lwd_221 dX10_rests_13 ?_
            refine lv_icmp_ge (tgt := 95) hx hb dX10_rests_16 (by decide) (fun c_48 => ?_) (fun c_48 => ?_)
            · have gc_48 : v_walkers.toInt ≤ l_39.toInt := i_le (rfl : v_walkers.toInt = v_walkers.toInt) (rfl : l_39.toInt = l_39.toInt) c_48
              obtain ⟨n_49, en_49⟩ : ∃ y : Int32, y = l_15 + 1 := ⟨_, rfl⟩
              have tn_49 : n_49.toInt = l_15.toInt + 1 := i_add en_49 (rfl : l_15.toInt = l_15.toInt) (by decide : (1 : Int32).toInt = 1) (by omega) (by omega)
              refine lv_iinc (v := n_49) (lv' := [(3, .int n_49), (4, .int l_39), (0, .ref (hm 0)), (1, .int many), (2, .int i)]) hx hb dX10_rests_95 hl (k := 1) rfl (by rw [en_49]; rfl) (by decide) rfl (fun ls hl => ?_)
              refine lv_goto (tgt := 2) hx hb dX10_rests_98 (by decide) ?_
              exact ih2_23 f_36 f_37 f_38 n_49 w_40 w_41 w_42 w_43 w_44 w_45 w_46 hL10_47_0 hL10_47_1 (by omega) (by omega) (by omega) _ _ _ hP hD hS (lv_sub hl [0, 2, 3, 4] rfl)
            · have gc_48 : l_39.toInt < v_walkers.toInt := i_nle (rfl : v_walkers.toInt = v_walkers.toInt) (rfl : l_39.toInt = l_39.toInt) c_48
              refine lv_aload_n hx hb dX10_rests_19 rfl (lv_at hl 2 rfl) ?_
              refine lv_iload hx hb dX10_rests_20 (lv_at hl 0 rfl) ?_
              refine pt_MD_MD_atW (x := l_39) hx hb hts hown hK hP hD hS lwd_557 dX10_rests_22 (fun H locs hP hD hS => ?_)
              refine lv_aload_n hx hb dX10_rests_25 rfl (lv_at hl 2 rfl) ?_
              refine lv_iconst (v := 0) hx hb dX10_rests_26 (by decide) ?_
              refine pt_MD_MD_atL (x := 0) hx hb hts hown hK hP hD hS lwd_558 dX10_rests_27 (fun H locs hP hD hS => ?_)
              refine lv_aload_n hx hb dX10_rests_30 rfl (lv_at hl 2 rfl) ?_
              refine lv_aload_n hx hb dX10_rests_31 rfl (lv_at hl 2 rfl) ?_
              refine gt_MD_MD_tired hx hb hts hown hK hP lwd_191 dX10_rests_32 ?_
              refine lv_iload hx hb dX10_rests_35 (lv_at hl 0 rfl) ?_
              refine al_m_tired hx hb hK hP hL10_47_1 (i_in (rfl : l_39.toInt = l_39.toInt) (by omega) (by omega)) dX10_rests_37 (fun n_50 en_50 bn_50 => ?_)
              refine pt_MD_MD_atT (x := n_50) hx hb hts hown hK hP hD hS lwd_559 dX10_rests_38 (fun H locs hP hD hS => ?_)
              refine lv_aload_n hx hb dX10_rests_41 rfl (lv_at hl 2 rfl) ?_
              refine lv_iconst (v := 0) hx hb dX10_rests_42 (by decide) ?_
              refine pt_MD_MD_atH (x := 0) hx hb hts hown hK hP hD hS lwd_560 dX10_rests_43 (fun H locs hP hD hS => ?_)
              refine lv_aload_n hx hb dX10_rests_46 rfl (lv_at hl 2 rfl) ?_
              refine lv_iconst (v := 0) hx hb dX10_rests_47 (by decide) ?_
              refine pt_MD_MD_atM (x := 0) hx hb hts hown hK hP hD hS lwd_561 dX10_rests_48 (fun H locs hP hD hS => ?_)
              refine lv_aload_n hx hb dX10_rests_51 rfl (lv_at hl 2 rfl) ?_
              refine lv_iload_n hx hb dX10_rests_52 rfl (lv_at hl 4 rfl) ?_
              refine pt_MD_MD_atI (x := i) hx hb hts hown hK hP hD hS lwd_562 dX10_rests_53 (fun H locs hP hD hS => ?_)
              refine lv_aload_n hx hb dX10_rests_56 rfl (lv_at hl 2 rfl) ?_
              refine lv_iconst (v := 0) hx hb dX10_rests_57 (by decide) ?_
              refine pt_MD_MD_atQ (x := 0) hx hb hts hown hK hP hD hS lwd_563 dX10_rests_58 (fun H locs hP hD hS => ?_)
              refine lv_aload_n hx hb dX10_rests_61 rfl (lv_at hl 2 rfl) ?_
              refine gt_MD_MD_tired hx hb hts hown hK hP lwd_191 dX10_rests_62 ?_
              refine lv_iload hx hb dX10_rests_65 (lv_at hl 0 rfl) ?_
              refine lv_aload_n hx hb dX10_rests_67 rfl (lv_at hl 2 rfl) ?_
              refine gt_MD_MD_tired hx hb hts hown hK hP lwd_191 dX10_rests_68 ?_
              refine lv_iload hx hb dX10_rests_71 (lv_at hl 0 rfl) ?_
              refine al_m_tired hx hb hK hP hL10_47_1 (i_in (rfl : l_39.toInt = l_39.toInt) (by omega) (by omega)) dX10_rests_73 (fun n_51 en_51 bn_51 => ?_)
              obtain rfl : n_50 = n_51 := en_50.trans en_51.symm
              refine lv_aload_n hx hb dX10_rests_74 rfl (lv_at hl 2 rfl) ?_
              refine lv_bipush (v := 114) hx hb dX10_rests_75 (by decide) ?_
              refine lv_iconst (v := 0) hx hb dX10_rests_77 (by decide) ?_
              refine lv_iconst (v := 5) hx hb dX10_rests_78 (by decide) ?_
              have k_52 : (114 : Int32).toInt = 114 := by decide
              have k_53 : (0 : Int32).toInt = 0 := by decide
              have k_54 : (5 : Int32).toInt = 5 := by decide
              refine xi hD hS hA (xV (As := [.int 114, .int 0, .int 5]) (rest := [.int n_50, .int l_39, .ref (hm 36)]) hx hb hml hown hts hK hP hD hS hA NT_ok hN hAe hl.1 ⟨Nat.le_refl _, Nat.le_refl _⟩ 0 rfl rfl rfl (c_X10_tells l D cy hm v_taped v_walkers v_loads v_pieces v_changeCosts v_planned v_isMarch v_clauseMany v_place v_end v_bad v_clauses v_codes v_open v_stacked v_isOver v_isBehind l_39 0 n_50 0 0 i 0 v_packing v_packed v_goPace v_goMinutes v_spentAt v_ranChanges f_m_tape f_m_knee f_m_weight f_m_isLame f_m_loadWeight f_m_owner f_m_food f_m_miles f_m_slope f_m_clauseLetter f_m_sumFrom f_m_codeFrom f_m_codeTo f_m_code f_m_codeArg f_m_newLetter f_m_newSum f_m_newFrom f_m_newTo f_m_newCode f_m_newArg f_m_stack f_38 f_36 f_m_least f_m_packPounds f_m_packOwner f_m_room f_m_givenTo f_m_canBe f_m_setPounds f_m_plainTime f_m_muleTime f_m_planTo f_m_march f_37 f_m_ranMinutes f_m_tiredAhead f_m_isReached f_m_toEnd f_m_upTo f_m_upNext f_m_byChanges f_m_bandPaces H.size 114 0 5 (by omega) (by omega) (by omega) hr_m_weight hL10_47_0 hwf (by omega)) (gi_V lwd_564 lwd_565 lwd_566 lwd_5 lwd_567) ⟨rfl, hd_X10_tells⟩ ⟨Nat.le_of_ble_eq_true rfl, Nat.le_of_ble_eq_true rfl⟩ rfl (Nat.le_of_ble_eq_true rfl) dX10_rests_79) (fun r_56 u_55 H locs hw hP hD hS => ?_)
              obtain ⟨zworth_57, zisRefused_58⟩ := u_55
              try dsimp only at hw hP hD
              obtain ⟨p_59, p_60⟩ := hw
              refine lv_isub hx hb dX10_rests_82 ?_
              refine lv_topi (fun n_61 en_61 => ?_)
              have tn_61 : n_61.toInt = n_50.toInt - r_56.toInt := i_sub en_61 (rfl : n_50.toInt = n_50.toInt) (rfl : r_56.toInt = r_56.toInt) (by omega) (by omega)
              refine lv_iconst (v := 0) hx hb dX10_rests_83 (by decide) ?_
              refine lv_iconst (v := 5) hx hb dX10_rests_84 (by decide) ?_
              refine xi hD hS hA (xS (As := [.int n_61, .int 0, .int 5]) (rest := [.int l_39, .ref (hm 36)]) hx hb hml hown hts hK hP hD hS hA NT_ok hN hAe hl.1 ⟨Nat.le_refl _, Nat.le_refl _⟩ (c_X10_held l D cy hm v_taped v_walkers v_loads v_pieces v_changeCosts v_planned v_isMarch v_clauseMany v_place v_end v_bad v_clauses v_codes v_open v_stacked v_isOver v_isBehind l_39 0 n_50 0 0 i 0 v_packing v_packed v_goPace v_goMinutes v_spentAt v_ranChanges f_m_tape f_m_knee f_m_weight f_m_isLame f_m_loadWeight f_m_owner f_m_food f_m_miles f_m_slope f_m_clauseLetter f_m_sumFrom f_m_codeFrom f_m_codeTo f_m_code f_m_codeArg f_m_newLetter f_m_newSum f_m_newFrom f_m_newTo f_m_newCode f_m_newArg f_m_stack zworth_57 zisRefused_58 f_m_least f_m_packPounds f_m_packOwner f_m_room f_m_givenTo f_m_canBe f_m_setPounds f_m_plainTime f_m_muleTime f_m_planTo f_m_march f_37 f_m_ranMinutes f_m_tiredAhead f_m_isReached f_m_toEnd f_m_upTo f_m_upNext f_m_byChanges f_m_bandPaces H.size n_61 0 5 (by omega)) (gi_S lwd_583 lwd_584 lwd_5 lwd_585) hd_X10_held ⟨Nat.le_of_ble_eq_true rfl, Nat.le_of_ble_eq_true rfl⟩ rfl (Nat.le_of_ble_eq_true rfl) dX10_rests_85) (fun r_63 u_62 H locs hw hP hD hS => ?_)
              try dsimp only at hw hP hD
              have p_64 := hw
              clear hw
              refine as_m_tired (x := r_63) hx hb hK hP hD hS hL10_47_1 (i_in (rfl : l_39.toInt = l_39.toInt) (by omega) (by omega)) (by omega) dX10_rests_88 (fun f_65 ef_65 rf_65 H locs hP hD hS => ?_)
              obtain ⟨n_66, en_66⟩ : ∃ y : Int32, y = l_39 + 1 := ⟨_, rfl⟩
              have tn_66 : n_66.toInt = l_39.toInt + 1 := i_add en_66 (rfl : l_39.toInt = l_39.toInt) (by decide : (1 : Int32).toInt = 1) (by omega) (by omega)
              refine lv_iinc (v := n_66) (lv' := [(4, .int n_66), (3, .int l_15), (0, .ref (hm 0)), (1, .int many), (2, .int i)]) hx hb dX10_rests_89 hl (k := 0) rfl (by rw [en_66]; rfl) (by decide) rfl (fun ls hl => ?_)
              refine lv_goto (tgt := 10) hx hb dX10_rests_92 (by decide) ?_
              have k_67 : (0 : Int32).toInt = 0 := by decide
              have k_68 : (0 : Int32).toInt = 0 := by decide
              have k_69 : (0 : Int32).toInt = 0 := by decide
              have k_70 : (0 : Int32).toInt = 0 := by decide
              exact ih10_47 zisRefused_58 f_65 zworth_57 n_66 0 i 0 0 0 n_50 l_39 p_60 rf_65 (by omega) (by omega) (by omega) _ _ _ hP hD hS (lv_sub hl [0, 1, 2, 3, 4] rfl)
        have k_71 : (0 : Int32).toInt = 0 := by decide
        exact L10_47 8589934592 f_12 f_13 f_14 0 w_16 w_17 w_18 w_19 w_20 w_21 w_22 hL2_23_0 hL2_23_1 (by omega) (by omega) (by omega) _ _ _ hP hD hS (lv_sub hl [0, 1, 2, 3, 4] rfl)
  have k_72 : (0 : Int32).toInt = 0 := by decide
  exact L2_23 8589934592 f_m_isRefused f_m_tired f_m_worth 0 v_atH v_atI v_atL v_atM v_atQ v_atT v_atW hr_m_isRefused hr_m_tired (by omega) (by omega) (by omega) _ _ _ hP hD hS (lv_sub hl [0, 1, 2, 3] rfl)
set_option maxHeartbeats 16000000 in
set_option maxRecDepth 100000 in
theorem c_X10_bandPace (l : Launch) (D : va_G) (cy : Nat → ClassId) (hm : Nat → Nat) (v_taped v_walkers v_loads v_pieces v_changeCosts v_planned v_isMarch v_clauseMany v_place v_end v_bad v_clauses v_codes v_open v_stacked v_isOver v_isBehind v_atW v_atL v_atT v_atH v_atM v_atI v_atQ v_packing v_packed v_goPace v_goMinutes v_spentAt v_ranChanges : Int32) (f_m_tape f_m_knee f_m_weight f_m_isLame f_m_loadWeight f_m_owner f_m_food f_m_miles f_m_slope f_m_clauseLetter f_m_sumFrom f_m_codeFrom f_m_codeTo f_m_code f_m_codeArg f_m_newLetter f_m_newSum f_m_newFrom f_m_newTo f_m_newCode f_m_newArg f_m_stack f_m_worth f_m_isRefused f_m_least f_m_packPounds f_m_packOwner f_m_room f_m_givenTo f_m_canBe f_m_setPounds f_m_plainTime f_m_muleTime f_m_planTo f_m_march f_m_tired f_m_ranMinutes f_m_tiredAhead f_m_isReached f_m_toEnd f_m_upTo f_m_upNext f_m_byChanges f_m_bandPaces : Nat → Int32) (sz : Nat) (k : Int32) (i : Int32) (hb_v_walkers : 0 ≤ v_walkers.toInt ∧ v_walkers.toInt ≤ 6) (hb_v_loads : 0 ≤ v_loads.toInt ∧ v_loads.toInt ≤ 9) (hb_v_clauseMany : 0 ≤ v_clauseMany.toInt ∧ v_clauseMany.toInt ≤ 14) (hb_v_atW : 0 ≤ v_atW.toInt ∧ v_atW.toInt ≤ 5) (hr_m_weight : rg (0) 250 f_m_weight) (hr_m_isLame : rg (0) 1 f_m_isLame) (hr_m_loadWeight : rg (0) 120 f_m_loadWeight) (hr_m_food : rg (0) 20 f_m_food) (hr_m_miles : rg (0) 20 f_m_miles) (hr_m_isRefused : rg (0) 1 f_m_isRefused) (hr_m_tired : rg (0) 5 f_m_tired) (ha_k : 0 ≤ k.toInt ∧ k.toInt ≤ 5) (ha_i : 0 ≤ i.toInt ∧ i.toInt ≤ 9) (hwf : wfC v_clauseMany f_m_sumFrom f_m_codeFrom f_m_codeTo f_m_code) : gMi l yX10_bandPace cX10_bandPace 6 .int 6 [.ref (hm 0), .int k, .int i] D cy (wMD cy hm v_taped v_walkers v_loads v_pieces v_changeCosts v_planned v_isMarch v_clauseMany v_place v_end v_bad v_clauses v_codes v_open v_stacked v_isOver v_isBehind v_atW v_atL v_atT v_atH v_atM v_atI v_atQ v_packing v_packed v_goPace v_goMinutes v_spentAt v_ranChanges f_m_tape f_m_knee f_m_weight f_m_isLame f_m_loadWeight f_m_owner f_m_food f_m_miles f_m_slope f_m_clauseLetter f_m_sumFrom f_m_codeFrom f_m_codeTo f_m_code f_m_codeArg f_m_newLetter f_m_newSum f_m_newFrom f_m_newTo f_m_newCode f_m_newArg f_m_stack f_m_worth f_m_isRefused f_m_least f_m_packPounds f_m_packOwner f_m_room f_m_givenTo f_m_canBe f_m_setPounds f_m_plainTime f_m_muleTime f_m_planTo f_m_march f_m_tired f_m_ranMinutes f_m_tiredAhead f_m_isReached f_m_toEnd f_m_upTo f_m_upNext f_m_byChanges f_m_bandPaces) NT sz (fun (r : Int32) (u : Int32 × Int32 × Int32 × Int32 × Int32 × Int32 × Int32 × (Nat → Int32) × (Nat → Int32)) => (0 ≤ r.toInt ∧ r.toInt ≤ 60) ∧ (0 ≤ (u.1).toInt ∧ (u.1).toInt ≤ 5) ∧ (rg (0) 1 (u.2.2.2.2.2.2.2.2))) (fun u => wMD cy hm v_taped v_walkers v_loads v_pieces v_changeCosts v_planned v_isMarch v_clauseMany v_place v_end v_bad v_clauses v_codes v_open v_stacked v_isOver v_isBehind (u.1) (u.2.1) (u.2.2.1) (u.2.2.2.1) (u.2.2.2.2.1) (u.2.2.2.2.2.1) (u.2.2.2.2.2.2.1) v_packing v_packed v_goPace v_goMinutes v_spentAt v_ranChanges f_m_tape f_m_knee f_m_weight f_m_isLame f_m_loadWeight f_m_owner f_m_food f_m_miles f_m_slope f_m_clauseLetter f_m_sumFrom f_m_codeFrom f_m_codeTo f_m_code f_m_codeArg f_m_newLetter f_m_newSum f_m_newFrom f_m_newTo f_m_newCode f_m_newArg f_m_stack (u.2.2.2.2.2.2.2.1) (u.2.2.2.2.2.2.2.2) f_m_least f_m_packPounds f_m_packOwner f_m_room f_m_givenTo f_m_canBe f_m_setPounds f_m_plainTime f_m_muleTime f_m_planTo f_m_march f_m_tired f_m_ranMinutes f_m_tiredAhead f_m_isReached f_m_toEnd f_m_upTo f_m_upNext f_m_byChanges f_m_bandPaces) := by
  refine gMi_in (by decide) (Nat.le_of_ble_eq_true rfl) ?_
  intro p e s m args below meth c A ls Q hx hb hml hts hown hsz hP hK hD hN hAe hA hS hl hret
  subst hsz
  have hl : lv_has ls 6 [(0, .ref (hm 0)), (1, .int k), (2, .int i)] := hl
  have hrt := fun (r : Int32) (v_atW' : Int32) (v_atL' : Int32) (v_atT' : Int32) (v_atH' : Int32) (v_atM' : Int32) (v_atI' : Int32) (v_atQ' : Int32) (f_m_worth' : Nat → Int32) (f_m_isRefused' : Nat → Int32) (hp : (0 ≤ r.toInt ∧ r.toInt ≤ 60) ∧ (0 ≤ v_atW'.toInt ∧ v_atW'.toInt ≤ 5) ∧ (rg (0) 1 f_m_isRefused')) {H : Heap} {locs : List Loc} {pc : Nat} {ls : Array Slot} => hret r (v_atW', v_atL', v_atT', v_atH', v_atM', v_atI', v_atQ', f_m_worth', f_m_isRefused') (H := H) (locs := locs) (pc := pc) (ls := ls) hp
  clear hret
  refine lv_bipush (v := 60) hx hb dX10_bandPace_0 (by decide) ?_
  refine lv_istore_n (lv' := [(3, .int 60), (0, .ref (hm 0)), (1, .int k), (2, .int i)]) hx hb dX10_bandPace_2 rfl hl (by decide) rfl (fun ls hl => ?_)
  refine lv_iconst (v := 0) hx hb dX10_bandPace_3 (by decide) ?_
  refine lv_istore (lv' := [(4, .int 0), (3, .int 60), (0, .ref (hm 0)), (1, .int k), (2, .int i)]) hx hb dX10_bandPace_4 hl (by decide) rfl (fun ls hl => ?_)
  have L6_23 : ∀ (n : Nat) (f_12 : Nat → Int32) (f_13 : Nat → Int32) (l_14 : Int32) (l_15 : Int32) (w_16 : Int32) (w_17 : Int32) (w_18 : Int32) (w_19 : Int32) (w_20 : Int32) (w_21 : Int32) (w_22 : Int32), (rg (0) 1 f_12) → (0 ≤ l_14.toInt ∧ l_14.toInt ≤ 60) → (0 ≤ l_15.toInt ∧ l_15.toInt ≤ 6) → (0 ≤ w_22.toInt ∧ w_22.toInt ≤ 5) → 7 - l_15.toInt < n → ∀ (H : Heap) (locs : List Loc) (ls : Array Slot), va_P D vwCl (wMD cy hm v_taped v_walkers v_loads v_pieces v_changeCosts v_planned v_isMarch v_clauseMany v_place v_end v_bad v_clauses v_codes v_open v_stacked v_isOver v_isBehind w_22 w_18 w_21 w_16 w_19 w_17 w_20 v_packing v_packed v_goPace v_goMinutes v_spentAt v_ranChanges f_m_tape f_m_knee f_m_weight f_m_isLame f_m_loadWeight f_m_owner f_m_food f_m_miles f_m_slope f_m_clauseLetter f_m_sumFrom f_m_codeFrom f_m_codeTo f_m_code f_m_codeArg f_m_newLetter f_m_newSum f_m_newFrom f_m_newTo f_m_newCode f_m_newArg f_m_stack f_13 f_12 f_m_least f_m_packPounds f_m_packOwner f_m_room f_m_givenTo f_m_canBe f_m_setPounds f_m_plainTime f_m_muleTime f_m_planTo f_m_march f_m_tired f_m_ranMinutes f_m_tiredAhead f_m_isReached f_m_toEnd f_m_upTo f_m_upNext f_m_byChanges f_m_bandPaces) H → va_D A (wMD cy hm v_taped v_walkers v_loads v_pieces v_changeCosts v_planned v_isMarch v_clauseMany v_place v_end v_bad v_clauses v_codes v_open v_stacked v_isOver v_isBehind w_22 w_18 w_21 w_16 w_19 w_17 w_20 v_packing v_packed v_goPace v_goMinutes v_spentAt v_ranChanges f_m_tape f_m_knee f_m_weight f_m_isLame f_m_loadWeight f_m_owner f_m_food f_m_miles f_m_slope f_m_clauseLetter f_m_sumFrom f_m_codeFrom f_m_codeTo f_m_code f_m_codeArg f_m_newLetter f_m_newSum f_m_newFrom f_m_newTo f_m_newCode f_m_newArg f_m_stack f_13 f_12 f_m_least f_m_packPounds f_m_packOwner f_m_room f_m_givenTo f_m_canBe f_m_setPounds f_m_plainTime f_m_muleTime f_m_planTo f_m_march f_m_tired f_m_ranMinutes f_m_tiredAhead f_m_isReached f_m_toEnd f_m_upTo f_m_upNext f_m_byChanges f_m_bandPaces) → va_S A s.heap H locs → lv_has ls 6 [(4, .int l_15), (3, .int l_14), (0, .ref (hm 0)), (1, .int k), (2, .int i)] → W p l e (gRm 6) s m args below meth c H locs 0 0 Q (F0 m 6 ls []) := by
    intro n
    induction n with
    | zero => intro f_12 f_13 l_14 l_15 w_16 w_17 w_18 w_19 w_20 w_21 w_22 hL6_23_0 hL6_23_1 hL6_23_2 hL6_23_3 hm; exact absurd hm (by omega)
    | succ n ih6_23 =>
      intro f_12 f_13 l_14 l_15 w_16 w_17 w_18 w_19 w_20 w_21 w_22 hL6_23_0 hL6_23_1 hL6_23_2 hL6_23_3 hmL6_23 H locs ls hP hD hS hl
      refine lv_iload hx hb dX10_bandPace_6 (lv_at hl 0 rfl) ?_
      refine lv_aload_n hx hb dX10_bandPace_8 rfl (lv_at hl 2 rfl) ?_
      refine gt_MD_MD_walkers hx hb hts hown hK hP lwd_221 dX10_bandPace_9 ?_
      refine lv_icmp_ge (tgt := 59) hx hb dX10_bandPace_12 (by decide) (fun c_24 => ?_) (fun c_24 => ?_)
      · have gc_24 : v_walkers.toInt ≤ l_15.toInt := i_le (rfl : v_walkers.toInt = v_walkers.toInt) (rfl : l_15.toInt = l_15.toInt) c_24
        refine lv_iload_n hx hb dX10_bandPace_59 rfl (lv_at hl 1 rfl) ?_
        exact hrt l_14 w_22 w_18 w_21 w_16 w_19 w_17 w_20 f_13 f_12 ⟨(by omega), (by omega), hL6_23_0⟩ hP hD hS rfl dX10_bandPace_60
      · have gc_24 : l_15.toInt < v_walkers.toInt := i_nle (rfl : v_walkers.toInt = v_walkers.toInt) (rfl : l_15.toInt = l_15.toInt) c_24
        refine lv_aload_n hx hb dX10_bandPace_15 rfl (lv_at hl 2 rfl) ?_
        refine lv_iload hx hb dX10_bandPace_16 (lv_at hl 0 rfl) ?_
        refine lv_aload_n hx hb dX10_bandPace_18 rfl (lv_at hl 2 rfl) ?_
        refine lv_iload hx hb dX10_bandPace_19 (lv_at hl 0 rfl) ?_
        refine lv_iload_n hx hb dX10_bandPace_21 rfl (lv_at hl 3 rfl) ?_
        refine lv_iload_n hx hb dX10_bandPace_22 rfl (lv_at hl 4 rfl) ?_
        refine xi hD hS hA (xV (As := [.int l_15, .int k, .int i]) (rest := [.int l_15, .ref (hm 0)]) hx hb hml hown hts hK hP hD hS hA NT_ok hN hAe hl.1 ⟨Nat.le_refl _, Nat.le_refl _⟩ 0 rfl rfl rfl (c_X10_carriedBy l D cy hm v_taped v_walkers v_loads v_pieces v_changeCosts v_planned v_isMarch v_clauseMany v_place v_end v_bad v_clauses v_codes v_open v_stacked v_isOver v_isBehind w_22 w_18 w_21 w_16 w_19 w_17 w_20 v_packing v_packed v_goPace v_goMinutes v_spentAt v_ranChanges f_m_tape f_m_knee f_m_weight f_m_isLame f_m_loadWeight f_m_owner f_m_food f_m_miles f_m_slope f_m_clauseLetter f_m_sumFrom f_m_codeFrom f_m_codeTo f_m_code f_m_codeArg f_m_newLetter f_m_newSum f_m_newFrom f_m_newTo f_m_newCode f_m_newArg f_m_stack f_13 f_12 f_m_least f_m_packPounds f_m_packOwner f_m_room f_m_givenTo f_m_canBe f_m_setPounds f_m_plainTime f_m_muleTime f_m_planTo f_m_march f_m_tired f_m_ranMinutes f_m_tiredAhead f_m_isReached f_m_toEnd f_m_upTo f_m_upNext f_m_byChanges f_m_bandPaces H.size l_15 k i (by omega) hr_m_loadWeight hr_m_food (by omega) (by omega)) (gi_V lwd_1008 lwd_1009 lwd_1010 lwd_5 lwd_1011) ⟨rfl, hd_X10_carriedBy⟩ ⟨Nat.le_of_ble_eq_true rfl, Nat.le_of_ble_eq_true rfl⟩ rfl (Nat.le_of_ble_eq_true rfl) dX10_bandPace_23) (fun r_26 u_25 H locs hw hP hD hS => ?_)
        try dsimp only at hw hP hD
        clear hw
        refine lv_aload_n hx hb dX10_bandPace_26 rfl (lv_at hl 2 rfl) ?_
        refine gt_MD_MD_tired hx hb hts hown hK hP lwd_191 dX10_bandPace_27 ?_
        refine lv_iload hx hb dX10_bandPace_30 (lv_at hl 0 rfl) ?_
        refine al_m_tired hx hb hK hP hr_m_tired (i_in (rfl : l_15.toInt = l_15.toInt) (by omega) (by omega)) dX10_bandPace_32 (fun n_27 en_27 bn_27 => ?_)
        refine lv_iload_n hx hb dX10_bandPace_33 rfl (lv_at hl 4 rfl) ?_
        refine lv_iconst (v := 0) hx hb dX10_bandPace_34 (by decide) ?_
        have k_28 : (0 : Int32).toInt = 0 := by decide
        refine xi hD hS hA (xV (As := [.int l_15, .int r_26, .int n_27, .int i, .int 0]) (rest := []) hx hb hml hown hts hK hP hD hS hA NT_ok hN hAe hl.1 ⟨Nat.le_refl _, Nat.le_refl _⟩ 0 rfl rfl rfl (c_X10_paceOf l D cy hm v_taped v_walkers v_loads v_pieces v_changeCosts v_planned v_isMarch v_clauseMany v_place v_end v_bad v_clauses v_codes v_open v_stacked v_isOver v_isBehind w_22 w_18 w_21 w_16 w_19 w_17 w_20 v_packing v_packed v_goPace v_goMinutes v_spentAt v_ranChanges f_m_tape f_m_knee f_m_weight f_m_isLame f_m_loadWeight f_m_owner f_m_food f_m_miles f_m_slope f_m_clauseLetter f_m_sumFrom f_m_codeFrom f_m_codeTo f_m_code f_m_codeArg f_m_newLetter f_m_newSum f_m_newFrom f_m_newTo f_m_newCode f_m_newArg f_m_stack f_13 f_12 f_m_least f_m_packPounds f_m_packOwner f_m_room f_m_givenTo f_m_canBe f_m_setPounds f_m_plainTime f_m_muleTime f_m_planTo f_m_march f_m_tired f_m_ranMinutes f_m_tiredAhead f_m_isReached f_m_toEnd f_m_upTo f_m_upNext f_m_byChanges f_m_bandPaces H.size l_15 r_26 n_27 i 0 (by omega) (by omega) (by omega) hr_m_weight hr_m_isLame hr_m_miles hL6_23_0 (by omega) (by omega) (by omega) hwf) (gi_V lwd_553 lwd_554 lwd_555 lwd_5 lwd_556) ⟨rfl, hd_X10_paceOf⟩ ⟨Nat.le_of_ble_eq_true rfl, Nat.le_of_ble_eq_true rfl⟩ rfl (Nat.le_of_ble_eq_true rfl) dX10_bandPace_35) (fun r_30 u_29 H locs hw hP hD hS => ?_)
        obtain ⟨zatW_31, zatL_32, zatT_33, zatH_34, zatM_35, zatI_36, zatQ_37, zworth_38, zisRefused_39⟩ := u_29
        try dsimp only at hw hP hD
        obtain ⟨p_40, p_41, p_42⟩ := hw
        refine lv_istore (lv' := [(5, .int r_30), (4, .int l_15), (3, .int l_14), (0, .ref (hm 0)), (1, .int k), (2, .int i)]) hx hb dX10_bandPace_38 hl (by decide) rfl (fun ls hl => ?_)
        refine lv_iload hx hb dX10_bandPace_40 (lv_at hl 0 rfl) ?_
        refine lv_iload_n hx hb dX10_bandPace_42 rfl (lv_at hl 2 rfl) ?_
        refine lv_icmp_ge (tgt := 51) hx hb dX10_bandPace_43 (by decide) (fun c_43 => ?_) (fun c_43 => ?_)
        · have gc_43 : l_14.toInt ≤ r_30.toInt := i_le (rfl : l_14.toInt = l_14.toInt) (rfl : r_30.toInt = r_30.toInt) c_43
          refine lv_iload_n hx hb dX10_bandPace_51 rfl (lv_at hl 2 rfl) ?_
          refine lv_istore_n (lv' := [(3, .int l_14), (5, .int r_30), (4, .int l_15), (0, .ref (hm 0)), (1, .int k), (2, .int i)]) hx hb dX10_bandPace_52 rfl hl (by decide) rfl (fun ls hl => ?_)
          obtain ⟨n_44, en_44⟩ : ∃ y : Int32, y = l_15 + 1 := ⟨_, rfl⟩
          have tn_44 : n_44.toInt = l_15.toInt + 1 := i_add en_44 (rfl : l_15.toInt = l_15.toInt) (by decide : (1 : Int32).toInt = 1) (by omega) (by omega)
          refine lv_iinc (v := n_44) (lv' := [(4, .int n_44), (3, .int l_14), (5, .int r_30), (0, .ref (hm 0)), (1, .int k), (2, .int i)]) hx hb dX10_bandPace_53 hl (k := 2) rfl (by rw [en_44]; rfl) (by decide) rfl (fun ls hl => ?_)
          refine lv_goto (tgt := 6) hx hb dX10_bandPace_56 (by decide) ?_
          exact ih6_23 zisRefused_39 zworth_38 l_14 n_44 zatH_34 zatI_36 zatL_32 zatM_35 zatQ_37 zatT_33 zatW_31 p_42 (by omega) (by omega) (by omega) (by omega) _ _ _ hP hD hS (lv_sub hl [0, 1, 3, 4, 5] rfl)
        · have gc_43 : r_30.toInt < l_14.toInt := i_nle (rfl : l_14.toInt = l_14.toInt) (rfl : r_30.toInt = r_30.toInt) c_43
          refine lv_iload hx hb dX10_bandPace_46 (lv_at hl 0 rfl) ?_
          refine lv_goto (tgt := 52) hx hb dX10_bandPace_48 (by decide) ?_
          refine lv_istore_n (lv' := [(3, .int r_30), (5, .int r_30), (4, .int l_15), (0, .ref (hm 0)), (1, .int k), (2, .int i)]) hx hb dX10_bandPace_52 rfl hl (by decide) rfl (fun ls hl => ?_)
          obtain ⟨n_45, en_45⟩ : ∃ y : Int32, y = l_15 + 1 := ⟨_, rfl⟩
          have tn_45 : n_45.toInt = l_15.toInt + 1 := i_add en_45 (rfl : l_15.toInt = l_15.toInt) (by decide : (1 : Int32).toInt = 1) (by omega) (by omega)
          refine lv_iinc (v := n_45) (lv' := [(4, .int n_45), (3, .int r_30), (5, .int r_30), (0, .ref (hm 0)), (1, .int k), (2, .int i)]) hx hb dX10_bandPace_53 hl (k := 2) rfl (by rw [en_45]; rfl) (by decide) rfl (fun ls hl => ?_)
          refine lv_goto (tgt := 6) hx hb dX10_bandPace_56 (by decide) ?_
          exact ih6_23 zisRefused_39 zworth_38 r_30 n_45 zatH_34 zatI_36 zatL_32 zatM_35 zatQ_37 zatT_33 zatW_31 p_42 (by omega) (by omega) (by omega) (by omega) _ _ _ hP hD hS (lv_sub hl [0, 1, 3, 4, 5] rfl)
  have k_46 : (60 : Int32).toInt = 60 := by decide
  have k_47 : (0 : Int32).toInt = 0 := by decide
  exact L6_23 8589934592 f_m_isRefused f_m_worth 60 0 v_atH v_atI v_atL v_atM v_atQ v_atT v_atW hr_m_isRefused (by omega) (by omega) (by omega) (by omega) _ _ _ hP hD hS (lv_sub hl [0, 1, 2, 3, 4] rfl)
set_option maxHeartbeats 16000000 in
set_option maxRecDepth 100000 in
theorem c_X10_goesOver (l : Launch) (D : va_G) (cy : Nat → ClassId) (hm : Nat → Nat) (v_taped v_walkers v_loads v_pieces v_changeCosts v_planned v_isMarch v_clauseMany v_place v_end v_bad v_clauses v_codes v_open v_stacked v_isOver v_isBehind v_atW v_atL v_atT v_atH v_atM v_atI v_atQ v_packing v_packed v_goPace v_goMinutes v_spentAt v_ranChanges : Int32) (f_m_tape f_m_knee f_m_weight f_m_isLame f_m_loadWeight f_m_owner f_m_food f_m_miles f_m_slope f_m_clauseLetter f_m_sumFrom f_m_codeFrom f_m_codeTo f_m_code f_m_codeArg f_m_newLetter f_m_newSum f_m_newFrom f_m_newTo f_m_newCode f_m_newArg f_m_stack f_m_worth f_m_isRefused f_m_least f_m_packPounds f_m_packOwner f_m_room f_m_givenTo f_m_canBe f_m_setPounds f_m_plainTime f_m_muleTime f_m_planTo f_m_march f_m_tired f_m_ranMinutes f_m_tiredAhead f_m_isReached f_m_toEnd f_m_upTo f_m_upNext f_m_byChanges f_m_bandPaces : Nat → Int32) (sz : Nat) (i : Int32) (act : Int32) (hb_v_walkers : 0 ≤ v_walkers.toInt ∧ v_walkers.toInt ≤ 6) (hb_v_loads : 0 ≤ v_loads.toInt ∧ v_loads.toInt ≤ 9) (hb_v_clauseMany : 0 ≤ v_clauseMany.toInt ∧ v_clauseMany.toInt ≤ 14) (hb_v_atW : 0 ≤ v_atW.toInt ∧ v_atW.toInt ≤ 5) (hb_v_goPace : 0 ≤ v_goPace.toInt ∧ v_goPace.toInt ≤ 60) (hr_m_weight : rg (0) 250 f_m_weight) (hr_m_isLame : rg (0) 1 f_m_isLame) (hr_m_loadWeight : rg (0) 120 f_m_loadWeight) (hr_m_food : rg (0) 20 f_m_food) (hr_m_miles : rg (0) 20 f_m_miles) (hr_m_isRefused : rg (0) 1 f_m_isRefused) (hr_m_tired : rg (0) 5 f_m_tired) (ha_i : 0 ≤ i.toInt ∧ i.toInt ≤ 9) (ha_act : 0 ≤ act.toInt ∧ act.toInt ≤ 17) (hwf : wfC v_clauseMany f_m_sumFrom f_m_codeFrom f_m_codeTo f_m_code) : gMi l yX10_goesOver cX10_goesOver 5 .boolean 7 [.ref (hm 0), .int i, .int act] D cy (wMD cy hm v_taped v_walkers v_loads v_pieces v_changeCosts v_planned v_isMarch v_clauseMany v_place v_end v_bad v_clauses v_codes v_open v_stacked v_isOver v_isBehind v_atW v_atL v_atT v_atH v_atM v_atI v_atQ v_packing v_packed v_goPace v_goMinutes v_spentAt v_ranChanges f_m_tape f_m_knee f_m_weight f_m_isLame f_m_loadWeight f_m_owner f_m_food f_m_miles f_m_slope f_m_clauseLetter f_m_sumFrom f_m_codeFrom f_m_codeTo f_m_code f_m_codeArg f_m_newLetter f_m_newSum f_m_newFrom f_m_newTo f_m_newCode f_m_newArg f_m_stack f_m_worth f_m_isRefused f_m_least f_m_packPounds f_m_packOwner f_m_room f_m_givenTo f_m_canBe f_m_setPounds f_m_plainTime f_m_muleTime f_m_planTo f_m_march f_m_tired f_m_ranMinutes f_m_tiredAhead f_m_isReached f_m_toEnd f_m_upTo f_m_upNext f_m_byChanges f_m_bandPaces) NT sz (fun (r : Int32) (u : Int32 × Int32 × Int32 × Int32 × Int32 × Int32 × Int32 × Int32 × Int32 × (Nat → Int32) × (Nat → Int32) × (Nat → Int32)) => (0 ≤ r.toInt ∧ r.toInt ≤ 1) ∧ (0 ≤ (u.1).toInt ∧ (u.1).toInt ≤ 5) ∧ (0 ≤ (u.2.2.2.2.2.2.2.1).toInt ∧ (u.2.2.2.2.2.2.2.1).toInt ≤ 60) ∧ (rg (0) 1 (u.2.2.2.2.2.2.2.2.2.2.1)) ∧ (rg (0) 5 (u.2.2.2.2.2.2.2.2.2.2.2))) (fun u => wMD cy hm v_taped v_walkers v_loads v_pieces v_changeCosts v_planned v_isMarch v_clauseMany v_place v_end v_bad v_clauses v_codes v_open v_stacked v_isOver v_isBehind (u.1) (u.2.1) (u.2.2.1) (u.2.2.2.1) (u.2.2.2.2.1) (u.2.2.2.2.2.1) (u.2.2.2.2.2.2.1) v_packing v_packed (u.2.2.2.2.2.2.2.1) (u.2.2.2.2.2.2.2.2.1) v_spentAt v_ranChanges f_m_tape f_m_knee f_m_weight f_m_isLame f_m_loadWeight f_m_owner f_m_food f_m_miles f_m_slope f_m_clauseLetter f_m_sumFrom f_m_codeFrom f_m_codeTo f_m_code f_m_codeArg f_m_newLetter f_m_newSum f_m_newFrom f_m_newTo f_m_newCode f_m_newArg f_m_stack (u.2.2.2.2.2.2.2.2.2.1) (u.2.2.2.2.2.2.2.2.2.2.1) f_m_least f_m_packPounds f_m_packOwner f_m_room f_m_givenTo f_m_canBe f_m_setPounds f_m_plainTime f_m_muleTime f_m_planTo f_m_march (u.2.2.2.2.2.2.2.2.2.2.2) f_m_ranMinutes f_m_tiredAhead f_m_isReached f_m_toEnd f_m_upTo f_m_upNext f_m_byChanges f_m_bandPaces) := by
  refine gMi_in (by decide) (Nat.le_of_ble_eq_true rfl) ?_
  intro p e s m args below meth c A ls Q hx hb hml hts hown hsz hP hK hD hN hAe hA hS hl hret
  subst hsz
  have hl : lv_has ls 5 [(0, .ref (hm 0)), (1, .int i), (2, .int act)] := hl
  have hrt := fun (r : Int32) (v_atW' : Int32) (v_atL' : Int32) (v_atT' : Int32) (v_atH' : Int32) (v_atM' : Int32) (v_atI' : Int32) (v_atQ' : Int32) (v_goPace' : Int32) (v_goMinutes' : Int32) (f_m_worth' : Nat → Int32) (f_m_isRefused' : Nat → Int32) (f_m_tired' : Nat → Int32) (hp : (0 ≤ r.toInt ∧ r.toInt ≤ 1) ∧ (0 ≤ v_atW'.toInt ∧ v_atW'.toInt ≤ 5) ∧ (0 ≤ v_goPace'.toInt ∧ v_goPace'.toInt ≤ 60) ∧ (rg (0) 1 f_m_isRefused') ∧ (rg (0) 5 f_m_tired')) {H : Heap} {locs : List Loc} {pc : Nat} {ls : Array Slot} => hret r (v_atW', v_atL', v_atT', v_atH', v_atM', v_atI', v_atQ', v_goPace', v_goMinutes', f_m_worth', f_m_isRefused', f_m_tired') (H := H) (locs := locs) (pc := pc) (ls := ls) hp
  clear hret
  refine lv_iload_n hx hb dX10_goesOver_0 rfl (lv_at hl 2 rfl) ?_
  refine lv_bipush (v := 6) hx hb dX10_goesOver_1 (by decide) ?_
  refine lv_irem hx hb dX10_goesOver_3 (by decide) ?_
  refine lv_topi (fun n_1 en_1 => ?_)
  have tn_1 : n_1.toInt = act.toInt % 6 := i_rem en_1 (rfl : act.toInt = act.toInt) (by decide : (6 : Int32).toInt = 6) (by omega) (by omega)
  refine lv_istore_n (lv' := [(3, .int n_1), (0, .ref (hm 0)), (1, .int i), (2, .int act)]) hx hb dX10_goesOver_4 rfl hl (by decide) rfl (fun ls hl => ?_)
  refine lv_aload_n hx hb dX10_goesOver_5 rfl (lv_at hl 1 rfl) ?_
  refine lv_iload_n hx hb dX10_goesOver_6 rfl (lv_at hl 3 rfl) ?_
  refine lv_bipush (v := 6) hx hb dX10_goesOver_7 (by decide) ?_
  refine lv_idiv hx hb dX10_goesOver_9 (by decide) ?_
  refine lv_topi (fun n_2 en_2 => ?_)
  have tn_2 : n_2.toInt = act.toInt / 6 := i_div en_2 (rfl : act.toInt = act.toInt) (by decide : (6 : Int32).toInt = 6) (by omega) (by omega)
  refine lv_iload_n hx hb dX10_goesOver_10 rfl (lv_at hl 2 rfl) ?_
  refine xv hD hS hA (xV (As := [.int n_2, .int i]) (rest := []) hx hb hml hown hts hK hP hD hS hA NT_ok hN hAe hl.1 ⟨Nat.le_refl _, Nat.le_refl _⟩ 0 rfl rfl rfl (c_X10_rests l D cy hm v_taped v_walkers v_loads v_pieces v_changeCosts v_planned v_isMarch v_clauseMany v_place v_end v_bad v_clauses v_codes v_open v_stacked v_isOver v_isBehind v_atW v_atL v_atT v_atH v_atM v_atI v_atQ v_packing v_packed v_goPace v_goMinutes v_spentAt v_ranChanges f_m_tape f_m_knee f_m_weight f_m_isLame f_m_loadWeight f_m_owner f_m_food f_m_miles f_m_slope f_m_clauseLetter f_m_sumFrom f_m_codeFrom f_m_codeTo f_m_code f_m_codeArg f_m_newLetter f_m_newSum f_m_newFrom f_m_newTo f_m_newCode f_m_newArg f_m_stack f_m_worth f_m_isRefused f_m_least f_m_packPounds f_m_packOwner f_m_room f_m_givenTo f_m_canBe f_m_setPounds f_m_plainTime f_m_muleTime f_m_planTo f_m_march f_m_tired f_m_ranMinutes f_m_tiredAhead f_m_isReached f_m_toEnd f_m_upTo f_m_upNext f_m_byChanges f_m_bandPaces s.heap.size n_2 i (by omega) (by omega) (by omega) hr_m_weight hr_m_isRefused hr_m_tired (by omega) (by omega) hwf) (gi_V lwd_1000 lwd_1001 lwd_1002 lwd_5 lwd_1003) ⟨rfl, hd_X10_rests⟩ ⟨Nat.le_of_ble_eq_true rfl, Nat.le_of_ble_eq_true rfl⟩ rfl (Nat.le_of_ble_eq_true rfl) dX10_goesOver_11) (fun u_3 H locs hw hP hD hS => ?_)
  obtain ⟨zatW_5, zatL_6, zatT_7, zatH_8, zatM_9, zatI_10, zatQ_11, zworth_12, zisRefused_13, ztired_14⟩ := u_3
  try dsimp only at hw hP hD
  obtain ⟨p_15, p_16, p_17⟩ := hw
  refine lv_aload_n hx hb dX10_goesOver_14 rfl (lv_at hl 1 rfl) ?_
  refine lv_aload_n hx hb dX10_goesOver_15 rfl (lv_at hl 1 rfl) ?_
  refine lv_iload_n hx hb dX10_goesOver_16 rfl (lv_at hl 0 rfl) ?_
  refine lv_iload_n hx hb dX10_goesOver_17 rfl (lv_at hl 2 rfl) ?_
  refine xi hD hS hA (xV (As := [.int n_1, .int i]) (rest := [.ref (hm 0)]) hx hb hml hown hts hK hP hD hS hA NT_ok hN hAe hl.1 ⟨Nat.le_refl _, Nat.le_refl _⟩ 0 rfl rfl rfl (c_X10_bandPace l D cy hm v_taped v_walkers v_loads v_pieces v_changeCosts v_planned v_isMarch v_clauseMany v_place v_end v_bad v_clauses v_codes v_open v_stacked v_isOver v_isBehind zatW_5 zatL_6 zatT_7 zatH_8 zatM_9 zatI_10 zatQ_11 v_packing v_packed v_goPace v_goMinutes v_spentAt v_ranChanges f_m_tape f_m_knee f_m_weight f_m_isLame f_m_loadWeight f_m_owner f_m_food f_m_miles f_m_slope f_m_clauseLetter f_m_sumFrom f_m_codeFrom f_m_codeTo f_m_code f_m_codeArg f_m_newLetter f_m_newSum f_m_newFrom f_m_newTo f_m_newCode f_m_newArg f_m_stack zworth_12 zisRefused_13 f_m_least f_m_packPounds f_m_packOwner f_m_room f_m_givenTo f_m_canBe f_m_setPounds f_m_plainTime f_m_muleTime f_m_planTo f_m_march ztired_14 f_m_ranMinutes f_m_tiredAhead f_m_isReached f_m_toEnd f_m_upTo f_m_upNext f_m_byChanges f_m_bandPaces H.size n_1 i (by omega) (by omega) (by omega) (by omega) hr_m_weight hr_m_isLame hr_m_loadWeight hr_m_food hr_m_miles p_16 p_17 (by omega) (by omega) hwf) (gi_V lwd_1004 lwd_1005 lwd_1006 lwd_5 lwd_1007) ⟨rfl, hd_X10_bandPace⟩ ⟨Nat.le_of_ble_eq_true rfl, Nat.le_of_ble_eq_true rfl⟩ rfl (Nat.le_of_ble_eq_true rfl) dX10_goesOver_18) (fun r_19 u_18 H locs hw hP hD hS => ?_)
  obtain ⟨zatW_20, zatL_21, zatT_22, zatH_23, zatM_24, zatI_25, zatQ_26, zworth_27, zisRefused_28⟩ := u_18
  try dsimp only at hw hP hD
  obtain ⟨p_29, p_30, p_31⟩ := hw
  refine pt_MD_MD_goPace (x := r_19) hx hb hts hown hK hP hD hS lwd_999 dX10_goesOver_21 (fun H locs hP hD hS => ?_)
  refine lv_aload_n hx hb dX10_goesOver_24 rfl (lv_at hl 1 rfl) ?_
  refine gt_MD_MD_goPace hx hb hts hown hK hP lwd_999 dX10_goesOver_25 ?_
  refine lv_if_ne (tgt := 33) hx hb dX10_goesOver_28 (by decide) (fun c_32 => ?_) (fun c_32 => ?_)
  · have gc_32 : r_19.toInt ≠ 0 := i_ne (rfl : r_19.toInt = r_19.toInt) (by decide : (0 : Int32).toInt = 0) c_32
    refine lv_aload_n hx hb dX10_goesOver_33 rfl (lv_at hl 1 rfl) ?_
    refine lv_bipush (v := 30) hx hb dX10_goesOver_34 (by decide) ?_
    refine lv_iload_n hx hb dX10_goesOver_36 rfl (lv_at hl 3 rfl) ?_
    refine lv_bipush (v := 6) hx hb dX10_goesOver_37 (by decide) ?_
    refine lv_idiv hx hb dX10_goesOver_39 (by decide) ?_
    refine lv_topi (fun n_33 en_33 => ?_)
    have tn_33 : n_33.toInt = act.toInt / 6 := i_div en_33 (rfl : act.toInt = act.toInt) (by decide : (6 : Int32).toInt = 6) (by omega) (by omega)
    refine lv_imul hx hb dX10_goesOver_40 ?_
    refine lv_topi (fun n_34 en_34 => ?_)
    have tn_34 : n_34.toInt = 30 * (act.toInt / 6) := i_mul en_34 (by decide : (30 : Int32).toInt = 30) tn_33 (by omega) (by omega)
    refine lv_aload_n hx hb dX10_goesOver_41 rfl (lv_at hl 1 rfl) ?_
    refine lv_iload_n hx hb dX10_goesOver_42 rfl (lv_at hl 2 rfl) ?_
    refine lv_aload_n hx hb dX10_goesOver_43 rfl (lv_at hl 1 rfl) ?_
    refine gt_MD_MD_goPace hx hb hts hown hK hP lwd_999 dX10_goesOver_44 ?_
    refine xi hD hS hA (xV (As := [.int i, .int r_19]) (rest := [.int n_34, .ref (hm 0)]) hx hb hml hown hts hK hP hD hS hA NT_ok hN hAe hl.1 ⟨Nat.le_refl _, Nat.le_refl _⟩ 0 rfl rfl rfl (c_X10_minutesOf l D cy hm v_taped v_walkers v_loads v_pieces v_changeCosts v_planned v_isMarch v_clauseMany v_place v_end v_bad v_clauses v_codes v_open v_stacked v_isOver v_isBehind zatW_20 zatL_21 zatT_22 zatH_23 zatM_24 zatI_25 zatQ_26 v_packing v_packed r_19 v_goMinutes v_spentAt v_ranChanges f_m_tape f_m_knee f_m_weight f_m_isLame f_m_loadWeight f_m_owner f_m_food f_m_miles f_m_slope f_m_clauseLetter f_m_sumFrom f_m_codeFrom f_m_codeTo f_m_code f_m_codeArg f_m_newLetter f_m_newSum f_m_newFrom f_m_newTo f_m_newCode f_m_newArg f_m_stack zworth_27 zisRefused_28 f_m_least f_m_packPounds f_m_packOwner f_m_room f_m_givenTo f_m_canBe f_m_setPounds f_m_plainTime f_m_muleTime f_m_planTo f_m_march ztired_14 f_m_ranMinutes f_m_tiredAhead f_m_isReached f_m_toEnd f_m_upTo f_m_upNext f_m_byChanges f_m_bandPaces H.size i r_19 hr_m_miles (by omega) (by omega)) (gi_V lwd_668 lwd_669 lwd_670 lwd_5 lwd_671) ⟨rfl, hd_X10_minutesOf⟩ ⟨Nat.le_of_ble_eq_true rfl, Nat.le_of_ble_eq_true rfl⟩ rfl (Nat.le_of_ble_eq_true rfl) dX10_goesOver_47) (fun r_36 u_35 H locs hw hP hD hS => ?_)
    try dsimp only at hw hP hD
    clear hw
    refine lv_iadd hx hb dX10_goesOver_50 ?_
    refine lv_topi (fun n_37 en_37 => ?_)
    refine pt_MD_MD_goMinutes (x := n_37) hx hb hts hown hK hP hD hS lwd_990 dX10_goesOver_51 (fun H locs hP hD hS => ?_)
    refine lv_iconst (v := 0) hx hb dX10_goesOver_54 (by decide) ?_
    refine lv_istore (lv' := [(4, .int 0), (3, .int n_1), (0, .ref (hm 0)), (1, .int i), (2, .int act)]) hx hb dX10_goesOver_55 hl (by decide) rfl (fun ls hl => ?_)
    have L57_60 : ∀ (n : Nat) (f_49 : Nat → Int32) (f_50 : Nat → Int32) (f_51 : Nat → Int32) (l_52 : Int32) (w_53 : Int32) (w_54 : Int32) (w_55 : Int32) (w_56 : Int32) (w_57 : Int32) (w_58 : Int32) (w_59 : Int32), (rg (0) 1 f_49) → (rg (0) 5 f_50) → (0 ≤ l_52.toInt ∧ l_52.toInt ≤ 6) → (0 ≤ w_59.toInt ∧ w_59.toInt ≤ 5) → 7 - l_52.toInt < n → ∀ (H : Heap) (locs : List Loc) (ls : Array Slot), va_P D vwCl (wMD cy hm v_taped v_walkers v_loads v_pieces v_changeCosts v_planned v_isMarch v_clauseMany v_place v_end v_bad v_clauses v_codes v_open v_stacked v_isOver v_isBehind w_59 w_55 w_58 w_53 w_56 w_54 w_57 v_packing v_packed r_19 n_37 v_spentAt v_ranChanges f_m_tape f_m_knee f_m_weight f_m_isLame f_m_loadWeight f_m_owner f_m_food f_m_miles f_m_slope f_m_clauseLetter f_m_sumFrom f_m_codeFrom f_m_codeTo f_m_code f_m_codeArg f_m_newLetter f_m_newSum f_m_newFrom f_m_newTo f_m_newCode f_m_newArg f_m_stack f_51 f_49 f_m_least f_m_packPounds f_m_packOwner f_m_room f_m_givenTo f_m_canBe f_m_setPounds f_m_plainTime f_m_muleTime f_m_planTo f_m_march f_50 f_m_ranMinutes f_m_tiredAhead f_m_isReached f_m_toEnd f_m_upTo f_m_upNext f_m_byChanges f_m_bandPaces) H → va_D A (wMD cy hm v_taped v_walkers v_loads v_pieces v_changeCosts v_planned v_isMarch v_clauseMany v_place v_end v_bad v_clauses v_codes v_open v_stacked v_isOver v_isBehind w_59 w_55 w_58 w_53 w_56 w_54 w_57 v_packing v_packed r_19 n_37 v_spentAt v_ranChanges f_m_tape f_m_knee f_m_weight f_m_isLame f_m_loadWeight f_m_owner f_m_food f_m_miles f_m_slope f_m_clauseLetter f_m_sumFrom f_m_codeFrom f_m_codeTo f_m_code f_m_codeArg f_m_newLetter f_m_newSum f_m_newFrom f_m_newTo f_m_newCode f_m_newArg f_m_stack f_51 f_49 f_m_least f_m_packPounds f_m_packOwner f_m_room f_m_givenTo f_m_canBe f_m_setPounds f_m_plainTime f_m_muleTime f_m_planTo f_m_march f_50 f_m_ranMinutes f_m_tiredAhead f_m_isReached f_m_toEnd f_m_upTo f_m_upNext f_m_byChanges f_m_bandPaces) → va_S A s.heap H locs → lv_has ls 5 [(4, .int l_52), (3, .int n_1), (0, .ref (hm 0)), (1, .int i), (2, .int act)] → W p l e (gRm 7) s m args below meth c H locs 0 0 Q (F0 m 57 ls []) := by
      intro n
      induction n with
      | zero => intro f_49 f_50 f_51 l_52 w_53 w_54 w_55 w_56 w_57 w_58 w_59 hL57_60_0 hL57_60_1 hL57_60_2 hL57_60_3 hm; exact absurd hm (by omega)
      | succ n ih57_60 =>
        intro f_49 f_50 f_51 l_52 w_53 w_54 w_55 w_56 w_57 w_58 w_59 hL57_60_0 hL57_60_1 hL57_60_2 hL57_60_3 hmL57_60 H locs ls hP hD hS hl
        refine lv_iload hx hb dX10_goesOver_57 (lv_at hl 0 rfl) ?_
        refine lv_aload_n hx hb dX10_goesOver_59 rfl (lv_at hl 2 rfl) ?_
        refine gt_MD_MD_walkers hx hb hts hown hK hP lwd_221 dX10_goesOver_60 ?_
        refine lv_icmp_ge (tgt := 168) hx hb dX10_goesOver_63 (by decide) (fun c_61 => ?_) (fun c_61 => ?_)
        · have gc_61 : v_walkers.toInt ≤ l_52.toInt := i_le (rfl : v_walkers.toInt = v_walkers.toInt) (rfl : l_52.toInt = l_52.toInt) c_61
          refine lv_iconst (v := 1) hx hb dX10_goesOver_168 (by decide) ?_
          have k_62 : (1 : Int32).toInt = 1 := by decide
          exact hrt 1 w_59 w_55 w_58 w_53 w_56 w_54 w_57 r_19 n_37 f_51 f_49 f_50 ⟨(by omega), (by omega), (by omega), hL57_60_0, hL57_60_1⟩ hP hD hS rfl dX10_goesOver_169
        · have gc_61 : l_52.toInt < v_walkers.toInt := i_nle (rfl : v_walkers.toInt = v_walkers.toInt) (rfl : l_52.toInt = l_52.toInt) c_61
          refine lv_aload_n hx hb dX10_goesOver_66 rfl (lv_at hl 2 rfl) ?_
          refine lv_iload hx hb dX10_goesOver_67 (lv_at hl 0 rfl) ?_
          refine pt_MD_MD_atW (x := l_52) hx hb hts hown hK hP hD hS lwd_557 dX10_goesOver_69 (fun H locs hP hD hS => ?_)
          refine lv_aload_n hx hb dX10_goesOver_72 rfl (lv_at hl 2 rfl) ?_
          refine lv_aload_n hx hb dX10_goesOver_73 rfl (lv_at hl 2 rfl) ?_
          refine lv_iload hx hb dX10_goesOver_74 (lv_at hl 0 rfl) ?_
          refine lv_iload_n hx hb dX10_goesOver_76 rfl (lv_at hl 1 rfl) ?_
          refine lv_iload_n hx hb dX10_goesOver_77 rfl (lv_at hl 3 rfl) ?_
          refine xi hD hS hA (xV (As := [.int l_52, .int n_1, .int i]) (rest := [.ref (hm 0)]) hx hb hml hown hts hK hP hD hS hA NT_ok hN hAe hl.1 ⟨Nat.le_refl _, Nat.le_refl _⟩ 0 rfl rfl rfl (c_X10_carriedBy l D cy hm v_taped v_walkers v_loads v_pieces v_changeCosts v_planned v_isMarch v_clauseMany v_place v_end v_bad v_clauses v_codes v_open v_stacked v_isOver v_isBehind l_52 w_55 w_58 w_53 w_56 w_54 w_57 v_packing v_packed r_19 n_37 v_spentAt v_ranChanges f_m_tape f_m_knee f_m_weight f_m_isLame f_m_loadWeight f_m_owner f_m_food f_m_miles f_m_slope f_m_clauseLetter f_m_sumFrom f_m_codeFrom f_m_codeTo f_m_code f_m_codeArg f_m_newLetter f_m_newSum f_m_newFrom f_m_newTo f_m_newCode f_m_newArg f_m_stack f_51 f_49 f_m_least f_m_packPounds f_m_packOwner f_m_room f_m_givenTo f_m_canBe f_m_setPounds f_m_plainTime f_m_muleTime f_m_planTo f_m_march f_50 f_m_ranMinutes f_m_tiredAhead f_m_isReached f_m_toEnd f_m_upTo f_m_upNext f_m_byChanges f_m_bandPaces H.size l_52 n_1 i (by omega) hr_m_loadWeight hr_m_food (by omega) (by omega)) (gi_V lwd_1008 lwd_1009 lwd_1010 lwd_5 lwd_1011) ⟨rfl, hd_X10_carriedBy⟩ ⟨Nat.le_of_ble_eq_true rfl, Nat.le_of_ble_eq_true rfl⟩ rfl (Nat.le_of_ble_eq_true rfl) dX10_goesOver_78) (fun r_64 u_63 H locs hw hP hD hS => ?_)
          try dsimp only at hw hP hD
          clear hw
          refine pt_MD_MD_atL (x := r_64) hx hb hts hown hK hP hD hS lwd_558 dX10_goesOver_81 (fun H locs hP hD hS => ?_)
          refine lv_aload_n hx hb dX10_goesOver_84 rfl (lv_at hl 2 rfl) ?_
          refine lv_aload_n hx hb dX10_goesOver_85 rfl (lv_at hl 2 rfl) ?_
          refine gt_MD_MD_tired hx hb hts hown hK hP lwd_191 dX10_goesOver_86 ?_
          refine lv_iload hx hb dX10_goesOver_89 (lv_at hl 0 rfl) ?_
          refine al_m_tired hx hb hK hP hL57_60_1 (i_in (rfl : l_52.toInt = l_52.toInt) (by omega) (by omega)) dX10_goesOver_91 (fun n_65 en_65 bn_65 => ?_)
          refine pt_MD_MD_atT (x := n_65) hx hb hts hown hK hP hD hS lwd_559 dX10_goesOver_92 (fun H locs hP hD hS => ?_)
          refine lv_aload_n hx hb dX10_goesOver_95 rfl (lv_at hl 2 rfl) ?_
          refine lv_aload_n hx hb dX10_goesOver_96 rfl (lv_at hl 2 rfl) ?_
          refine gt_MD_MD_slope hx hb hts hown hK hP lwd_164 dX10_goesOver_97 ?_
          refine lv_iload_n hx hb dX10_goesOver_100 rfl (lv_at hl 3 rfl) ?_
          refine al_m_slope hx hb hK hP (i_in (rfl : i.toInt = i.toInt) (by omega) (by omega)) dX10_goesOver_101 (fun n_66 en_66 => ?_)
          refine pt_MD_MD_atH (x := n_66) hx hb hts hown hK hP hD hS lwd_560 dX10_goesOver_102 (fun H locs hP hD hS => ?_)
          refine lv_aload_n hx hb dX10_goesOver_105 rfl (lv_at hl 2 rfl) ?_
          refine lv_aload_n hx hb dX10_goesOver_106 rfl (lv_at hl 2 rfl) ?_
          refine gt_MD_MD_miles hx hb hts hown hK hP lwd_163 dX10_goesOver_107 ?_
          refine lv_iload_n hx hb dX10_goesOver_110 rfl (lv_at hl 3 rfl) ?_
          refine al_m_miles hx hb hK hP hr_m_miles (i_in (rfl : i.toInt = i.toInt) (by omega) (by omega)) dX10_goesOver_111 (fun n_67 en_67 bn_67 => ?_)
          refine pt_MD_MD_atM (x := n_67) hx hb hts hown hK hP hD hS lwd_561 dX10_goesOver_112 (fun H locs hP hD hS => ?_)
          refine lv_aload_n hx hb dX10_goesOver_115 rfl (lv_at hl 2 rfl) ?_
          refine lv_iload_n hx hb dX10_goesOver_116 rfl (lv_at hl 3 rfl) ?_
          refine pt_MD_MD_atI (x := i) hx hb hts hown hK hP hD hS lwd_562 dX10_goesOver_117 (fun H locs hP hD hS => ?_)
          refine lv_aload_n hx hb dX10_goesOver_120 rfl (lv_at hl 2 rfl) ?_
          refine lv_aload_n hx hb dX10_goesOver_121 rfl (lv_at hl 2 rfl) ?_
          refine lv_iload_n hx hb dX10_goesOver_122 rfl (lv_at hl 3 rfl) ?_
          refine lv_aload_n hx hb dX10_goesOver_123 rfl (lv_at hl 2 rfl) ?_
          refine gt_MD_MD_goPace hx hb hts hown hK hP lwd_999 dX10_goesOver_124 ?_
          refine xi hD hS hA (xV (As := [.int i, .int r_19]) (rest := [.ref (hm 0)]) hx hb hml hown hts hK hP hD hS hA NT_ok hN hAe hl.1 ⟨Nat.le_refl _, Nat.le_refl _⟩ 0 rfl rfl rfl (c_X10_minutesOf l D cy hm v_taped v_walkers v_loads v_pieces v_changeCosts v_planned v_isMarch v_clauseMany v_place v_end v_bad v_clauses v_codes v_open v_stacked v_isOver v_isBehind l_52 r_64 n_65 n_66 n_67 i w_57 v_packing v_packed r_19 n_37 v_spentAt v_ranChanges f_m_tape f_m_knee f_m_weight f_m_isLame f_m_loadWeight f_m_owner f_m_food f_m_miles f_m_slope f_m_clauseLetter f_m_sumFrom f_m_codeFrom f_m_codeTo f_m_code f_m_codeArg f_m_newLetter f_m_newSum f_m_newFrom f_m_newTo f_m_newCode f_m_newArg f_m_stack f_51 f_49 f_m_least f_m_packPounds f_m_packOwner f_m_room f_m_givenTo f_m_canBe f_m_setPounds f_m_plainTime f_m_muleTime f_m_planTo f_m_march f_50 f_m_ranMinutes f_m_tiredAhead f_m_isReached f_m_toEnd f_m_upTo f_m_upNext f_m_byChanges f_m_bandPaces H.size i r_19 hr_m_miles (by omega) (by omega)) (gi_V lwd_668 lwd_669 lwd_670 lwd_5 lwd_671) ⟨rfl, hd_X10_minutesOf⟩ ⟨Nat.le_of_ble_eq_true rfl, Nat.le_of_ble_eq_true rfl⟩ rfl (Nat.le_of_ble_eq_true rfl) dX10_goesOver_127) (fun r_69 u_68 H locs hw hP hD hS => ?_)
          try dsimp only at hw hP hD
          clear hw
          refine pt_MD_MD_atQ (x := r_69) hx hb hts hown hK hP hD hS lwd_563 dX10_goesOver_130 (fun H locs hP hD hS => ?_)
          refine lv_aload_n hx hb dX10_goesOver_133 rfl (lv_at hl 2 rfl) ?_
          refine gt_MD_MD_tired hx hb hts hown hK hP lwd_191 dX10_goesOver_134 ?_
          refine lv_iload hx hb dX10_goesOver_137 (lv_at hl 0 rfl) ?_
          refine lv_aload_n hx hb dX10_goesOver_139 rfl (lv_at hl 2 rfl) ?_
          refine gt_MD_MD_tired hx hb hts hown hK hP lwd_191 dX10_goesOver_140 ?_
          refine lv_iload hx hb dX10_goesOver_143 (lv_at hl 0 rfl) ?_
          refine al_m_tired hx hb hK hP hL57_60_1 (i_in (rfl : l_52.toInt = l_52.toInt) (by omega) (by omega)) dX10_goesOver_145 (fun n_70 en_70 bn_70 => ?_)
          obtain rfl : n_65 = n_70 := en_65.trans en_70.symm
          refine lv_aload_n hx hb dX10_goesOver_146 rfl (lv_at hl 2 rfl) ?_
          refine lv_bipush (v := 103) hx hb dX10_goesOver_147 (by decide) ?_
          refine lv_bipush (v := (-5)) hx hb dX10_goesOver_149 (by decide) ?_
          refine lv_iconst (v := 5) hx hb dX10_goesOver_151 (by decide) ?_
          have k_71 : (103 : Int32).toInt = 103 := by decide
          have k_72 : ((-5) : Int32).toInt = (-5) := by decide
          have k_73 : (5 : Int32).toInt = 5 := by decide
          refine xi hD hS hA (xV (As := [.int 103, .int (-5), .int 5]) (rest := [.int n_65, .int l_52, .ref (hm 36)]) hx hb hml hown hts hK hP hD hS hA NT_ok hN hAe hl.1 ⟨Nat.le_refl _, Nat.le_refl _⟩ 0 rfl rfl rfl (c_X10_tells l D cy hm v_taped v_walkers v_loads v_pieces v_changeCosts v_planned v_isMarch v_clauseMany v_place v_end v_bad v_clauses v_codes v_open v_stacked v_isOver v_isBehind l_52 r_64 n_65 n_66 n_67 i r_69 v_packing v_packed r_19 n_37 v_spentAt v_ranChanges f_m_tape f_m_knee f_m_weight f_m_isLame f_m_loadWeight f_m_owner f_m_food f_m_miles f_m_slope f_m_clauseLetter f_m_sumFrom f_m_codeFrom f_m_codeTo f_m_code f_m_codeArg f_m_newLetter f_m_newSum f_m_newFrom f_m_newTo f_m_newCode f_m_newArg f_m_stack f_51 f_49 f_m_least f_m_packPounds f_m_packOwner f_m_room f_m_givenTo f_m_canBe f_m_setPounds f_m_plainTime f_m_muleTime f_m_planTo f_m_march f_50 f_m_ranMinutes f_m_tiredAhead f_m_isReached f_m_toEnd f_m_upTo f_m_upNext f_m_byChanges f_m_bandPaces H.size 103 (-5) 5 (by omega) (by omega) (by omega) hr_m_weight hL57_60_0 hwf (by omega)) (gi_V lwd_564 lwd_565 lwd_566 lwd_5 lwd_567) ⟨rfl, hd_X10_tells⟩ ⟨Nat.le_of_ble_eq_true rfl, Nat.le_of_ble_eq_true rfl⟩ rfl (Nat.le_of_ble_eq_true rfl) dX10_goesOver_152) (fun r_75 u_74 H locs hw hP hD hS => ?_)
          obtain ⟨zworth_76, zisRefused_77⟩ := u_74
          try dsimp only at hw hP hD
          obtain ⟨p_78, p_79⟩ := hw
          refine lv_iadd hx hb dX10_goesOver_155 ?_
          refine lv_topi (fun n_80 en_80 => ?_)
          have tn_80 : n_80.toInt = n_65.toInt + r_75.toInt := i_add en_80 (rfl : n_65.toInt = n_65.toInt) (rfl : r_75.toInt = r_75.toInt) (by omega) (by omega)
          refine lv_iconst (v := 0) hx hb dX10_goesOver_156 (by decide) ?_
          refine lv_iconst (v := 5) hx hb dX10_goesOver_157 (by decide) ?_
          have k_81 : (0 : Int32).toInt = 0 := by decide
          refine xi hD hS hA (xS (As := [.int n_80, .int 0, .int 5]) (rest := [.int l_52, .ref (hm 36)]) hx hb hml hown hts hK hP hD hS hA NT_ok hN hAe hl.1 ⟨Nat.le_refl _, Nat.le_refl _⟩ (c_X10_held l D cy hm v_taped v_walkers v_loads v_pieces v_changeCosts v_planned v_isMarch v_clauseMany v_place v_end v_bad v_clauses v_codes v_open v_stacked v_isOver v_isBehind l_52 r_64 n_65 n_66 n_67 i r_69 v_packing v_packed r_19 n_37 v_spentAt v_ranChanges f_m_tape f_m_knee f_m_weight f_m_isLame f_m_loadWeight f_m_owner f_m_food f_m_miles f_m_slope f_m_clauseLetter f_m_sumFrom f_m_codeFrom f_m_codeTo f_m_code f_m_codeArg f_m_newLetter f_m_newSum f_m_newFrom f_m_newTo f_m_newCode f_m_newArg f_m_stack zworth_76 zisRefused_77 f_m_least f_m_packPounds f_m_packOwner f_m_room f_m_givenTo f_m_canBe f_m_setPounds f_m_plainTime f_m_muleTime f_m_planTo f_m_march f_50 f_m_ranMinutes f_m_tiredAhead f_m_isReached f_m_toEnd f_m_upTo f_m_upNext f_m_byChanges f_m_bandPaces H.size n_80 0 5 (by omega)) (gi_S lwd_583 lwd_584 lwd_5 lwd_585) hd_X10_held ⟨Nat.le_of_ble_eq_true rfl, Nat.le_of_ble_eq_true rfl⟩ rfl (Nat.le_of_ble_eq_true rfl) dX10_goesOver_158) (fun r_83 u_82 H locs hw hP hD hS => ?_)
          try dsimp only at hw hP hD
          have p_84 := hw
          clear hw
          refine as_m_tired (x := r_83) hx hb hK hP hD hS hL57_60_1 (i_in (rfl : l_52.toInt = l_52.toInt) (by omega) (by omega)) (by omega) dX10_goesOver_161 (fun f_85 ef_85 rf_85 H locs hP hD hS => ?_)
          obtain ⟨n_86, en_86⟩ : ∃ y : Int32, y = l_52 + 1 := ⟨_, rfl⟩
          have tn_86 : n_86.toInt = l_52.toInt + 1 := i_add en_86 (rfl : l_52.toInt = l_52.toInt) (by decide : (1 : Int32).toInt = 1) (by omega) (by omega)
          refine lv_iinc (v := n_86) (lv' := [(4, .int n_86), (3, .int n_1), (0, .ref (hm 0)), (1, .int i), (2, .int act)]) hx hb dX10_goesOver_162 hl (k := 0) rfl (by rw [en_86]; rfl) (by decide) rfl (fun ls hl => ?_)
          refine lv_goto (tgt := 57) hx hb dX10_goesOver_165 (by decide) ?_
          exact ih57_60 zisRefused_77 f_85 zworth_76 n_86 n_66 i r_64 n_67 r_69 n_65 l_52 p_79 rf_85 (by omega) (by omega) (by omega) _ _ _ hP hD hS (lv_sub hl [0, 1, 2, 3, 4] rfl)
    have k_87 : (0 : Int32).toInt = 0 := by decide
    exact L57_60 8589934592 zisRefused_28 ztired_14 zworth_27 0 zatH_23 zatI_25 zatL_21 zatM_24 zatQ_26 zatT_22 zatW_20 p_31 p_17 (by omega) (by omega) (by omega) _ _ _ hP hD hS (lv_sub hl [0, 1, 2, 3, 4] rfl)
  · have gc_32 : r_19.toInt = 0 := i_eq (rfl : r_19.toInt = r_19.toInt) (by decide : (0 : Int32).toInt = 0) c_32
    refine lv_iconst (v := 0) hx hb dX10_goesOver_31 (by decide) ?_
    have k_88 : (0 : Int32).toInt = 0 := by decide
    exact hrt 0 zatW_20 zatL_21 zatT_22 zatH_23 zatM_24 zatI_25 zatQ_26 r_19 v_goMinutes zworth_27 zisRefused_28 ztired_14 ⟨(by omega), (by omega), (by omega), p_31, p_17⟩ hP hD hS rfl dX10_goesOver_32
set_option maxHeartbeats 16000000 in
set_option maxRecDepth 100000 in
theorem c_X10_isChange (l : Launch) (D : va_G) (cy : Nat → ClassId) (hm : Nat → Nat) (v_taped v_walkers v_loads v_pieces v_changeCosts v_planned v_isMarch v_clauseMany v_place v_end v_bad v_clauses v_codes v_open v_stacked v_isOver v_isBehind v_atW v_atL v_atT v_atH v_atM v_atI v_atQ v_packing v_packed v_goPace v_goMinutes v_spentAt v_ranChanges : Int32) (f_m_tape f_m_knee f_m_weight f_m_isLame f_m_loadWeight f_m_owner f_m_food f_m_miles f_m_slope f_m_clauseLetter f_m_sumFrom f_m_codeFrom f_m_codeTo f_m_code f_m_codeArg f_m_newLetter f_m_newSum f_m_newFrom f_m_newTo f_m_newCode f_m_newArg f_m_stack f_m_worth f_m_isRefused f_m_least f_m_packPounds f_m_packOwner f_m_room f_m_givenTo f_m_canBe f_m_setPounds f_m_plainTime f_m_muleTime f_m_planTo f_m_march f_m_tired f_m_ranMinutes f_m_tiredAhead f_m_isReached f_m_toEnd f_m_upTo f_m_upNext f_m_byChanges f_m_bandPaces : Nat → Int32) (sz : Nat) (i : Int32) (hr_m_march : rg (0) 17 f_m_march) (ha_i : 0 ≤ i.toInt ∧ i.toInt ≤ 9) : gMi l yX10_isChange cX10_isChange 2 .boolean 1 [.ref (hm 0), .int i] D cy (wMD cy hm v_taped v_walkers v_loads v_pieces v_changeCosts v_planned v_isMarch v_clauseMany v_place v_end v_bad v_clauses v_codes v_open v_stacked v_isOver v_isBehind v_atW v_atL v_atT v_atH v_atM v_atI v_atQ v_packing v_packed v_goPace v_goMinutes v_spentAt v_ranChanges f_m_tape f_m_knee f_m_weight f_m_isLame f_m_loadWeight f_m_owner f_m_food f_m_miles f_m_slope f_m_clauseLetter f_m_sumFrom f_m_codeFrom f_m_codeTo f_m_code f_m_codeArg f_m_newLetter f_m_newSum f_m_newFrom f_m_newTo f_m_newCode f_m_newArg f_m_stack f_m_worth f_m_isRefused f_m_least f_m_packPounds f_m_packOwner f_m_room f_m_givenTo f_m_canBe f_m_setPounds f_m_plainTime f_m_muleTime f_m_planTo f_m_march f_m_tired f_m_ranMinutes f_m_tiredAhead f_m_isReached f_m_toEnd f_m_upTo f_m_upNext f_m_byChanges f_m_bandPaces) NT sz (fun (r : Int32) (u : Unit) => (0 ≤ r.toInt ∧ r.toInt ≤ 1)) (fun u => wMD cy hm v_taped v_walkers v_loads v_pieces v_changeCosts v_planned v_isMarch v_clauseMany v_place v_end v_bad v_clauses v_codes v_open v_stacked v_isOver v_isBehind v_atW v_atL v_atT v_atH v_atM v_atI v_atQ v_packing v_packed v_goPace v_goMinutes v_spentAt v_ranChanges f_m_tape f_m_knee f_m_weight f_m_isLame f_m_loadWeight f_m_owner f_m_food f_m_miles f_m_slope f_m_clauseLetter f_m_sumFrom f_m_codeFrom f_m_codeTo f_m_code f_m_codeArg f_m_newLetter f_m_newSum f_m_newFrom f_m_newTo f_m_newCode f_m_newArg f_m_stack f_m_worth f_m_isRefused f_m_least f_m_packPounds f_m_packOwner f_m_room f_m_givenTo f_m_canBe f_m_setPounds f_m_plainTime f_m_muleTime f_m_planTo f_m_march f_m_tired f_m_ranMinutes f_m_tiredAhead f_m_isReached f_m_toEnd f_m_upTo f_m_upNext f_m_byChanges f_m_bandPaces) := by
  refine gMi_in (by decide) (Nat.le_of_ble_eq_true rfl) ?_
  intro p e s m args below meth c A ls Q hx hb hml hts hown hsz hP hK hD hN hAe hA hS hl hret
  subst hsz
  have hl : lv_has ls 2 [(0, .ref (hm 0)), (1, .int i)] := hl
  have hrt := fun (r : Int32)  (hp : (0 ≤ r.toInt ∧ r.toInt ≤ 1)) {H : Heap} {locs : List Loc} {pc : Nat} {ls : Array Slot} => hret r () (H := H) (locs := locs) (pc := pc) (ls := ls) hp
  clear hret
  refine lv_iload_n hx hb dX10_isChange_0 rfl (lv_at hl 1 rfl) ?_
  refine lv_if_le (tgt := 31) hx hb dX10_isChange_1 (by decide) (fun c_1 => ?_) (fun c_1 => ?_)
  · have gc_1 : i.toInt ≤ 0 := i_le (rfl : i.toInt = i.toInt) (by decide : (0 : Int32).toInt = 0) c_1
    refine lv_iconst (v := 0) hx hb dX10_isChange_31 (by decide) ?_
    have k_2 : (0 : Int32).toInt = 0 := by decide
    exact hrt 0  (by omega) hP hD hS rfl dX10_isChange_32
  · have gc_1 : 0 < i.toInt := i_nle (rfl : i.toInt = i.toInt) (by decide : (0 : Int32).toInt = 0) c_1
    refine lv_aload_n hx hb dX10_isChange_4 rfl (lv_at hl 0 rfl) ?_
    refine gt_MD_MD_march hx hb hts hown hK hP lwd_190 dX10_isChange_5 ?_
    refine lv_iload_n hx hb dX10_isChange_8 rfl (lv_at hl 1 rfl) ?_
    refine al_m_march hx hb hK hP hr_m_march (i_in (rfl : i.toInt = i.toInt) (by omega) (by omega)) dX10_isChange_9 (fun n_3 en_3 bn_3 => ?_)
    refine lv_bipush (v := 6) hx hb dX10_isChange_10 (by decide) ?_
    refine lv_irem hx hb dX10_isChange_12 (by decide) ?_
    refine lv_topi (fun n_4 en_4 => ?_)
    have tn_4 : n_4.toInt = n_3.toInt % 6 := i_rem en_4 (rfl : n_3.toInt = n_3.toInt) (by decide : (6 : Int32).toInt = 6) (by omega) (by omega)
    refine lv_aload_n hx hb dX10_isChange_13 rfl (lv_at hl 0 rfl) ?_
    refine gt_MD_MD_march hx hb hts hown hK hP lwd_190 dX10_isChange_14 ?_
    refine lv_iload_n hx hb dX10_isChange_17 rfl (lv_at hl 1 rfl) ?_
    refine lv_iconst (v := 1) hx hb dX10_isChange_18 (by decide) ?_
    refine lv_isub hx hb dX10_isChange_19 ?_
    refine lv_topi (fun n_5 en_5 => ?_)
    have tn_5 : n_5.toInt = i.toInt - 1 := i_sub en_5 (rfl : i.toInt = i.toInt) (by decide : (1 : Int32).toInt = 1) (by omega) (by omega)
    refine al_m_march hx hb hK hP hr_m_march (i_in tn_5 (by omega) (by omega)) dX10_isChange_20 (fun n_6 en_6 bn_6 => ?_)
    refine lv_bipush (v := 6) hx hb dX10_isChange_21 (by decide) ?_
    refine lv_irem hx hb dX10_isChange_23 (by decide) ?_
    refine lv_topi (fun n_7 en_7 => ?_)
    have tn_7 : n_7.toInt = n_6.toInt % 6 := i_rem en_7 (rfl : n_6.toInt = n_6.toInt) (by decide : (6 : Int32).toInt = 6) (by omega) (by omega)
    refine lv_icmp_eq (tgt := 31) hx hb dX10_isChange_24 (by decide) (fun c_8 => ?_) (fun c_8 => ?_)
    · have gc_8 : n_3.toInt % 6 = n_6.toInt % 6 := i_eq tn_4 tn_7 c_8
      refine lv_iconst (v := 0) hx hb dX10_isChange_31 (by decide) ?_
      have k_9 : (0 : Int32).toInt = 0 := by decide
      exact hrt 0  (by omega) hP hD hS rfl dX10_isChange_32
    · have gc_8 : n_3.toInt % 6 ≠ n_6.toInt % 6 := i_ne tn_4 tn_7 c_8
      refine lv_iconst (v := 1) hx hb dX10_isChange_27 (by decide) ?_
      refine lv_goto (tgt := 32) hx hb dX10_isChange_28 (by decide) ?_
      have k_10 : (1 : Int32).toInt = 1 := by decide
      exact hrt 1  (by omega) hP hD hS rfl dX10_isChange_32
set_option maxHeartbeats 16000000 in
set_option maxRecDepth 100000 in
theorem c_X10_runs (l : Launch) (D : va_G) (cy : Nat → ClassId) (hm : Nat → Nat) (v_taped v_walkers v_loads v_pieces v_changeCosts v_planned v_isMarch v_clauseMany v_place v_end v_bad v_clauses v_codes v_open v_stacked v_isOver v_isBehind v_atW v_atL v_atT v_atH v_atM v_atI v_atQ v_packing v_packed v_goPace v_goMinutes v_spentAt v_ranChanges : Int32) (f_m_tape f_m_knee f_m_weight f_m_isLame f_m_loadWeight f_m_owner f_m_food f_m_miles f_m_slope f_m_clauseLetter f_m_sumFrom f_m_codeFrom f_m_codeTo f_m_code f_m_codeArg f_m_newLetter f_m_newSum f_m_newFrom f_m_newTo f_m_newCode f_m_newArg f_m_stack f_m_worth f_m_isRefused f_m_least f_m_packPounds f_m_packOwner f_m_room f_m_givenTo f_m_canBe f_m_setPounds f_m_plainTime f_m_muleTime f_m_planTo f_m_march f_m_tired f_m_ranMinutes f_m_tiredAhead f_m_isReached f_m_toEnd f_m_upTo f_m_upNext f_m_byChanges f_m_bandPaces : Nat → Int32) (sz : Nat) (hb_v_walkers : 0 ≤ v_walkers.toInt ∧ v_walkers.toInt ≤ 6) (hb_v_loads : 0 ≤ v_loads.toInt ∧ v_loads.toInt ≤ 9) (hb_v_pieces : 0 ≤ v_pieces.toInt ∧ v_pieces.toInt ≤ 10) (hb_v_clauseMany : 0 ≤ v_clauseMany.toInt ∧ v_clauseMany.toInt ≤ 14) (hb_v_atW : 0 ≤ v_atW.toInt ∧ v_atW.toInt ≤ 5) (hb_v_goPace : 0 ≤ v_goPace.toInt ∧ v_goPace.toInt ≤ 60) (hb_v_spentAt : -1 ≤ v_spentAt.toInt ∧ v_spentAt.toInt ≤ 9) (hr_m_weight : rg (0) 250 f_m_weight) (hr_m_isLame : rg (0) 1 f_m_isLame) (hr_m_loadWeight : rg (0) 120 f_m_loadWeight) (hr_m_food : rg (0) 20 f_m_food) (hr_m_miles : rg (0) 20 f_m_miles) (hr_m_isRefused : rg (0) 1 f_m_isRefused) (hr_m_march : rg (0) 17 f_m_march) (hr_m_tired : rg (0) 5 f_m_tired) (hr_m_tiredAhead : rg (0) 46655 f_m_tiredAhead) (hwf : wfC v_clauseMany f_m_sumFrom f_m_codeFrom f_m_codeTo f_m_code) : gMv l yX10_runs cX10_runs 2 8 [.ref (hm 0)] D cy (wMD cy hm v_taped v_walkers v_loads v_pieces v_changeCosts v_planned v_isMarch v_clauseMany v_place v_end v_bad v_clauses v_codes v_open v_stacked v_isOver v_isBehind v_atW v_atL v_atT v_atH v_atM v_atI v_atQ v_packing v_packed v_goPace v_goMinutes v_spentAt v_ranChanges f_m_tape f_m_knee f_m_weight f_m_isLame f_m_loadWeight f_m_owner f_m_food f_m_miles f_m_slope f_m_clauseLetter f_m_sumFrom f_m_codeFrom f_m_codeTo f_m_code f_m_codeArg f_m_newLetter f_m_newSum f_m_newFrom f_m_newTo f_m_newCode f_m_newArg f_m_stack f_m_worth f_m_isRefused f_m_least f_m_packPounds f_m_packOwner f_m_room f_m_givenTo f_m_canBe f_m_setPounds f_m_plainTime f_m_muleTime f_m_planTo f_m_march f_m_tired f_m_ranMinutes f_m_tiredAhead f_m_isReached f_m_toEnd f_m_upTo f_m_upNext f_m_byChanges f_m_bandPaces) NT sz (fun (u : Int32 × Int32 × Int32 × Int32 × Int32 × Int32 × Int32 × Int32 × Int32 × Int32 × Int32 × (Nat → Int32) × (Nat → Int32) × (Nat → Int32) × (Nat → Int32) × (Nat → Int32)) => (0 ≤ (u.1).toInt ∧ (u.1).toInt ≤ 5) ∧ (0 ≤ (u.2.2.2.2.2.2.2.1).toInt ∧ (u.2.2.2.2.2.2.2.1).toInt ≤ 60) ∧ (-1 ≤ (u.2.2.2.2.2.2.2.2.2.1).toInt ∧ (u.2.2.2.2.2.2.2.2.2.1).toInt ≤ 9) ∧ (rg (0) 1 (u.2.2.2.2.2.2.2.2.2.2.2.2.1)) ∧ (rg (0) 5 (u.2.2.2.2.2.2.2.2.2.2.2.2.2.1)) ∧ (rg (0) 46655 (u.2.2.2.2.2.2.2.2.2.2.2.2.2.2.2))) (fun u => wMD cy hm v_taped v_walkers v_loads v_pieces v_changeCosts v_planned v_isMarch v_clauseMany v_place v_end v_bad v_clauses v_codes v_open v_stacked v_isOver v_isBehind (u.1) (u.2.1) (u.2.2.1) (u.2.2.2.1) (u.2.2.2.2.1) (u.2.2.2.2.2.1) (u.2.2.2.2.2.2.1) v_packing v_packed (u.2.2.2.2.2.2.2.1) (u.2.2.2.2.2.2.2.2.1) (u.2.2.2.2.2.2.2.2.2.1) (u.2.2.2.2.2.2.2.2.2.2.1) f_m_tape f_m_knee f_m_weight f_m_isLame f_m_loadWeight f_m_owner f_m_food f_m_miles f_m_slope f_m_clauseLetter f_m_sumFrom f_m_codeFrom f_m_codeTo f_m_code f_m_codeArg f_m_newLetter f_m_newSum f_m_newFrom f_m_newTo f_m_newCode f_m_newArg f_m_stack (u.2.2.2.2.2.2.2.2.2.2.2.1) (u.2.2.2.2.2.2.2.2.2.2.2.2.1) f_m_least f_m_packPounds f_m_packOwner f_m_room f_m_givenTo f_m_canBe f_m_setPounds f_m_plainTime f_m_muleTime f_m_planTo f_m_march (u.2.2.2.2.2.2.2.2.2.2.2.2.2.1) (u.2.2.2.2.2.2.2.2.2.2.2.2.2.2.1) (u.2.2.2.2.2.2.2.2.2.2.2.2.2.2.2) f_m_isReached f_m_toEnd f_m_upTo f_m_upNext f_m_byChanges f_m_bandPaces) := by
  refine gMv_in (by decide) (Nat.le_of_ble_eq_true rfl) ?_
  intro p e s m args below meth c A ls Q hx hb hml hts hown hsz hP hK hD hN hAe hA hS hl hret
  subst hsz
  have hl : lv_has ls 2 [(0, .ref (hm 0))] := hl
  have hrt := fun (v_atW' : Int32) (v_atL' : Int32) (v_atT' : Int32) (v_atH' : Int32) (v_atM' : Int32) (v_atI' : Int32) (v_atQ' : Int32) (v_goPace' : Int32) (v_goMinutes' : Int32) (v_spentAt' : Int32) (v_ranChanges' : Int32) (f_m_worth' : Nat → Int32) (f_m_isRefused' : Nat → Int32) (f_m_tired' : Nat → Int32) (f_m_ranMinutes' : Nat → Int32) (f_m_tiredAhead' : Nat → Int32) (hp : (0 ≤ v_atW'.toInt ∧ v_atW'.toInt ≤ 5) ∧ (0 ≤ v_goPace'.toInt ∧ v_goPace'.toInt ≤ 60) ∧ (-1 ≤ v_spentAt'.toInt ∧ v_spentAt'.toInt ≤ 9) ∧ (rg (0) 1 f_m_isRefused') ∧ (rg (0) 5 f_m_tired') ∧ (rg (0) 46655 f_m_tiredAhead')) {H : Heap} {locs : List Loc} {pc : Nat} {ls : Array Slot} => hret (v_atW', v_atL', v_atT', v_atH', v_atM', v_atI', v_atQ', v_goPace', v_goMinutes', v_spentAt', v_ranChanges', f_m_worth', f_m_isRefused', f_m_tired', f_m_ranMinutes', f_m_tiredAhead') (H := H) (locs := locs) (pc := pc) (ls := ls) hp
  clear hret
  refine lv_aload_n hx hb dX10_runs_0 rfl (lv_at hl 0 rfl) ?_
  refine lv_iconst (v := (-1)) hx hb dX10_runs_1 (by decide) ?_
  refine pt_MD_MD_spentAt (x := (-1)) hx hb hts hown hK hP hD hS lwd_984 dX10_runs_2 (fun H locs hP hD hS => ?_)
  refine lv_aload_n hx hb dX10_runs_5 rfl (lv_at hl 0 rfl) ?_
  refine lv_iconst (v := 0) hx hb dX10_runs_6 (by decide) ?_
  refine pt_MD_MD_ranChanges (x := 0) hx hb hts hown hK hP hD hS lwd_985 dX10_runs_7 (fun H locs hP hD hS => ?_)
  refine lv_aload_n hx hb dX10_runs_10 rfl (lv_at hl 0 rfl) ?_
  refine lv_iconst (v := 0) hx hb dX10_runs_11 (by decide) ?_
  have k_1 : (0 : Int32).toInt = 0 := by decide
  refine xv hD hS hA (xV (As := [.int 0]) (rest := []) hx hb hml hown hts hK hP hD hS hA NT_ok hN hAe hl.1 ⟨Nat.le_refl _, Nat.le_refl _⟩ 0 rfl rfl rfl (c_X10_takesTired l D cy hm v_taped v_walkers v_loads v_pieces v_changeCosts v_planned v_isMarch v_clauseMany v_place v_end v_bad v_clauses v_codes v_open v_stacked v_isOver v_isBehind v_atW v_atL v_atT v_atH v_atM v_atI v_atQ v_packing v_packed v_goPace v_goMinutes (-1) 0 f_m_tape f_m_knee f_m_weight f_m_isLame f_m_loadWeight f_m_owner f_m_food f_m_miles f_m_slope f_m_clauseLetter f_m_sumFrom f_m_codeFrom f_m_codeTo f_m_code f_m_codeArg f_m_newLetter f_m_newSum f_m_newFrom f_m_newTo f_m_newCode f_m_newArg f_m_stack f_m_worth f_m_isRefused f_m_least f_m_packPounds f_m_packOwner f_m_room f_m_givenTo f_m_canBe f_m_setPounds f_m_plainTime f_m_muleTime f_m_planTo f_m_march f_m_tired f_m_ranMinutes f_m_tiredAhead f_m_isReached f_m_toEnd f_m_upTo f_m_upNext f_m_byChanges f_m_bandPaces H.size 0 hr_m_tired (by omega)) (gi_V lwd_991 lwd_992 lwd_993 lwd_5 lwd_994) ⟨rfl, hd_X10_takesTired⟩ ⟨Nat.le_of_ble_eq_true rfl, Nat.le_of_ble_eq_true rfl⟩ rfl (Nat.le_of_ble_eq_true rfl) dX10_runs_12) (fun u_2 H locs hw hP hD hS => ?_)
  obtain ⟨ztired_4, rfl⟩ : ∃ z, z = u_2 := ⟨_, rfl⟩
  try dsimp only at hw hP hD
  have p_5 := hw
  clear hw
  refine lv_aload_n hx hb dX10_runs_15 rfl (lv_at hl 0 rfl) ?_
  refine gt_MD_MD_tiredAhead hx hb hts hown hK hP lwd_193 dX10_runs_16 ?_
  refine lv_iconst (v := 0) hx hb dX10_runs_19 (by decide) ?_
  refine lv_iconst (v := 0) hx hb dX10_runs_20 (by decide) ?_
  refine as_m_tiredAhead (x := 0) hx hb hK hP hD hS hr_m_tiredAhead (i_in (by decide : (0 : Int32).toInt = 0) (by decide) (by decide)) (by decide) dX10_runs_21 (fun f_6 ef_6 rf_6 H locs hP hD hS => ?_)
  refine lv_iconst (v := 0) hx hb dX10_runs_22 (by decide) ?_
  refine lv_istore_n (lv' := [(1, .int 0), (0, .ref (hm 0))]) hx hb dX10_runs_23 rfl hl (by decide) rfl (fun ls hl => ?_)
  have L24_41 : ∀ (n : Nat) (f_24 : Nat → Int32) (f_25 : Nat → Int32) (f_26 : Nat → Int32) (f_27 : Nat → Int32) (f_28 : Nat → Int32) (l_29 : Int32) (w_30 : Int32) (w_31 : Int32) (w_32 : Int32) (w_33 : Int32) (w_34 : Int32) (w_35 : Int32) (w_36 : Int32) (w_37 : Int32) (w_38 : Int32) (w_39 : Int32) (w_40 : Int32), (rg (0) 1 f_24) → (rg (0) 5 f_26) → (rg (0) 46655 f_27) → (0 ≤ l_29.toInt ∧ l_29.toInt ≤ 10) → (0 ≤ w_36.toInt ∧ w_36.toInt ≤ 5) → (0 ≤ w_38.toInt ∧ w_38.toInt ≤ 60) → (-1 ≤ w_40.toInt ∧ w_40.toInt ≤ 9) → 11 - l_29.toInt < n → ∀ (H : Heap) (locs : List Loc) (ls : Array Slot), va_P D vwCl (wMD cy hm v_taped v_walkers v_loads v_pieces v_changeCosts v_planned v_isMarch v_clauseMany v_place v_end v_bad v_clauses v_codes v_open v_stacked v_isOver v_isBehind w_36 w_32 w_35 w_30 w_33 w_31 w_34 v_packing v_packed w_38 w_37 w_40 w_39 f_m_tape f_m_knee f_m_weight f_m_isLame f_m_loadWeight f_m_owner f_m_food f_m_miles f_m_slope f_m_clauseLetter f_m_sumFrom f_m_codeFrom f_m_codeTo f_m_code f_m_codeArg f_m_newLetter f_m_newSum f_m_newFrom f_m_newTo f_m_newCode f_m_newArg f_m_stack f_28 f_24 f_m_least f_m_packPounds f_m_packOwner f_m_room f_m_givenTo f_m_canBe f_m_setPounds f_m_plainTime f_m_muleTime f_m_planTo f_m_march f_26 f_25 f_27 f_m_isReached f_m_toEnd f_m_upTo f_m_upNext f_m_byChanges f_m_bandPaces) H → va_D A (wMD cy hm v_taped v_walkers v_loads v_pieces v_changeCosts v_planned v_isMarch v_clauseMany v_place v_end v_bad v_clauses v_codes v_open v_stacked v_isOver v_isBehind w_36 w_32 w_35 w_30 w_33 w_31 w_34 v_packing v_packed w_38 w_37 w_40 w_39 f_m_tape f_m_knee f_m_weight f_m_isLame f_m_loadWeight f_m_owner f_m_food f_m_miles f_m_slope f_m_clauseLetter f_m_sumFrom f_m_codeFrom f_m_codeTo f_m_code f_m_codeArg f_m_newLetter f_m_newSum f_m_newFrom f_m_newTo f_m_newCode f_m_newArg f_m_stack f_28 f_24 f_m_least f_m_packPounds f_m_packOwner f_m_room f_m_givenTo f_m_canBe f_m_setPounds f_m_plainTime f_m_muleTime f_m_planTo f_m_march f_26 f_25 f_27 f_m_isReached f_m_toEnd f_m_upTo f_m_upNext f_m_byChanges f_m_bandPaces) → va_S A s.heap H locs → lv_has ls 2 [(1, .int l_29), (0, .ref (hm 0))] → W p l e (gRm 8) s m args below meth c H locs 0 0 Q (F0 m 24 ls []) := by
    intro n
    induction n with
    | zero => intro f_24 f_25 f_26 f_27 f_28 l_29 w_30 w_31 w_32 w_33 w_34 w_35 w_36 w_37 w_38 w_39 w_40 hL24_41_0 hL24_41_1 hL24_41_2 hL24_41_3 hL24_41_4 hL24_41_5 hL24_41_6 hm; exact absurd hm (by omega)
    | succ n ih24_41 =>
      intro f_24 f_25 f_26 f_27 f_28 l_29 w_30 w_31 w_32 w_33 w_34 w_35 w_36 w_37 w_38 w_39 w_40 hL24_41_0 hL24_41_1 hL24_41_2 hL24_41_3 hL24_41_4 hL24_41_5 hL24_41_6 hmL24_41 H locs ls hP hD hS hl
      refine lv_iload_n hx hb dX10_runs_24 rfl (lv_at hl 0 rfl) ?_
      refine lv_aload_n hx hb dX10_runs_25 rfl (lv_at hl 1 rfl) ?_
      refine gt_MD_MD_pieces hx hb hts hown hK hP lwd_265 dX10_runs_26 ?_
      refine lv_icmp_ge (tgt := 129) hx hb dX10_runs_29 (by decide) (fun c_42 => ?_) (fun c_42 => ?_)
      · have gc_42 : v_pieces.toInt ≤ l_29.toInt := i_le (rfl : v_pieces.toInt = v_pieces.toInt) (rfl : l_29.toInt = l_29.toInt) c_42
        exact hrt w_36 w_32 w_35 w_30 w_33 w_31 w_34 w_38 w_37 w_40 w_39 f_28 f_24 f_26 f_25 f_27 ⟨(by omega), (by omega), (by omega), hL24_41_0, hL24_41_1, hL24_41_2⟩ hP hD hS dX10_runs_129
      · have gc_42 : l_29.toInt < v_pieces.toInt := i_nle (rfl : v_pieces.toInt = v_pieces.toInt) (rfl : l_29.toInt = l_29.toInt) c_42
        refine lv_aload_n hx hb dX10_runs_32 rfl (lv_at hl 1 rfl) ?_
        refine gt_MD_MD_spentAt hx hb hts hown hK hP lwd_984 dX10_runs_33 ?_
        refine lv_iconst (v := (-1)) hx hb dX10_runs_36 (by decide) ?_
        refine lv_icmp_ne (tgt := 129) hx hb dX10_runs_37 (by decide) (fun c_43 => ?_) (fun c_43 => ?_)
        · have gc_43 : w_40.toInt ≠ (-1) := i_ne (rfl : w_40.toInt = w_40.toInt) (by decide : ((-1) : Int32).toInt = (-1)) c_43
          exact hrt w_36 w_32 w_35 w_30 w_33 w_31 w_34 w_38 w_37 w_40 w_39 f_28 f_24 f_26 f_25 f_27 ⟨(by omega), (by omega), (by omega), hL24_41_0, hL24_41_1, hL24_41_2⟩ hP hD hS dX10_runs_129
        · have gc_43 : w_40.toInt = (-1) := i_eq (rfl : w_40.toInt = w_40.toInt) (by decide : ((-1) : Int32).toInt = (-1)) c_43
          refine lv_aload_n hx hb dX10_runs_40 rfl (lv_at hl 1 rfl) ?_
          refine lv_iload_n hx hb dX10_runs_41 rfl (lv_at hl 0 rfl) ?_
          refine lv_aload_n hx hb dX10_runs_42 rfl (lv_at hl 1 rfl) ?_
          refine gt_MD_MD_march hx hb hts hown hK hP lwd_190 dX10_runs_43 ?_
          refine lv_iload_n hx hb dX10_runs_46 rfl (lv_at hl 0 rfl) ?_
          refine al_m_march hx hb hK hP hr_m_march (i_in (rfl : l_29.toInt = l_29.toInt) (by omega) (by omega)) dX10_runs_47 (fun n_44 en_44 bn_44 => ?_)
          refine xi hD hS hA (xV (As := [.int l_29, .int n_44]) (rest := []) hx hb hml hown hts hK hP hD hS hA NT_ok hN hAe hl.1 ⟨Nat.le_refl _, Nat.le_refl _⟩ 0 rfl rfl rfl (c_X10_goesOver l D cy hm v_taped v_walkers v_loads v_pieces v_changeCosts v_planned v_isMarch v_clauseMany v_place v_end v_bad v_clauses v_codes v_open v_stacked v_isOver v_isBehind w_36 w_32 w_35 w_30 w_33 w_31 w_34 v_packing v_packed w_38 w_37 w_40 w_39 f_m_tape f_m_knee f_m_weight f_m_isLame f_m_loadWeight f_m_owner f_m_food f_m_miles f_m_slope f_m_clauseLetter f_m_sumFrom f_m_codeFrom f_m_codeTo f_m_code f_m_codeArg f_m_newLetter f_m_newSum f_m_newFrom f_m_newTo f_m_newCode f_m_newArg f_m_stack f_28 f_24 f_m_least f_m_packPounds f_m_packOwner f_m_room f_m_givenTo f_m_canBe f_m_setPounds f_m_plainTime f_m_muleTime f_m_planTo f_m_march f_26 f_25 f_27 f_m_isReached f_m_toEnd f_m_upTo f_m_upNext f_m_byChanges f_m_bandPaces H.size l_29 n_44 (by omega) (by omega) (by omega) (by omega) (by omega) hr_m_weight hr_m_isLame hr_m_loadWeight hr_m_food hr_m_miles hL24_41_0 hL24_41_1 (by omega) (by omega) hwf) (gi_V lwd_995 lwd_996 lwd_997 lwd_5 lwd_998) ⟨rfl, hd_X10_goesOver⟩ ⟨Nat.le_of_ble_eq_true rfl, Nat.le_of_ble_eq_true rfl⟩ rfl (Nat.le_of_ble_eq_true rfl) dX10_runs_48) (fun r_46 u_45 H locs hw hP hD hS => ?_)
          obtain ⟨zatW_47, zatL_48, zatT_49, zatH_50, zatM_51, zatI_52, zatQ_53, zgoPace_54, zgoMinutes_55, zworth_56, zisRefused_57, ztired_58⟩ := u_45
          try dsimp only at hw hP hD
          obtain ⟨p_59, p_60, p_61, p_62, p_63⟩ := hw
          refine lv_if_ne (tgt := 62) hx hb dX10_runs_51 (by decide) (fun c_64 => ?_) (fun c_64 => ?_)
          · have gc_64 : r_46.toInt ≠ 0 := i_ne (rfl : r_46.toInt = r_46.toInt) (by decide : (0 : Int32).toInt = 0) c_64
            refine lv_aload_n hx hb dX10_runs_62 rfl (lv_at hl 1 rfl) ?_
            refine gt_MD_MD_ranMinutes hx hb hts hown hK hP lwd_192 dX10_runs_63 ?_
            refine lv_iload_n hx hb dX10_runs_66 rfl (lv_at hl 0 rfl) ?_
            refine lv_aload_n hx hb dX10_runs_67 rfl (lv_at hl 1 rfl) ?_
            refine gt_MD_MD_goMinutes hx hb hts hown hK hP lwd_990 dX10_runs_68 ?_
            refine lv_aload_n hx hb dX10_runs_71 rfl (lv_at hl 1 rfl) ?_
            refine lv_iload_n hx hb dX10_runs_72 rfl (lv_at hl 0 rfl) ?_
            refine xi hD hS hA (xV (As := [.int l_29]) (rest := [.int zgoMinutes_55, .int l_29, .ref (hm 37)]) hx hb hml hown hts hK hP hD hS hA NT_ok hN hAe hl.1 ⟨Nat.le_refl _, Nat.le_refl _⟩ 0 rfl rfl rfl (c_X10_isChange l D cy hm v_taped v_walkers v_loads v_pieces v_changeCosts v_planned v_isMarch v_clauseMany v_place v_end v_bad v_clauses v_codes v_open v_stacked v_isOver v_isBehind zatW_47 zatL_48 zatT_49 zatH_50 zatM_51 zatI_52 zatQ_53 v_packing v_packed zgoPace_54 zgoMinutes_55 w_40 w_39 f_m_tape f_m_knee f_m_weight f_m_isLame f_m_loadWeight f_m_owner f_m_food f_m_miles f_m_slope f_m_clauseLetter f_m_sumFrom f_m_codeFrom f_m_codeTo f_m_code f_m_codeArg f_m_newLetter f_m_newSum f_m_newFrom f_m_newTo f_m_newCode f_m_newArg f_m_stack zworth_56 zisRefused_57 f_m_least f_m_packPounds f_m_packOwner f_m_room f_m_givenTo f_m_canBe f_m_setPounds f_m_plainTime f_m_muleTime f_m_planTo f_m_march ztired_58 f_25 f_27 f_m_isReached f_m_toEnd f_m_upTo f_m_upNext f_m_byChanges f_m_bandPaces H.size l_29 hr_m_march (by omega)) (gi_V lwd_1012 lwd_1013 lwd_1014 lwd_5 lwd_1015) ⟨rfl, hd_X10_isChange⟩ ⟨Nat.le_of_ble_eq_true rfl, Nat.le_of_ble_eq_true rfl⟩ rfl (Nat.le_of_ble_eq_true rfl) dX10_runs_73) (fun r_66 u_65 H locs hw hP hD hS => ?_)
            try dsimp only at hw hP hD
            have p_67 := hw
            clear hw
            refine lv_if_eq (tgt := 86) hx hb dX10_runs_76 (by decide) (fun c_68 => ?_) (fun c_68 => ?_)
            · have gc_68 : r_66.toInt = 0 := i_eq (rfl : r_66.toInt = r_66.toInt) (by decide : (0 : Int32).toInt = 0) c_68
              refine lv_iconst (v := 0) hx hb dX10_runs_86 (by decide) ?_
              refine lv_iadd hx hb dX10_runs_87 ?_
              have hb_69 := And.intro (i_bot zgoMinutes_55) (i_top zgoMinutes_55)
              refine lv_topi (fun n_70 en_70 => ?_)
              have tn_70 : n_70.toInt = zgoMinutes_55.toInt + 0 := i_add en_70 (rfl : zgoMinutes_55.toInt = zgoMinutes_55.toInt) (by decide : (0 : Int32).toInt = 0) (by omega) (by omega)
              refine as_m_ranMinutes (x := n_70) hx hb hK hP hD hS (i_in (rfl : l_29.toInt = l_29.toInt) (by omega) (by omega)) dX10_runs_88 (fun f_71 ef_71 H locs hP hD hS => ?_)
              refine lv_aload_n hx hb dX10_runs_89 rfl (lv_at hl 1 rfl) ?_
              refine lv_dup hx hb dX10_runs_90 rfl ?_
              refine gt_MD_MD_ranChanges hx hb hts hown hK hP lwd_985 dX10_runs_91 ?_
              refine lv_aload_n hx hb dX10_runs_94 rfl (lv_at hl 1 rfl) ?_
              refine lv_iload_n hx hb dX10_runs_95 rfl (lv_at hl 0 rfl) ?_
              refine xi hD hS hA (xV (As := [.int l_29]) (rest := [.int w_39, .ref (hm 0)]) hx hb hml hown hts hK hP hD hS hA NT_ok hN hAe hl.1 ⟨Nat.le_refl _, Nat.le_refl _⟩ 0 rfl rfl rfl (c_X10_isChange l D cy hm v_taped v_walkers v_loads v_pieces v_changeCosts v_planned v_isMarch v_clauseMany v_place v_end v_bad v_clauses v_codes v_open v_stacked v_isOver v_isBehind zatW_47 zatL_48 zatT_49 zatH_50 zatM_51 zatI_52 zatQ_53 v_packing v_packed zgoPace_54 zgoMinutes_55 w_40 w_39 f_m_tape f_m_knee f_m_weight f_m_isLame f_m_loadWeight f_m_owner f_m_food f_m_miles f_m_slope f_m_clauseLetter f_m_sumFrom f_m_codeFrom f_m_codeTo f_m_code f_m_codeArg f_m_newLetter f_m_newSum f_m_newFrom f_m_newTo f_m_newCode f_m_newArg f_m_stack zworth_56 zisRefused_57 f_m_least f_m_packPounds f_m_packOwner f_m_room f_m_givenTo f_m_canBe f_m_setPounds f_m_plainTime f_m_muleTime f_m_planTo f_m_march ztired_58 f_71 f_27 f_m_isReached f_m_toEnd f_m_upTo f_m_upNext f_m_byChanges f_m_bandPaces H.size l_29 hr_m_march (by omega)) (gi_V lwd_1012 lwd_1013 lwd_1014 lwd_5 lwd_1015) ⟨rfl, hd_X10_isChange⟩ ⟨Nat.le_of_ble_eq_true rfl, Nat.le_of_ble_eq_true rfl⟩ rfl (Nat.le_of_ble_eq_true rfl) dX10_runs_96) (fun r_73 u_72 H locs hw hP hD hS => ?_)
              try dsimp only at hw hP hD
              have p_74 := hw
              clear hw
              refine lv_if_eq (tgt := 106) hx hb dX10_runs_99 (by decide) (fun c_75 => ?_) (fun c_75 => ?_)
              · have gc_75 : r_73.toInt = 0 := i_eq (rfl : r_73.toInt = r_73.toInt) (by decide : (0 : Int32).toInt = 0) c_75
                refine lv_iconst (v := 0) hx hb dX10_runs_106 (by decide) ?_
                refine lv_iadd hx hb dX10_runs_107 ?_
                have hb_76 := And.intro (i_bot w_39) (i_top w_39)
                refine lv_topi (fun n_77 en_77 => ?_)
                have tn_77 : n_77.toInt = w_39.toInt + 0 := i_add en_77 (rfl : w_39.toInt = w_39.toInt) (by decide : (0 : Int32).toInt = 0) (by omega) (by omega)
                refine pt_MD_MD_ranChanges (x := n_77) hx hb hts hown hK hP hD hS lwd_985 dX10_runs_108 (fun H locs hP hD hS => ?_)
                refine lv_aload_n hx hb dX10_runs_111 rfl (lv_at hl 1 rfl) ?_
                refine gt_MD_MD_tiredAhead hx hb hts hown hK hP lwd_193 dX10_runs_112 ?_
                refine lv_iload_n hx hb dX10_runs_115 rfl (lv_at hl 0 rfl) ?_
                refine lv_iconst (v := 1) hx hb dX10_runs_116 (by decide) ?_
                refine lv_iadd hx hb dX10_runs_117 ?_
                refine lv_topi (fun n_78 en_78 => ?_)
                have tn_78 : n_78.toInt = l_29.toInt + 1 := i_add en_78 (rfl : l_29.toInt = l_29.toInt) (by decide : (1 : Int32).toInt = 1) (by omega) (by omega)
                refine lv_aload_n hx hb dX10_runs_118 rfl (lv_at hl 1 rfl) ?_
                refine xi hD hS hA (xV (As := []) (rest := [.int n_78, .ref (hm 38)]) hx hb hml hown hts hK hP hD hS hA NT_ok hN hAe hl.1 ⟨Nat.le_refl _, Nat.le_refl _⟩ 0 rfl rfl rfl (c_X10_allTired l D cy hm v_taped v_walkers v_loads v_pieces v_changeCosts v_planned v_isMarch v_clauseMany v_place v_end v_bad v_clauses v_codes v_open v_stacked v_isOver v_isBehind zatW_47 zatL_48 zatT_49 zatH_50 zatM_51 zatI_52 zatQ_53 v_packing v_packed zgoPace_54 zgoMinutes_55 w_40 n_77 f_m_tape f_m_knee f_m_weight f_m_isLame f_m_loadWeight f_m_owner f_m_food f_m_miles f_m_slope f_m_clauseLetter f_m_sumFrom f_m_codeFrom f_m_codeTo f_m_code f_m_codeArg f_m_newLetter f_m_newSum f_m_newFrom f_m_newTo f_m_newCode f_m_newArg f_m_stack zworth_56 zisRefused_57 f_m_least f_m_packPounds f_m_packOwner f_m_room f_m_givenTo f_m_canBe f_m_setPounds f_m_plainTime f_m_muleTime f_m_planTo f_m_march ztired_58 f_71 f_27 f_m_isReached f_m_toEnd f_m_upTo f_m_upNext f_m_byChanges f_m_bandPaces H.size (by omega) p_63) (gi_V lwd_1016 lwd_1017 lwd_1018 lwd_5 lwd_1019) ⟨rfl, hd_X10_allTired⟩ ⟨Nat.le_of_ble_eq_true rfl, Nat.le_of_ble_eq_true rfl⟩ rfl (Nat.le_of_ble_eq_true rfl) dX10_runs_119) (fun r_80 u_79 H locs hw hP hD hS => ?_)
                try dsimp only at hw hP hD
                obtain ⟨p_81, p_82⟩ := hw
                refine as_m_tiredAhead (x := r_80) hx hb hK hP hD hS hL24_41_2 (i_in tn_78 (by omega) (by omega)) (by omega) dX10_runs_122 (fun f_83 ef_83 rf_83 H locs hP hD hS => ?_)
                obtain ⟨n_84, en_84⟩ : ∃ y : Int32, y = l_29 + 1 := ⟨_, rfl⟩
                have tn_84 : n_84.toInt = l_29.toInt + 1 := i_add en_84 (rfl : l_29.toInt = l_29.toInt) (by decide : (1 : Int32).toInt = 1) (by omega) (by omega)
                refine lv_iinc (v := n_84) (lv' := [(1, .int n_84), (0, .ref (hm 0))]) hx hb dX10_runs_123 hl (k := 0) rfl (by rw [en_84]; rfl) (by decide) rfl (fun ls hl => ?_)
                refine lv_goto (tgt := 24) hx hb dX10_runs_126 (by decide) ?_
                exact ih24_41 zisRefused_57 f_71 ztired_58 f_83 zworth_56 n_84 zatH_50 zatI_52 zatL_48 zatM_51 zatQ_53 zatT_49 zatW_47 zgoMinutes_55 zgoPace_54 n_77 w_40 p_62 p_63 rf_83 (by omega) (by omega) (by omega) (by omega) (by omega) _ _ _ hP hD hS (lv_sub hl [0, 1] rfl)
              · have gc_75 : r_73.toInt ≠ 0 := i_ne (rfl : r_73.toInt = r_73.toInt) (by decide : (0 : Int32).toInt = 0) c_75
                refine lv_iconst (v := 1) hx hb dX10_runs_102 (by decide) ?_
                refine lv_goto (tgt := 107) hx hb dX10_runs_103 (by decide) ?_
                refine lv_iadd hx hb dX10_runs_107 ?_
                refine lv_topi (fun n_85 en_85 => ?_)
                refine pt_MD_MD_ranChanges (x := n_85) hx hb hts hown hK hP hD hS lwd_985 dX10_runs_108 (fun H locs hP hD hS => ?_)
                refine lv_aload_n hx hb dX10_runs_111 rfl (lv_at hl 1 rfl) ?_
                refine gt_MD_MD_tiredAhead hx hb hts hown hK hP lwd_193 dX10_runs_112 ?_
                refine lv_iload_n hx hb dX10_runs_115 rfl (lv_at hl 0 rfl) ?_
                refine lv_iconst (v := 1) hx hb dX10_runs_116 (by decide) ?_
                refine lv_iadd hx hb dX10_runs_117 ?_
                refine lv_topi (fun n_86 en_86 => ?_)
                have tn_86 : n_86.toInt = l_29.toInt + 1 := i_add en_86 (rfl : l_29.toInt = l_29.toInt) (by decide : (1 : Int32).toInt = 1) (by omega) (by omega)
                refine lv_aload_n hx hb dX10_runs_118 rfl (lv_at hl 1 rfl) ?_
                refine xi hD hS hA (xV (As := []) (rest := [.int n_86, .ref (hm 38)]) hx hb hml hown hts hK hP hD hS hA NT_ok hN hAe hl.1 ⟨Nat.le_refl _, Nat.le_refl _⟩ 0 rfl rfl rfl (c_X10_allTired l D cy hm v_taped v_walkers v_loads v_pieces v_changeCosts v_planned v_isMarch v_clauseMany v_place v_end v_bad v_clauses v_codes v_open v_stacked v_isOver v_isBehind zatW_47 zatL_48 zatT_49 zatH_50 zatM_51 zatI_52 zatQ_53 v_packing v_packed zgoPace_54 zgoMinutes_55 w_40 n_85 f_m_tape f_m_knee f_m_weight f_m_isLame f_m_loadWeight f_m_owner f_m_food f_m_miles f_m_slope f_m_clauseLetter f_m_sumFrom f_m_codeFrom f_m_codeTo f_m_code f_m_codeArg f_m_newLetter f_m_newSum f_m_newFrom f_m_newTo f_m_newCode f_m_newArg f_m_stack zworth_56 zisRefused_57 f_m_least f_m_packPounds f_m_packOwner f_m_room f_m_givenTo f_m_canBe f_m_setPounds f_m_plainTime f_m_muleTime f_m_planTo f_m_march ztired_58 f_71 f_27 f_m_isReached f_m_toEnd f_m_upTo f_m_upNext f_m_byChanges f_m_bandPaces H.size (by omega) p_63) (gi_V lwd_1016 lwd_1017 lwd_1018 lwd_5 lwd_1019) ⟨rfl, hd_X10_allTired⟩ ⟨Nat.le_of_ble_eq_true rfl, Nat.le_of_ble_eq_true rfl⟩ rfl (Nat.le_of_ble_eq_true rfl) dX10_runs_119) (fun r_88 u_87 H locs hw hP hD hS => ?_)
                try dsimp only at hw hP hD
                obtain ⟨p_89, p_90⟩ := hw
                refine as_m_tiredAhead (x := r_88) hx hb hK hP hD hS hL24_41_2 (i_in tn_86 (by omega) (by omega)) (by omega) dX10_runs_122 (fun f_91 ef_91 rf_91 H locs hP hD hS => ?_)
                obtain ⟨n_92, en_92⟩ : ∃ y : Int32, y = l_29 + 1 := ⟨_, rfl⟩
                have tn_92 : n_92.toInt = l_29.toInt + 1 := i_add en_92 (rfl : l_29.toInt = l_29.toInt) (by decide : (1 : Int32).toInt = 1) (by omega) (by omega)
                refine lv_iinc (v := n_92) (lv' := [(1, .int n_92), (0, .ref (hm 0))]) hx hb dX10_runs_123 hl (k := 0) rfl (by rw [en_92]; rfl) (by decide) rfl (fun ls hl => ?_)
                refine lv_goto (tgt := 24) hx hb dX10_runs_126 (by decide) ?_
                exact ih24_41 zisRefused_57 f_71 ztired_58 f_91 zworth_56 n_92 zatH_50 zatI_52 zatL_48 zatM_51 zatQ_53 zatT_49 zatW_47 zgoMinutes_55 zgoPace_54 n_85 w_40 p_62 p_63 rf_91 (by omega) (by omega) (by omega) (by omega) (by omega) _ _ _ hP hD hS (lv_sub hl [0, 1] rfl)
            · have gc_68 : r_66.toInt ≠ 0 := i_ne (rfl : r_66.toInt = r_66.toInt) (by decide : (0 : Int32).toInt = 0) c_68
              refine lv_aload_n hx hb dX10_runs_79 rfl (lv_at hl 1 rfl) ?_
              refine gt_MD_MD_changeCosts hx hb hts hown hK hP lwd_156 dX10_runs_80 ?_
              refine lv_goto (tgt := 87) hx hb dX10_runs_83 (by decide) ?_
              refine lv_iadd hx hb dX10_runs_87 ?_
              refine lv_topi (fun n_93 en_93 => ?_)
              refine as_m_ranMinutes (x := n_93) hx hb hK hP hD hS (i_in (rfl : l_29.toInt = l_29.toInt) (by omega) (by omega)) dX10_runs_88 (fun f_94 ef_94 H locs hP hD hS => ?_)
              refine lv_aload_n hx hb dX10_runs_89 rfl (lv_at hl 1 rfl) ?_
              refine lv_dup hx hb dX10_runs_90 rfl ?_
              refine gt_MD_MD_ranChanges hx hb hts hown hK hP lwd_985 dX10_runs_91 ?_
              refine lv_aload_n hx hb dX10_runs_94 rfl (lv_at hl 1 rfl) ?_
              refine lv_iload_n hx hb dX10_runs_95 rfl (lv_at hl 0 rfl) ?_
              refine xi hD hS hA (xV (As := [.int l_29]) (rest := [.int w_39, .ref (hm 0)]) hx hb hml hown hts hK hP hD hS hA NT_ok hN hAe hl.1 ⟨Nat.le_refl _, Nat.le_refl _⟩ 0 rfl rfl rfl (c_X10_isChange l D cy hm v_taped v_walkers v_loads v_pieces v_changeCosts v_planned v_isMarch v_clauseMany v_place v_end v_bad v_clauses v_codes v_open v_stacked v_isOver v_isBehind zatW_47 zatL_48 zatT_49 zatH_50 zatM_51 zatI_52 zatQ_53 v_packing v_packed zgoPace_54 zgoMinutes_55 w_40 w_39 f_m_tape f_m_knee f_m_weight f_m_isLame f_m_loadWeight f_m_owner f_m_food f_m_miles f_m_slope f_m_clauseLetter f_m_sumFrom f_m_codeFrom f_m_codeTo f_m_code f_m_codeArg f_m_newLetter f_m_newSum f_m_newFrom f_m_newTo f_m_newCode f_m_newArg f_m_stack zworth_56 zisRefused_57 f_m_least f_m_packPounds f_m_packOwner f_m_room f_m_givenTo f_m_canBe f_m_setPounds f_m_plainTime f_m_muleTime f_m_planTo f_m_march ztired_58 f_94 f_27 f_m_isReached f_m_toEnd f_m_upTo f_m_upNext f_m_byChanges f_m_bandPaces H.size l_29 hr_m_march (by omega)) (gi_V lwd_1012 lwd_1013 lwd_1014 lwd_5 lwd_1015) ⟨rfl, hd_X10_isChange⟩ ⟨Nat.le_of_ble_eq_true rfl, Nat.le_of_ble_eq_true rfl⟩ rfl (Nat.le_of_ble_eq_true rfl) dX10_runs_96) (fun r_96 u_95 H locs hw hP hD hS => ?_)
              try dsimp only at hw hP hD
              have p_97 := hw
              clear hw
              refine lv_if_eq (tgt := 106) hx hb dX10_runs_99 (by decide) (fun c_98 => ?_) (fun c_98 => ?_)
              · have gc_98 : r_96.toInt = 0 := i_eq (rfl : r_96.toInt = r_96.toInt) (by decide : (0 : Int32).toInt = 0) c_98
                refine lv_iconst (v := 0) hx hb dX10_runs_106 (by decide) ?_
                refine lv_iadd hx hb dX10_runs_107 ?_
                have hb_99 := And.intro (i_bot w_39) (i_top w_39)
                refine lv_topi (fun n_100 en_100 => ?_)
                have tn_100 : n_100.toInt = w_39.toInt + 0 := i_add en_100 (rfl : w_39.toInt = w_39.toInt) (by decide : (0 : Int32).toInt = 0) (by omega) (by omega)
                refine pt_MD_MD_ranChanges (x := n_100) hx hb hts hown hK hP hD hS lwd_985 dX10_runs_108 (fun H locs hP hD hS => ?_)
                refine lv_aload_n hx hb dX10_runs_111 rfl (lv_at hl 1 rfl) ?_
                refine gt_MD_MD_tiredAhead hx hb hts hown hK hP lwd_193 dX10_runs_112 ?_
                refine lv_iload_n hx hb dX10_runs_115 rfl (lv_at hl 0 rfl) ?_
                refine lv_iconst (v := 1) hx hb dX10_runs_116 (by decide) ?_
                refine lv_iadd hx hb dX10_runs_117 ?_
                refine lv_topi (fun n_101 en_101 => ?_)
                have tn_101 : n_101.toInt = l_29.toInt + 1 := i_add en_101 (rfl : l_29.toInt = l_29.toInt) (by decide : (1 : Int32).toInt = 1) (by omega) (by omega)
                refine lv_aload_n hx hb dX10_runs_118 rfl (lv_at hl 1 rfl) ?_
                refine xi hD hS hA (xV (As := []) (rest := [.int n_101, .ref (hm 38)]) hx hb hml hown hts hK hP hD hS hA NT_ok hN hAe hl.1 ⟨Nat.le_refl _, Nat.le_refl _⟩ 0 rfl rfl rfl (c_X10_allTired l D cy hm v_taped v_walkers v_loads v_pieces v_changeCosts v_planned v_isMarch v_clauseMany v_place v_end v_bad v_clauses v_codes v_open v_stacked v_isOver v_isBehind zatW_47 zatL_48 zatT_49 zatH_50 zatM_51 zatI_52 zatQ_53 v_packing v_packed zgoPace_54 zgoMinutes_55 w_40 n_100 f_m_tape f_m_knee f_m_weight f_m_isLame f_m_loadWeight f_m_owner f_m_food f_m_miles f_m_slope f_m_clauseLetter f_m_sumFrom f_m_codeFrom f_m_codeTo f_m_code f_m_codeArg f_m_newLetter f_m_newSum f_m_newFrom f_m_newTo f_m_newCode f_m_newArg f_m_stack zworth_56 zisRefused_57 f_m_least f_m_packPounds f_m_packOwner f_m_room f_m_givenTo f_m_canBe f_m_setPounds f_m_plainTime f_m_muleTime f_m_planTo f_m_march ztired_58 f_94 f_27 f_m_isReached f_m_toEnd f_m_upTo f_m_upNext f_m_byChanges f_m_bandPaces H.size (by omega) p_63) (gi_V lwd_1016 lwd_1017 lwd_1018 lwd_5 lwd_1019) ⟨rfl, hd_X10_allTired⟩ ⟨Nat.le_of_ble_eq_true rfl, Nat.le_of_ble_eq_true rfl⟩ rfl (Nat.le_of_ble_eq_true rfl) dX10_runs_119) (fun r_103 u_102 H locs hw hP hD hS => ?_)
                try dsimp only at hw hP hD
                obtain ⟨p_104, p_105⟩ := hw
                refine as_m_tiredAhead (x := r_103) hx hb hK hP hD hS hL24_41_2 (i_in tn_101 (by omega) (by omega)) (by omega) dX10_runs_122 (fun f_106 ef_106 rf_106 H locs hP hD hS => ?_)
                obtain ⟨n_107, en_107⟩ : ∃ y : Int32, y = l_29 + 1 := ⟨_, rfl⟩
                have tn_107 : n_107.toInt = l_29.toInt + 1 := i_add en_107 (rfl : l_29.toInt = l_29.toInt) (by decide : (1 : Int32).toInt = 1) (by omega) (by omega)
                refine lv_iinc (v := n_107) (lv' := [(1, .int n_107), (0, .ref (hm 0))]) hx hb dX10_runs_123 hl (k := 0) rfl (by rw [en_107]; rfl) (by decide) rfl (fun ls hl => ?_)
                refine lv_goto (tgt := 24) hx hb dX10_runs_126 (by decide) ?_
                exact ih24_41 zisRefused_57 f_94 ztired_58 f_106 zworth_56 n_107 zatH_50 zatI_52 zatL_48 zatM_51 zatQ_53 zatT_49 zatW_47 zgoMinutes_55 zgoPace_54 n_100 w_40 p_62 p_63 rf_106 (by omega) (by omega) (by omega) (by omega) (by omega) _ _ _ hP hD hS (lv_sub hl [0, 1] rfl)
              · have gc_98 : r_96.toInt ≠ 0 := i_ne (rfl : r_96.toInt = r_96.toInt) (by decide : (0 : Int32).toInt = 0) c_98
                refine lv_iconst (v := 1) hx hb dX10_runs_102 (by decide) ?_
                refine lv_goto (tgt := 107) hx hb dX10_runs_103 (by decide) ?_
                refine lv_iadd hx hb dX10_runs_107 ?_
                refine lv_topi (fun n_108 en_108 => ?_)
                refine pt_MD_MD_ranChanges (x := n_108) hx hb hts hown hK hP hD hS lwd_985 dX10_runs_108 (fun H locs hP hD hS => ?_)
                refine lv_aload_n hx hb dX10_runs_111 rfl (lv_at hl 1 rfl) ?_
                refine gt_MD_MD_tiredAhead hx hb hts hown hK hP lwd_193 dX10_runs_112 ?_
                refine lv_iload_n hx hb dX10_runs_115 rfl (lv_at hl 0 rfl) ?_
                refine lv_iconst (v := 1) hx hb dX10_runs_116 (by decide) ?_
                refine lv_iadd hx hb dX10_runs_117 ?_
                refine lv_topi (fun n_109 en_109 => ?_)
                have tn_109 : n_109.toInt = l_29.toInt + 1 := i_add en_109 (rfl : l_29.toInt = l_29.toInt) (by decide : (1 : Int32).toInt = 1) (by omega) (by omega)
                refine lv_aload_n hx hb dX10_runs_118 rfl (lv_at hl 1 rfl) ?_
                refine xi hD hS hA (xV (As := []) (rest := [.int n_109, .ref (hm 38)]) hx hb hml hown hts hK hP hD hS hA NT_ok hN hAe hl.1 ⟨Nat.le_refl _, Nat.le_refl _⟩ 0 rfl rfl rfl (c_X10_allTired l D cy hm v_taped v_walkers v_loads v_pieces v_changeCosts v_planned v_isMarch v_clauseMany v_place v_end v_bad v_clauses v_codes v_open v_stacked v_isOver v_isBehind zatW_47 zatL_48 zatT_49 zatH_50 zatM_51 zatI_52 zatQ_53 v_packing v_packed zgoPace_54 zgoMinutes_55 w_40 n_108 f_m_tape f_m_knee f_m_weight f_m_isLame f_m_loadWeight f_m_owner f_m_food f_m_miles f_m_slope f_m_clauseLetter f_m_sumFrom f_m_codeFrom f_m_codeTo f_m_code f_m_codeArg f_m_newLetter f_m_newSum f_m_newFrom f_m_newTo f_m_newCode f_m_newArg f_m_stack zworth_56 zisRefused_57 f_m_least f_m_packPounds f_m_packOwner f_m_room f_m_givenTo f_m_canBe f_m_setPounds f_m_plainTime f_m_muleTime f_m_planTo f_m_march ztired_58 f_94 f_27 f_m_isReached f_m_toEnd f_m_upTo f_m_upNext f_m_byChanges f_m_bandPaces H.size (by omega) p_63) (gi_V lwd_1016 lwd_1017 lwd_1018 lwd_5 lwd_1019) ⟨rfl, hd_X10_allTired⟩ ⟨Nat.le_of_ble_eq_true rfl, Nat.le_of_ble_eq_true rfl⟩ rfl (Nat.le_of_ble_eq_true rfl) dX10_runs_119) (fun r_111 u_110 H locs hw hP hD hS => ?_)
                try dsimp only at hw hP hD
                obtain ⟨p_112, p_113⟩ := hw
                refine as_m_tiredAhead (x := r_111) hx hb hK hP hD hS hL24_41_2 (i_in tn_109 (by omega) (by omega)) (by omega) dX10_runs_122 (fun f_114 ef_114 rf_114 H locs hP hD hS => ?_)
                obtain ⟨n_115, en_115⟩ : ∃ y : Int32, y = l_29 + 1 := ⟨_, rfl⟩
                have tn_115 : n_115.toInt = l_29.toInt + 1 := i_add en_115 (rfl : l_29.toInt = l_29.toInt) (by decide : (1 : Int32).toInt = 1) (by omega) (by omega)
                refine lv_iinc (v := n_115) (lv' := [(1, .int n_115), (0, .ref (hm 0))]) hx hb dX10_runs_123 hl (k := 0) rfl (by rw [en_115]; rfl) (by decide) rfl (fun ls hl => ?_)
                refine lv_goto (tgt := 24) hx hb dX10_runs_126 (by decide) ?_
                exact ih24_41 zisRefused_57 f_94 ztired_58 f_114 zworth_56 n_115 zatH_50 zatI_52 zatL_48 zatM_51 zatQ_53 zatT_49 zatW_47 zgoMinutes_55 zgoPace_54 n_108 w_40 p_62 p_63 rf_114 (by omega) (by omega) (by omega) (by omega) (by omega) _ _ _ hP hD hS (lv_sub hl [0, 1] rfl)
          · have gc_64 : r_46.toInt = 0 := i_eq (rfl : r_46.toInt = r_46.toInt) (by decide : (0 : Int32).toInt = 0) c_64
            refine lv_aload_n hx hb dX10_runs_54 rfl (lv_at hl 1 rfl) ?_
            refine lv_iload_n hx hb dX10_runs_55 rfl (lv_at hl 0 rfl) ?_
            refine pt_MD_MD_spentAt (x := l_29) hx hb hts hown hK hP hD hS lwd_984 dX10_runs_56 (fun H locs hP hD hS => ?_)
            refine lv_goto (tgt := 123) hx hb dX10_runs_59 (by decide) ?_
            obtain ⟨n_116, en_116⟩ : ∃ y : Int32, y = l_29 + 1 := ⟨_, rfl⟩
            have tn_116 : n_116.toInt = l_29.toInt + 1 := i_add en_116 (rfl : l_29.toInt = l_29.toInt) (by decide : (1 : Int32).toInt = 1) (by omega) (by omega)
            refine lv_iinc (v := n_116) (lv' := [(1, .int n_116), (0, .ref (hm 0))]) hx hb dX10_runs_123 hl (k := 0) rfl (by rw [en_116]; rfl) (by decide) rfl (fun ls hl => ?_)
            refine lv_goto (tgt := 24) hx hb dX10_runs_126 (by decide) ?_
            exact ih24_41 zisRefused_57 f_25 ztired_58 f_27 zworth_56 n_116 zatH_50 zatI_52 zatL_48 zatM_51 zatQ_53 zatT_49 zatW_47 zgoMinutes_55 zgoPace_54 w_39 l_29 p_62 p_63 hL24_41_2 (by omega) (by omega) (by omega) (by omega) (by omega) _ _ _ hP hD hS (lv_sub hl [0, 1] rfl)
  have k_117 : (0 : Int32).toInt = 0 := by decide
  have k_118 : (0 : Int32).toInt = 0 := by decide
  have k_119 : ((-1) : Int32).toInt = (-1) := by decide
  exact L24_41 8589934592 f_m_isRefused f_m_ranMinutes ztired_4 f_6 f_m_worth 0 v_atH v_atI v_atL v_atM v_atQ v_atT v_atW v_goMinutes v_goPace 0 (-1) hr_m_isRefused p_5 rf_6 (by omega) (by omega) (by omega) (by omega) (by omega) _ _ _ hP hD hS (lv_sub hl [0, 1] rfl)
set_option maxHeartbeats 16000000 in
set_option maxRecDepth 100000 in
theorem c_X10_gone (l : Launch) (D : va_G) (cy : Nat → ClassId) (hm : Nat → Nat) (v_taped v_walkers v_loads v_pieces v_changeCosts v_planned v_isMarch v_clauseMany v_place v_end v_bad v_clauses v_codes v_open v_stacked v_isOver v_isBehind v_atW v_atL v_atT v_atH v_atM v_atI v_atQ v_packing v_packed v_goPace v_goMinutes v_spentAt v_ranChanges : Int32) (f_m_tape f_m_knee f_m_weight f_m_isLame f_m_loadWeight f_m_owner f_m_food f_m_miles f_m_slope f_m_clauseLetter f_m_sumFrom f_m_codeFrom f_m_codeTo f_m_code f_m_codeArg f_m_newLetter f_m_newSum f_m_newFrom f_m_newTo f_m_newCode f_m_newArg f_m_stack f_m_worth f_m_isRefused f_m_least f_m_packPounds f_m_packOwner f_m_room f_m_givenTo f_m_canBe f_m_setPounds f_m_plainTime f_m_muleTime f_m_planTo f_m_march f_m_tired f_m_ranMinutes f_m_tiredAhead f_m_isReached f_m_toEnd f_m_upTo f_m_upNext f_m_byChanges f_m_bandPaces : Nat → Int32) (sz : Nat) (hb_v_pieces : 0 ≤ v_pieces.toInt ∧ v_pieces.toInt ≤ 10) (hb_v_spentAt : -1 ≤ v_spentAt.toInt ∧ v_spentAt.toInt ≤ 9) : gMi l yX10_gone cX10_gone 1 .int 1 [.ref (hm 0)] D cy (wMD cy hm v_taped v_walkers v_loads v_pieces v_changeCosts v_planned v_isMarch v_clauseMany v_place v_end v_bad v_clauses v_codes v_open v_stacked v_isOver v_isBehind v_atW v_atL v_atT v_atH v_atM v_atI v_atQ v_packing v_packed v_goPace v_goMinutes v_spentAt v_ranChanges f_m_tape f_m_knee f_m_weight f_m_isLame f_m_loadWeight f_m_owner f_m_food f_m_miles f_m_slope f_m_clauseLetter f_m_sumFrom f_m_codeFrom f_m_codeTo f_m_code f_m_codeArg f_m_newLetter f_m_newSum f_m_newFrom f_m_newTo f_m_newCode f_m_newArg f_m_stack f_m_worth f_m_isRefused f_m_least f_m_packPounds f_m_packOwner f_m_room f_m_givenTo f_m_canBe f_m_setPounds f_m_plainTime f_m_muleTime f_m_planTo f_m_march f_m_tired f_m_ranMinutes f_m_tiredAhead f_m_isReached f_m_toEnd f_m_upTo f_m_upNext f_m_byChanges f_m_bandPaces) NT sz (fun (r : Int32) (u : Unit) => (0 ≤ r.toInt ∧ r.toInt ≤ 10)) (fun u => wMD cy hm v_taped v_walkers v_loads v_pieces v_changeCosts v_planned v_isMarch v_clauseMany v_place v_end v_bad v_clauses v_codes v_open v_stacked v_isOver v_isBehind v_atW v_atL v_atT v_atH v_atM v_atI v_atQ v_packing v_packed v_goPace v_goMinutes v_spentAt v_ranChanges f_m_tape f_m_knee f_m_weight f_m_isLame f_m_loadWeight f_m_owner f_m_food f_m_miles f_m_slope f_m_clauseLetter f_m_sumFrom f_m_codeFrom f_m_codeTo f_m_code f_m_codeArg f_m_newLetter f_m_newSum f_m_newFrom f_m_newTo f_m_newCode f_m_newArg f_m_stack f_m_worth f_m_isRefused f_m_least f_m_packPounds f_m_packOwner f_m_room f_m_givenTo f_m_canBe f_m_setPounds f_m_plainTime f_m_muleTime f_m_planTo f_m_march f_m_tired f_m_ranMinutes f_m_tiredAhead f_m_isReached f_m_toEnd f_m_upTo f_m_upNext f_m_byChanges f_m_bandPaces) := by
  refine gMi_in (by decide) (Nat.le_of_ble_eq_true rfl) ?_
  intro p e s m args below meth c A ls Q hx hb hml hts hown hsz hP hK hD hN hAe hA hS hl hret
  subst hsz
  have hl : lv_has ls 1 [(0, .ref (hm 0))] := hl
  have hrt := fun (r : Int32)  (hp : (0 ≤ r.toInt ∧ r.toInt ≤ 10)) {H : Heap} {locs : List Loc} {pc : Nat} {ls : Array Slot} => hret r () (H := H) (locs := locs) (pc := pc) (ls := ls) hp
  clear hret
  refine lv_aload_n hx hb dX10_gone_0 rfl (lv_at hl 0 rfl) ?_
  refine gt_MD_MD_spentAt hx hb hts hown hK hP lwd_984 dX10_gone_1 ?_
  refine lv_iconst (v := (-1)) hx hb dX10_gone_4 (by decide) ?_
  refine lv_icmp_ne (tgt := 15) hx hb dX10_gone_5 (by decide) (fun c_1 => ?_) (fun c_1 => ?_)
  · have gc_1 : v_spentAt.toInt ≠ (-1) := i_ne (rfl : v_spentAt.toInt = v_spentAt.toInt) (by decide : ((-1) : Int32).toInt = (-1)) c_1
    refine lv_aload_n hx hb dX10_gone_15 rfl (lv_at hl 0 rfl) ?_
    refine gt_MD_MD_spentAt hx hb hts hown hK hP lwd_984 dX10_gone_16 ?_
    exact hrt v_spentAt  (by omega) hP hD hS rfl dX10_gone_19
  · have gc_1 : v_spentAt.toInt = (-1) := i_eq (rfl : v_spentAt.toInt = v_spentAt.toInt) (by decide : ((-1) : Int32).toInt = (-1)) c_1
    refine lv_aload_n hx hb dX10_gone_8 rfl (lv_at hl 0 rfl) ?_
    refine gt_MD_MD_pieces hx hb hts hown hK hP lwd_265 dX10_gone_9 ?_
    refine lv_goto (tgt := 19) hx hb dX10_gone_12 (by decide) ?_
    exact hrt v_pieces  (by omega) hP hD hS rfl dX10_gone_19
set_option maxHeartbeats 16000000 in
set_option maxRecDepth 100000 in
theorem c_X10_ran (l : Launch) (D : va_G) (cy : Nat → ClassId) (hm : Nat → Nat) (v_taped v_walkers v_loads v_pieces v_changeCosts v_planned v_isMarch v_clauseMany v_place v_end v_bad v_clauses v_codes v_open v_stacked v_isOver v_isBehind v_atW v_atL v_atT v_atH v_atM v_atI v_atQ v_packing v_packed v_goPace v_goMinutes v_spentAt v_ranChanges : Int32) (f_m_tape f_m_knee f_m_weight f_m_isLame f_m_loadWeight f_m_owner f_m_food f_m_miles f_m_slope f_m_clauseLetter f_m_sumFrom f_m_codeFrom f_m_codeTo f_m_code f_m_codeArg f_m_newLetter f_m_newSum f_m_newFrom f_m_newTo f_m_newCode f_m_newArg f_m_stack f_m_worth f_m_isRefused f_m_least f_m_packPounds f_m_packOwner f_m_room f_m_givenTo f_m_canBe f_m_setPounds f_m_plainTime f_m_muleTime f_m_planTo f_m_march f_m_tired f_m_ranMinutes f_m_tiredAhead f_m_isReached f_m_toEnd f_m_upTo f_m_upNext f_m_byChanges f_m_bandPaces : Nat → Int32) (sz : Nat) (what : Int32) (hb_v_walkers : 0 ≤ v_walkers.toInt ∧ v_walkers.toInt ≤ 6) (hb_v_loads : 0 ≤ v_loads.toInt ∧ v_loads.toInt ≤ 9) (hb_v_pieces : 0 ≤ v_pieces.toInt ∧ v_pieces.toInt ≤ 10) (hb_v_isMarch : 0 ≤ v_isMarch.toInt ∧ v_isMarch.toInt ≤ 1) (hb_v_clauseMany : 0 ≤ v_clauseMany.toInt ∧ v_clauseMany.toInt ≤ 14) (hb_v_atW : 0 ≤ v_atW.toInt ∧ v_atW.toInt ≤ 5) (hb_v_goPace : 0 ≤ v_goPace.toInt ∧ v_goPace.toInt ≤ 60) (hb_v_spentAt : -1 ≤ v_spentAt.toInt ∧ v_spentAt.toInt ≤ 9) (hr_m_weight : rg (0) 250 f_m_weight) (hr_m_isLame : rg (0) 1 f_m_isLame) (hr_m_loadWeight : rg (0) 120 f_m_loadWeight) (hr_m_food : rg (0) 20 f_m_food) (hr_m_miles : rg (0) 20 f_m_miles) (hr_m_isRefused : rg (0) 1 f_m_isRefused) (hr_m_march : rg (0) 17 f_m_march) (hr_m_tired : rg (0) 5 f_m_tired) (hr_m_tiredAhead : rg (0) 46655 f_m_tiredAhead) (hwf : wfC v_clauseMany f_m_sumFrom f_m_codeFrom f_m_codeTo f_m_code) : gMi l yX10_ran cX10_ran 4 .int 9 [.ref (hm 0), .int what] D cy (wMD cy hm v_taped v_walkers v_loads v_pieces v_changeCosts v_planned v_isMarch v_clauseMany v_place v_end v_bad v_clauses v_codes v_open v_stacked v_isOver v_isBehind v_atW v_atL v_atT v_atH v_atM v_atI v_atQ v_packing v_packed v_goPace v_goMinutes v_spentAt v_ranChanges f_m_tape f_m_knee f_m_weight f_m_isLame f_m_loadWeight f_m_owner f_m_food f_m_miles f_m_slope f_m_clauseLetter f_m_sumFrom f_m_codeFrom f_m_codeTo f_m_code f_m_codeArg f_m_newLetter f_m_newSum f_m_newFrom f_m_newTo f_m_newCode f_m_newArg f_m_stack f_m_worth f_m_isRefused f_m_least f_m_packPounds f_m_packOwner f_m_room f_m_givenTo f_m_canBe f_m_setPounds f_m_plainTime f_m_muleTime f_m_planTo f_m_march f_m_tired f_m_ranMinutes f_m_tiredAhead f_m_isReached f_m_toEnd f_m_upTo f_m_upNext f_m_byChanges f_m_bandPaces) NT sz (fun (r : Int32) (u : Int32 × Int32 × Int32 × Int32 × Int32 × Int32 × Int32 × Int32 × Int32 × Int32 × Int32 × (Nat → Int32) × (Nat → Int32) × (Nat → Int32) × (Nat → Int32) × (Nat → Int32)) => (0 ≤ (u.1).toInt ∧ (u.1).toInt ≤ 5) ∧ (0 ≤ (u.2.2.2.2.2.2.2.1).toInt ∧ (u.2.2.2.2.2.2.2.1).toInt ≤ 60) ∧ (-1 ≤ (u.2.2.2.2.2.2.2.2.2.1).toInt ∧ (u.2.2.2.2.2.2.2.2.2.1).toInt ≤ 9) ∧ (rg (0) 1 (u.2.2.2.2.2.2.2.2.2.2.2.2.1)) ∧ (rg (0) 5 (u.2.2.2.2.2.2.2.2.2.2.2.2.2.1)) ∧ (rg (0) 46655 (u.2.2.2.2.2.2.2.2.2.2.2.2.2.2.2))) (fun u => wMD cy hm v_taped v_walkers v_loads v_pieces v_changeCosts v_planned v_isMarch v_clauseMany v_place v_end v_bad v_clauses v_codes v_open v_stacked v_isOver v_isBehind (u.1) (u.2.1) (u.2.2.1) (u.2.2.2.1) (u.2.2.2.2.1) (u.2.2.2.2.2.1) (u.2.2.2.2.2.2.1) v_packing v_packed (u.2.2.2.2.2.2.2.1) (u.2.2.2.2.2.2.2.2.1) (u.2.2.2.2.2.2.2.2.2.1) (u.2.2.2.2.2.2.2.2.2.2.1) f_m_tape f_m_knee f_m_weight f_m_isLame f_m_loadWeight f_m_owner f_m_food f_m_miles f_m_slope f_m_clauseLetter f_m_sumFrom f_m_codeFrom f_m_codeTo f_m_code f_m_codeArg f_m_newLetter f_m_newSum f_m_newFrom f_m_newTo f_m_newCode f_m_newArg f_m_stack (u.2.2.2.2.2.2.2.2.2.2.2.1) (u.2.2.2.2.2.2.2.2.2.2.2.2.1) f_m_least f_m_packPounds f_m_packOwner f_m_room f_m_givenTo f_m_canBe f_m_setPounds f_m_plainTime f_m_muleTime f_m_planTo f_m_march (u.2.2.2.2.2.2.2.2.2.2.2.2.2.1) (u.2.2.2.2.2.2.2.2.2.2.2.2.2.2.1) (u.2.2.2.2.2.2.2.2.2.2.2.2.2.2.2) f_m_isReached f_m_toEnd f_m_upTo f_m_upNext f_m_byChanges f_m_bandPaces) := by
  refine gMi_in (by decide) (Nat.le_of_ble_eq_true rfl) ?_
  intro p e s m args below meth c A ls Q hx hb hml hts hown hsz hP hK hD hN hAe hA hS hl hret
  subst hsz
  have hl : lv_has ls 4 [(0, .ref (hm 0)), (1, .int what)] := hl
  have hrt := fun (r : Int32) (v_atW' : Int32) (v_atL' : Int32) (v_atT' : Int32) (v_atH' : Int32) (v_atM' : Int32) (v_atI' : Int32) (v_atQ' : Int32) (v_goPace' : Int32) (v_goMinutes' : Int32) (v_spentAt' : Int32) (v_ranChanges' : Int32) (f_m_worth' : Nat → Int32) (f_m_isRefused' : Nat → Int32) (f_m_tired' : Nat → Int32) (f_m_ranMinutes' : Nat → Int32) (f_m_tiredAhead' : Nat → Int32) (hp : (0 ≤ v_atW'.toInt ∧ v_atW'.toInt ≤ 5) ∧ (0 ≤ v_goPace'.toInt ∧ v_goPace'.toInt ≤ 60) ∧ (-1 ≤ v_spentAt'.toInt ∧ v_spentAt'.toInt ≤ 9) ∧ (rg (0) 1 f_m_isRefused') ∧ (rg (0) 5 f_m_tired') ∧ (rg (0) 46655 f_m_tiredAhead')) {H : Heap} {locs : List Loc} {pc : Nat} {ls : Array Slot} => hret r (v_atW', v_atL', v_atT', v_atH', v_atM', v_atI', v_atQ', v_goPace', v_goMinutes', v_spentAt', v_ranChanges', f_m_worth', f_m_isRefused', f_m_tired', f_m_ranMinutes', f_m_tiredAhead') (H := H) (locs := locs) (pc := pc) (ls := ls) hp
  clear hret
  refine lv_iload_n hx hb dX10_ran_0 rfl (lv_at hl 1 rfl) ?_
  refine lv_i2l (v := what.toInt64) hx hb dX10_ran_1 rfl ?_
  have hl_1 : what.toInt64.toInt = what.toInt := i_l (rfl : what.toInt = what.toInt)
  refine lv_lconst (v := 0) hx hb dX10_ran_2 (by decide) ?_
  refine lv_ldc2 hx hb hown (hts _ lwd_983) dX10_ran_3 ?_
  have k_2 : (0 : Int64).toInt = 0 := by decide
  have k_3 : (3 : Int64).toInt = 3 := by decide
  refine xi hD hS hA (xS (As := [.long what.toInt64, .long 0, .long 3]) (rest := []) hx hb hml hown hts hK hP hD hS hA NT_ok hN hAe hl.1 ⟨Nat.le_refl _, Nat.le_refl _⟩ (c_X10_lies l D cy hm v_taped v_walkers v_loads v_pieces v_changeCosts v_planned v_isMarch v_clauseMany v_place v_end v_bad v_clauses v_codes v_open v_stacked v_isOver v_isBehind v_atW v_atL v_atT v_atH v_atM v_atI v_atQ v_packing v_packed v_goPace v_goMinutes v_spentAt v_ranChanges f_m_tape f_m_knee f_m_weight f_m_isLame f_m_loadWeight f_m_owner f_m_food f_m_miles f_m_slope f_m_clauseLetter f_m_sumFrom f_m_codeFrom f_m_codeTo f_m_code f_m_codeArg f_m_newLetter f_m_newSum f_m_newFrom f_m_newTo f_m_newCode f_m_newArg f_m_stack f_m_worth f_m_isRefused f_m_least f_m_packPounds f_m_packOwner f_m_room f_m_givenTo f_m_canBe f_m_setPounds f_m_plainTime f_m_muleTime f_m_planTo f_m_march f_m_tired f_m_ranMinutes f_m_tiredAhead f_m_isReached f_m_toEnd f_m_upTo f_m_upNext f_m_byChanges f_m_bandPaces s.heap.size what.toInt64 0 3) (gi_S lwd_226 lwd_227 lwd_5 lwd_228) hd_X10_lies ⟨Nat.le_of_ble_eq_true rfl, Nat.le_of_ble_eq_true rfl⟩ rfl (Nat.le_of_ble_eq_true rfl) dX10_ran_6) (fun r_5 u_4 H locs hw hP hD hS => ?_)
  try dsimp only at hw hP hD
  obtain ⟨p_6, p_7⟩ := hw
  refine lv_if_ne (tgt := 14) hx hb dX10_ran_9 (by decide) (fun c_8 => ?_) (fun c_8 => ?_)
  · have gc_8 : r_5.toInt ≠ 0 := i_ne (rfl : r_5.toInt = r_5.toInt) (by decide : (0 : Int32).toInt = 0) c_8
    refine lv_aload_n hx hb dX10_ran_14 rfl (lv_at hl 0 rfl) ?_
    refine gt_MD_MD_isMarch hx hb hts hown hK hP lwd_225 dX10_ran_15 ?_
    refine lv_if_ne (tgt := 24) hx hb dX10_ran_18 (by decide) (fun c_9 => ?_) (fun c_9 => ?_)
    · have gc_9 : v_isMarch.toInt ≠ 0 := i_ne (rfl : v_isMarch.toInt = v_isMarch.toInt) (by decide : (0 : Int32).toInt = 0) c_9
      refine lv_aload_n hx hb dX10_ran_24 rfl (lv_at hl 0 rfl) ?_
      refine xv hD hS hA (xV (As := []) (rest := []) hx hb hml hown hts hK hP hD hS hA NT_ok hN hAe hl.1 ⟨Nat.le_refl _, Nat.le_refl _⟩ 0 rfl rfl rfl (c_X10_runs l D cy hm v_taped v_walkers v_loads v_pieces v_changeCosts v_planned v_isMarch v_clauseMany v_place v_end v_bad v_clauses v_codes v_open v_stacked v_isOver v_isBehind v_atW v_atL v_atT v_atH v_atM v_atI v_atQ v_packing v_packed v_goPace v_goMinutes v_spentAt v_ranChanges f_m_tape f_m_knee f_m_weight f_m_isLame f_m_loadWeight f_m_owner f_m_food f_m_miles f_m_slope f_m_clauseLetter f_m_sumFrom f_m_codeFrom f_m_codeTo f_m_code f_m_codeArg f_m_newLetter f_m_newSum f_m_newFrom f_m_newTo f_m_newCode f_m_newArg f_m_stack f_m_worth f_m_isRefused f_m_least f_m_packPounds f_m_packOwner f_m_room f_m_givenTo f_m_canBe f_m_setPounds f_m_plainTime f_m_muleTime f_m_planTo f_m_march f_m_tired f_m_ranMinutes f_m_tiredAhead f_m_isReached f_m_toEnd f_m_upTo f_m_upNext f_m_byChanges f_m_bandPaces H.size (by omega) (by omega) (by omega) (by omega) (by omega) (by omega) (by omega) hr_m_weight hr_m_isLame hr_m_loadWeight hr_m_food hr_m_miles hr_m_isRefused hr_m_march hr_m_tired hr_m_tiredAhead hwf) (gi_V lwd_986 lwd_987 lwd_988 lwd_5 lwd_989) ⟨rfl, hd_X10_runs⟩ ⟨Nat.le_of_ble_eq_true rfl, Nat.le_of_ble_eq_true rfl⟩ rfl (Nat.le_of_ble_eq_true rfl) dX10_ran_25) (fun u_10 H locs hw hP hD hS => ?_)
      obtain ⟨zatW_12, zatL_13, zatT_14, zatH_15, zatM_16, zatI_17, zatQ_18, zgoPace_19, zgoMinutes_20, zspentAt_21, zranChanges_22, zworth_23, zisRefused_24, ztired_25, zranMinutes_26, ztiredAhead_27⟩ := u_10
      try dsimp only at hw hP hD
      obtain ⟨p_28, p_29, p_30, p_31, p_32, p_33⟩ := hw
      refine lv_iconst (v := 0) hx hb dX10_ran_28 (by decide) ?_
      refine lv_istore_n (lv' := [(2, .int 0), (0, .ref (hm 0)), (1, .int what)]) hx hb dX10_ran_29 rfl hl (by decide) rfl (fun ls hl => ?_)
      refine lv_iconst (v := 0) hx hb dX10_ran_30 (by decide) ?_
      refine lv_istore_n (lv' := [(3, .int 0), (2, .int 0), (0, .ref (hm 0)), (1, .int what)]) hx hb dX10_ran_31 rfl hl (by decide) rfl (fun ls hl => ?_)
      have L32_38 : ∀ (n : Nat) (l_36 : Int32) (l_37 : Int32), (0 ≤ l_37.toInt ∧ l_37.toInt ≤ 10) → 11 - l_37.toInt < n → ∀ (H : Heap) (locs : List Loc) (ls : Array Slot), va_P D vwCl (wMD cy hm v_taped v_walkers v_loads v_pieces v_changeCosts v_planned v_isMarch v_clauseMany v_place v_end v_bad v_clauses v_codes v_open v_stacked v_isOver v_isBehind zatW_12 zatL_13 zatT_14 zatH_15 zatM_16 zatI_17 zatQ_18 v_packing v_packed zgoPace_19 zgoMinutes_20 zspentAt_21 zranChanges_22 f_m_tape f_m_knee f_m_weight f_m_isLame f_m_loadWeight f_m_owner f_m_food f_m_miles f_m_slope f_m_clauseLetter f_m_sumFrom f_m_codeFrom f_m_codeTo f_m_code f_m_codeArg f_m_newLetter f_m_newSum f_m_newFrom f_m_newTo f_m_newCode f_m_newArg f_m_stack zworth_23 zisRefused_24 f_m_least f_m_packPounds f_m_packOwner f_m_room f_m_givenTo f_m_canBe f_m_setPounds f_m_plainTime f_m_muleTime f_m_planTo f_m_march ztired_25 zranMinutes_26 ztiredAhead_27 f_m_isReached f_m_toEnd f_m_upTo f_m_upNext f_m_byChanges f_m_bandPaces) H → va_D A (wMD cy hm v_taped v_walkers v_loads v_pieces v_changeCosts v_planned v_isMarch v_clauseMany v_place v_end v_bad v_clauses v_codes v_open v_stacked v_isOver v_isBehind zatW_12 zatL_13 zatT_14 zatH_15 zatM_16 zatI_17 zatQ_18 v_packing v_packed zgoPace_19 zgoMinutes_20 zspentAt_21 zranChanges_22 f_m_tape f_m_knee f_m_weight f_m_isLame f_m_loadWeight f_m_owner f_m_food f_m_miles f_m_slope f_m_clauseLetter f_m_sumFrom f_m_codeFrom f_m_codeTo f_m_code f_m_codeArg f_m_newLetter f_m_newSum f_m_newFrom f_m_newTo f_m_newCode f_m_newArg f_m_stack zworth_23 zisRefused_24 f_m_least f_m_packPounds f_m_packOwner f_m_room f_m_givenTo f_m_canBe f_m_setPounds f_m_plainTime f_m_muleTime f_m_planTo f_m_march ztired_25 zranMinutes_26 ztiredAhead_27 f_m_isReached f_m_toEnd f_m_upTo f_m_upNext f_m_byChanges f_m_bandPaces) → va_S A s.heap H locs → lv_has ls 4 [(3, .int l_37), (2, .int l_36), (0, .ref (hm 0)), (1, .int what)] → W p l e (gRm 9) s m args below meth c H locs 0 0 Q (F0 m 32 ls []) := by
        intro n
        induction n with
        | zero => intro l_36 l_37 hL32_38_0 hm; exact absurd hm (by omega)
        | succ n ih32_38 =>
          intro l_36 l_37 hL32_38_0 hmL32_38 H locs ls hP hD hS hl
          refine lv_iload_n hx hb dX10_ran_32 rfl (lv_at hl 0 rfl) ?_
          refine lv_aload_n hx hb dX10_ran_33 rfl (lv_at hl 2 rfl) ?_
          refine xi hD hS hA (xV (As := []) (rest := [.int l_37]) hx hb hml hown hts hK hP hD hS hA NT_ok hN hAe hl.1 ⟨Nat.le_refl _, Nat.le_refl _⟩ 0 rfl rfl rfl (c_X10_gone l D cy hm v_taped v_walkers v_loads v_pieces v_changeCosts v_planned v_isMarch v_clauseMany v_place v_end v_bad v_clauses v_codes v_open v_stacked v_isOver v_isBehind zatW_12 zatL_13 zatT_14 zatH_15 zatM_16 zatI_17 zatQ_18 v_packing v_packed zgoPace_19 zgoMinutes_20 zspentAt_21 zranChanges_22 f_m_tape f_m_knee f_m_weight f_m_isLame f_m_loadWeight f_m_owner f_m_food f_m_miles f_m_slope f_m_clauseLetter f_m_sumFrom f_m_codeFrom f_m_codeTo f_m_code f_m_codeArg f_m_newLetter f_m_newSum f_m_newFrom f_m_newTo f_m_newCode f_m_newArg f_m_stack zworth_23 zisRefused_24 f_m_least f_m_packPounds f_m_packOwner f_m_room f_m_givenTo f_m_canBe f_m_setPounds f_m_plainTime f_m_muleTime f_m_planTo f_m_march ztired_25 zranMinutes_26 ztiredAhead_27 f_m_isReached f_m_toEnd f_m_upTo f_m_upNext f_m_byChanges f_m_bandPaces H.size (by omega) (by omega)) (gi_V lwd_1020 lwd_1021 lwd_1022 lwd_5 lwd_1023) ⟨rfl, hd_X10_gone⟩ ⟨Nat.le_of_ble_eq_true rfl, Nat.le_of_ble_eq_true rfl⟩ rfl (Nat.le_of_ble_eq_true rfl) dX10_ran_34) (fun r_40 u_39 H locs hw hP hD hS => ?_)
          try dsimp only at hw hP hD
          have p_41 := hw
          clear hw
          refine lv_icmp_ge (tgt := 55) hx hb dX10_ran_37 (by decide) (fun c_42 => ?_) (fun c_42 => ?_)
          · have gc_42 : r_40.toInt ≤ l_37.toInt := i_le (rfl : r_40.toInt = r_40.toInt) (rfl : l_37.toInt = l_37.toInt) c_42
            refine lv_iload_n hx hb dX10_ran_55 rfl (lv_at hl 3 rfl) ?_
            refine lv_if_ne (tgt := 63) hx hb dX10_ran_56 (by decide) (fun c_43 => ?_) (fun c_43 => ?_)
            · have gc_43 : what.toInt ≠ 0 := i_ne (rfl : what.toInt = what.toInt) (by decide : (0 : Int32).toInt = 0) c_43
              refine lv_iload_n hx hb dX10_ran_63 rfl (lv_at hl 3 rfl) ?_
              refine lv_iconst (v := 1) hx hb dX10_ran_64 (by decide) ?_
              refine lv_icmp_ne (tgt := 80) hx hb dX10_ran_65 (by decide) (fun c_44 => ?_) (fun c_44 => ?_)
              · have gc_44 : what.toInt ≠ 1 := i_ne (rfl : what.toInt = what.toInt) (by decide : (1 : Int32).toInt = 1) c_44
                refine lv_iload_n hx hb dX10_ran_80 rfl (lv_at hl 3 rfl) ?_
                refine lv_iconst (v := 2) hx hb dX10_ran_81 (by decide) ?_
                refine lv_icmp_ne (tgt := 92) hx hb dX10_ran_82 (by decide) (fun c_45 => ?_) (fun c_45 => ?_)
                · have gc_45 : what.toInt ≠ 2 := i_ne (rfl : what.toInt = what.toInt) (by decide : (2 : Int32).toInt = 2) c_45
                  refine lv_aload_n hx hb dX10_ran_92 rfl (lv_at hl 2 rfl) ?_
                  refine gt_MD_MD_ranChanges hx hb hts hown hK hP lwd_985 dX10_ran_93 ?_
                  exact hrt zranChanges_22 zatW_12 zatL_13 zatT_14 zatH_15 zatM_16 zatI_17 zatQ_18 zgoPace_19 zgoMinutes_20 zspentAt_21 zranChanges_22 zworth_23 zisRefused_24 ztired_25 zranMinutes_26 ztiredAhead_27 ⟨(by omega), (by omega), (by omega), p_31, p_32, p_33⟩ hP hD hS rfl dX10_ran_96
                · have gc_45 : what.toInt = 2 := i_eq (rfl : what.toInt = what.toInt) (by decide : (2 : Int32).toInt = 2) c_45
                  refine lv_aload_n hx hb dX10_ran_85 rfl (lv_at hl 2 rfl) ?_
                  refine gt_MD_MD_spentAt hx hb hts hown hK hP lwd_984 dX10_ran_86 ?_
                  refine lv_goto (tgt := 96) hx hb dX10_ran_89 (by decide) ?_
                  exact hrt zspentAt_21 zatW_12 zatL_13 zatT_14 zatH_15 zatM_16 zatI_17 zatQ_18 zgoPace_19 zgoMinutes_20 zspentAt_21 zranChanges_22 zworth_23 zisRefused_24 ztired_25 zranMinutes_26 ztiredAhead_27 ⟨(by omega), (by omega), (by omega), p_31, p_32, p_33⟩ hP hD hS rfl dX10_ran_96
              · have gc_44 : what.toInt = 1 := i_eq (rfl : what.toInt = what.toInt) (by decide : (1 : Int32).toInt = 1) c_44
                refine lv_aload_n hx hb dX10_ran_68 rfl (lv_at hl 2 rfl) ?_
                refine gt_MD_MD_tiredAhead hx hb hts hown hK hP lwd_193 dX10_ran_69 ?_
                refine lv_aload_n hx hb dX10_ran_72 rfl (lv_at hl 2 rfl) ?_
                refine xi hD hS hA (xV (As := []) (rest := [.ref (hm 38)]) hx hb hml hown hts hK hP hD hS hA NT_ok hN hAe hl.1 ⟨Nat.le_refl _, Nat.le_refl _⟩ 0 rfl rfl rfl (c_X10_gone l D cy hm v_taped v_walkers v_loads v_pieces v_changeCosts v_planned v_isMarch v_clauseMany v_place v_end v_bad v_clauses v_codes v_open v_stacked v_isOver v_isBehind zatW_12 zatL_13 zatT_14 zatH_15 zatM_16 zatI_17 zatQ_18 v_packing v_packed zgoPace_19 zgoMinutes_20 zspentAt_21 zranChanges_22 f_m_tape f_m_knee f_m_weight f_m_isLame f_m_loadWeight f_m_owner f_m_food f_m_miles f_m_slope f_m_clauseLetter f_m_sumFrom f_m_codeFrom f_m_codeTo f_m_code f_m_codeArg f_m_newLetter f_m_newSum f_m_newFrom f_m_newTo f_m_newCode f_m_newArg f_m_stack zworth_23 zisRefused_24 f_m_least f_m_packPounds f_m_packOwner f_m_room f_m_givenTo f_m_canBe f_m_setPounds f_m_plainTime f_m_muleTime f_m_planTo f_m_march ztired_25 zranMinutes_26 ztiredAhead_27 f_m_isReached f_m_toEnd f_m_upTo f_m_upNext f_m_byChanges f_m_bandPaces H.size (by omega) (by omega)) (gi_V lwd_1020 lwd_1021 lwd_1022 lwd_5 lwd_1023) ⟨rfl, hd_X10_gone⟩ ⟨Nat.le_of_ble_eq_true rfl, Nat.le_of_ble_eq_true rfl⟩ rfl (Nat.le_of_ble_eq_true rfl) dX10_ran_73) (fun r_47 u_46 H locs hw hP hD hS => ?_)
                try dsimp only at hw hP hD
                have p_48 := hw
                clear hw
                refine al_m_tiredAhead hx hb hK hP p_33 (i_in (rfl : r_47.toInt = r_47.toInt) (by omega) (by omega)) dX10_ran_76 (fun n_49 en_49 bn_49 => ?_)
                refine lv_goto (tgt := 96) hx hb dX10_ran_77 (by decide) ?_
                exact hrt n_49 zatW_12 zatL_13 zatT_14 zatH_15 zatM_16 zatI_17 zatQ_18 zgoPace_19 zgoMinutes_20 zspentAt_21 zranChanges_22 zworth_23 zisRefused_24 ztired_25 zranMinutes_26 ztiredAhead_27 ⟨(by omega), (by omega), (by omega), p_31, p_32, p_33⟩ hP hD hS rfl dX10_ran_96
            · have gc_43 : what.toInt = 0 := i_eq (rfl : what.toInt = what.toInt) (by decide : (0 : Int32).toInt = 0) c_43
              refine lv_iload_n hx hb dX10_ran_59 rfl (lv_at hl 1 rfl) ?_
              refine lv_goto (tgt := 96) hx hb dX10_ran_60 (by decide) ?_
              exact hrt l_36 zatW_12 zatL_13 zatT_14 zatH_15 zatM_16 zatI_17 zatQ_18 zgoPace_19 zgoMinutes_20 zspentAt_21 zranChanges_22 zworth_23 zisRefused_24 ztired_25 zranMinutes_26 ztiredAhead_27 ⟨(by omega), (by omega), (by omega), p_31, p_32, p_33⟩ hP hD hS rfl dX10_ran_96
          · have gc_42 : l_37.toInt < r_40.toInt := i_nle (rfl : r_40.toInt = r_40.toInt) (rfl : l_37.toInt = l_37.toInt) c_42
            refine lv_iload_n hx hb dX10_ran_40 rfl (lv_at hl 1 rfl) ?_
            refine lv_aload_n hx hb dX10_ran_41 rfl (lv_at hl 2 rfl) ?_
            refine gt_MD_MD_ranMinutes hx hb hts hown hK hP lwd_192 dX10_ran_42 ?_
            refine lv_iload_n hx hb dX10_ran_45 rfl (lv_at hl 0 rfl) ?_
            refine al_m_ranMinutes hx hb hK hP (i_in (rfl : l_37.toInt = l_37.toInt) (by omega) (by omega)) dX10_ran_46 (fun n_50 en_50 => ?_)
            refine lv_iadd hx hb dX10_ran_47 ?_
            refine lv_topi (fun n_51 en_51 => ?_)
            refine lv_istore_n (lv' := [(2, .int n_51), (3, .int l_37), (0, .ref (hm 0)), (1, .int what)]) hx hb dX10_ran_48 rfl hl (by decide) rfl (fun ls hl => ?_)
            obtain ⟨n_52, en_52⟩ : ∃ y : Int32, y = l_37 + 1 := ⟨_, rfl⟩
            have tn_52 : n_52.toInt = l_37.toInt + 1 := i_add en_52 (rfl : l_37.toInt = l_37.toInt) (by decide : (1 : Int32).toInt = 1) (by omega) (by omega)
            refine lv_iinc (v := n_52) (lv' := [(3, .int n_52), (2, .int n_51), (0, .ref (hm 0)), (1, .int what)]) hx hb dX10_ran_49 hl (k := 1) rfl (by rw [en_52]; rfl) (by decide) rfl (fun ls hl => ?_)
            refine lv_goto (tgt := 32) hx hb dX10_ran_52 (by decide) ?_
            exact ih32_38 n_51 n_52 (by omega) (by omega) _ _ _ hP hD hS (lv_sub hl [0, 1, 2, 3] rfl)
      have k_53 : (0 : Int32).toInt = 0 := by decide
      have k_54 : (0 : Int32).toInt = 0 := by decide
      exact L32_38 8589934592 0 0 (by omega) (by omega) _ _ _ hP hD hS (lv_sub hl [0, 1, 2, 3] rfl)
    · have gc_9 : v_isMarch.toInt = 0 := i_eq (rfl : v_isMarch.toInt = v_isMarch.toInt) (by decide : (0 : Int32).toInt = 0) c_9
      refine lv_bipush (v := (-2)) hx hb dX10_ran_21 (by decide) ?_
      have k_55 : ((-2) : Int32).toInt = (-2) := by decide
      exact hrt (-2) v_atW v_atL v_atT v_atH v_atM v_atI v_atQ v_goPace v_goMinutes v_spentAt v_ranChanges f_m_worth f_m_isRefused f_m_tired f_m_ranMinutes f_m_tiredAhead ⟨(by omega), (by omega), (by omega), hr_m_isRefused, hr_m_tired, hr_m_tiredAhead⟩ hP hD hS rfl dX10_ran_23
  · have gc_8 : r_5.toInt = 0 := i_eq (rfl : r_5.toInt = r_5.toInt) (by decide : (0 : Int32).toInt = 0) c_8
    refine lv_iconst (v := (-1)) hx hb dX10_ran_12 (by decide) ?_
    have k_56 : ((-1) : Int32).toInt = (-1) := by decide
    exact hrt (-1) v_atW v_atL v_atT v_atH v_atM v_atI v_atQ v_goPace v_goMinutes v_spentAt v_ranChanges f_m_worth f_m_isRefused f_m_tired f_m_ranMinutes f_m_tiredAhead ⟨(by omega), (by omega), (by omega), hr_m_isRefused, hr_m_tired, hr_m_tiredAhead⟩ hP hD hS rfl dX10_ran_13
set_option maxHeartbeats 16000000 in
set_option maxRecDepth 100000 in
theorem c_X10_gap (l : Launch) (D : va_G) (cy : Nat → ClassId) (hm : Nat → Nat) (v_taped v_walkers v_loads v_pieces v_changeCosts v_planned v_isMarch v_clauseMany v_place v_end v_bad v_clauses v_codes v_open v_stacked v_isOver v_isBehind v_atW v_atL v_atT v_atH v_atM v_atI v_atQ v_packing v_packed v_goPace v_goMinutes v_spentAt v_ranChanges : Int32) (f_m_tape f_m_knee f_m_weight f_m_isLame f_m_loadWeight f_m_owner f_m_food f_m_miles f_m_slope f_m_clauseLetter f_m_sumFrom f_m_codeFrom f_m_codeTo f_m_code f_m_codeArg f_m_newLetter f_m_newSum f_m_newFrom f_m_newTo f_m_newCode f_m_newArg f_m_stack f_m_worth f_m_isRefused f_m_least f_m_packPounds f_m_packOwner f_m_room f_m_givenTo f_m_canBe f_m_setPounds f_m_plainTime f_m_muleTime f_m_planTo f_m_march f_m_tired f_m_ranMinutes f_m_tiredAhead f_m_isReached f_m_toEnd f_m_upTo f_m_upNext f_m_byChanges f_m_bandPaces : Nat → Int32) (sz : Nat) (i : Int32) (hb_v_walkers : 0 ≤ v_walkers.toInt ∧ v_walkers.toInt ≤ 6) (hb_v_loads : 0 ≤ v_loads.toInt ∧ v_loads.toInt ≤ 9) (hb_v_pieces : 0 ≤ v_pieces.toInt ∧ v_pieces.toInt ≤ 10) (hb_v_isMarch : 0 ≤ v_isMarch.toInt ∧ v_isMarch.toInt ≤ 1) (hb_v_clauseMany : 0 ≤ v_clauseMany.toInt ∧ v_clauseMany.toInt ≤ 14) (hb_v_atW : 0 ≤ v_atW.toInt ∧ v_atW.toInt ≤ 5) (hb_v_goPace : 0 ≤ v_goPace.toInt ∧ v_goPace.toInt ≤ 60) (hb_v_spentAt : -1 ≤ v_spentAt.toInt ∧ v_spentAt.toInt ≤ 9) (hr_m_weight : rg (0) 250 f_m_weight) (hr_m_isLame : rg (0) 1 f_m_isLame) (hr_m_loadWeight : rg (0) 120 f_m_loadWeight) (hr_m_food : rg (0) 20 f_m_food) (hr_m_miles : rg (0) 20 f_m_miles) (hr_m_isRefused : rg (0) 1 f_m_isRefused) (hr_m_march : rg (0) 17 f_m_march) (hr_m_tired : rg (0) 5 f_m_tired) (hr_m_tiredAhead : rg (0) 46655 f_m_tiredAhead) (hwf : wfC v_clauseMany f_m_sumFrom f_m_codeFrom f_m_codeTo f_m_code) (hmw : v_isMarch.toInt = 1 → 0 < v_walkers.toInt) : gMi l yX10_gap cX10_gap 6 .int 9 [.ref (hm 0), .int i] D cy (wMD cy hm v_taped v_walkers v_loads v_pieces v_changeCosts v_planned v_isMarch v_clauseMany v_place v_end v_bad v_clauses v_codes v_open v_stacked v_isOver v_isBehind v_atW v_atL v_atT v_atH v_atM v_atI v_atQ v_packing v_packed v_goPace v_goMinutes v_spentAt v_ranChanges f_m_tape f_m_knee f_m_weight f_m_isLame f_m_loadWeight f_m_owner f_m_food f_m_miles f_m_slope f_m_clauseLetter f_m_sumFrom f_m_codeFrom f_m_codeTo f_m_code f_m_codeArg f_m_newLetter f_m_newSum f_m_newFrom f_m_newTo f_m_newCode f_m_newArg f_m_stack f_m_worth f_m_isRefused f_m_least f_m_packPounds f_m_packOwner f_m_room f_m_givenTo f_m_canBe f_m_setPounds f_m_plainTime f_m_muleTime f_m_planTo f_m_march f_m_tired f_m_ranMinutes f_m_tiredAhead f_m_isReached f_m_toEnd f_m_upTo f_m_upNext f_m_byChanges f_m_bandPaces) NT sz (fun (r : Int32) (u : Int32 × Int32 × Int32 × Int32 × Int32 × Int32 × Int32 × Int32 × Int32 × Int32 × Int32 × (Nat → Int32) × (Nat → Int32) × (Nat → Int32) × (Nat → Int32) × (Nat → Int32)) => (0 ≤ (u.1).toInt ∧ (u.1).toInt ≤ 5) ∧ (0 ≤ (u.2.2.2.2.2.2.2.1).toInt ∧ (u.2.2.2.2.2.2.2.1).toInt ≤ 60) ∧ (-1 ≤ (u.2.2.2.2.2.2.2.2.2.1).toInt ∧ (u.2.2.2.2.2.2.2.2.2.1).toInt ≤ 9) ∧ (rg (0) 1 (u.2.2.2.2.2.2.2.2.2.2.2.2.1)) ∧ (rg (0) 5 (u.2.2.2.2.2.2.2.2.2.2.2.2.2.1)) ∧ (rg (0) 46655 (u.2.2.2.2.2.2.2.2.2.2.2.2.2.2.2))) (fun u => wMD cy hm v_taped v_walkers v_loads v_pieces v_changeCosts v_planned v_isMarch v_clauseMany v_place v_end v_bad v_clauses v_codes v_open v_stacked v_isOver v_isBehind (u.1) (u.2.1) (u.2.2.1) (u.2.2.2.1) (u.2.2.2.2.1) (u.2.2.2.2.2.1) (u.2.2.2.2.2.2.1) v_packing v_packed (u.2.2.2.2.2.2.2.1) (u.2.2.2.2.2.2.2.2.1) (u.2.2.2.2.2.2.2.2.2.1) (u.2.2.2.2.2.2.2.2.2.2.1) f_m_tape f_m_knee f_m_weight f_m_isLame f_m_loadWeight f_m_owner f_m_food f_m_miles f_m_slope f_m_clauseLetter f_m_sumFrom f_m_codeFrom f_m_codeTo f_m_code f_m_codeArg f_m_newLetter f_m_newSum f_m_newFrom f_m_newTo f_m_newCode f_m_newArg f_m_stack (u.2.2.2.2.2.2.2.2.2.2.2.1) (u.2.2.2.2.2.2.2.2.2.2.2.2.1) f_m_least f_m_packPounds f_m_packOwner f_m_room f_m_givenTo f_m_canBe f_m_setPounds f_m_plainTime f_m_muleTime f_m_planTo f_m_march (u.2.2.2.2.2.2.2.2.2.2.2.2.2.1) (u.2.2.2.2.2.2.2.2.2.2.2.2.2.2.1) (u.2.2.2.2.2.2.2.2.2.2.2.2.2.2.2) f_m_isReached f_m_toEnd f_m_upTo f_m_upNext f_m_byChanges f_m_bandPaces) := by
  refine gMi_in (by decide) (Nat.le_of_ble_eq_true rfl) ?_
  intro p e s m args below meth c A ls Q hx hb hml hts hown hsz hP hK hD hN hAe hA hS hl hret
  subst hsz
  have hl : lv_has ls 6 [(0, .ref (hm 0)), (1, .int i)] := hl
  have hrt := fun (r : Int32) (v_atW' : Int32) (v_atL' : Int32) (v_atT' : Int32) (v_atH' : Int32) (v_atM' : Int32) (v_atI' : Int32) (v_atQ' : Int32) (v_goPace' : Int32) (v_goMinutes' : Int32) (v_spentAt' : Int32) (v_ranChanges' : Int32) (f_m_worth' : Nat → Int32) (f_m_isRefused' : Nat → Int32) (f_m_tired' : Nat → Int32) (f_m_ranMinutes' : Nat → Int32) (f_m_tiredAhead' : Nat → Int32) (hp : (0 ≤ v_atW'.toInt ∧ v_atW'.toInt ≤ 5) ∧ (0 ≤ v_goPace'.toInt ∧ v_goPace'.toInt ≤ 60) ∧ (-1 ≤ v_spentAt'.toInt ∧ v_spentAt'.toInt ≤ 9) ∧ (rg (0) 1 f_m_isRefused') ∧ (rg (0) 5 f_m_tired') ∧ (rg (0) 46655 f_m_tiredAhead')) {H : Heap} {locs : List Loc} {pc : Nat} {ls : Array Slot} => hret r (v_atW', v_atL', v_atT', v_atH', v_atM', v_atI', v_atQ', v_goPace', v_goMinutes', v_spentAt', v_ranChanges', f_m_worth', f_m_isRefused', f_m_tired', f_m_ranMinutes', f_m_tiredAhead') (H := H) (locs := locs) (pc := pc) (ls := ls) hp
  clear hret
  refine lv_aload_n hx hb dX10_gap_0 rfl (lv_at hl 0 rfl) ?_
  refine gt_MD_MD_isMarch hx hb hts hown hK hP lwd_225 dX10_gap_1 ?_
  refine lv_if_eq (tgt := 15) hx hb dX10_gap_4 (by decide) (fun c_1 => ?_) (fun c_1 => ?_)
  · have gc_1 : v_isMarch.toInt = 0 := i_eq (rfl : v_isMarch.toInt = v_isMarch.toInt) (by decide : (0 : Int32).toInt = 0) c_1
    refine lv_iconst (v := (-1)) hx hb dX10_gap_15 (by decide) ?_
    have k_2 : ((-1) : Int32).toInt = (-1) := by decide
    exact hrt (-1) v_atW v_atL v_atT v_atH v_atM v_atI v_atQ v_goPace v_goMinutes v_spentAt v_ranChanges f_m_worth f_m_isRefused f_m_tired f_m_ranMinutes f_m_tiredAhead ⟨(by omega), (by omega), (by omega), hr_m_isRefused, hr_m_tired, hr_m_tiredAhead⟩ hP hD hS rfl dX10_gap_16
  · have gc_1 : v_isMarch.toInt ≠ 0 := i_ne (rfl : v_isMarch.toInt = v_isMarch.toInt) (by decide : (0 : Int32).toInt = 0) c_1
    refine lv_aload_n hx hb dX10_gap_7 rfl (lv_at hl 0 rfl) ?_
    refine lv_iload_n hx hb dX10_gap_8 rfl (lv_at hl 1 rfl) ?_
    refine xi hD hS hA (xV (As := [.int i]) (rest := []) hx hb hml hown hts hK hP hD hS hA NT_ok hN hAe hl.1 ⟨Nat.le_refl _, Nat.le_refl _⟩ 0 rfl rfl rfl (c_X10_isPiece l D cy hm v_taped v_walkers v_loads v_pieces v_changeCosts v_planned v_isMarch v_clauseMany v_place v_end v_bad v_clauses v_codes v_open v_stacked v_isOver v_isBehind v_atW v_atL v_atT v_atH v_atM v_atI v_atQ v_packing v_packed v_goPace v_goMinutes v_spentAt v_ranChanges f_m_tape f_m_knee f_m_weight f_m_isLame f_m_loadWeight f_m_owner f_m_food f_m_miles f_m_slope f_m_clauseLetter f_m_sumFrom f_m_codeFrom f_m_codeTo f_m_code f_m_codeArg f_m_newLetter f_m_newSum f_m_newFrom f_m_newTo f_m_newCode f_m_newArg f_m_stack f_m_worth f_m_isRefused f_m_least f_m_packPounds f_m_packOwner f_m_room f_m_givenTo f_m_canBe f_m_setPounds f_m_plainTime f_m_muleTime f_m_planTo f_m_march f_m_tired f_m_ranMinutes f_m_tiredAhead f_m_isReached f_m_toEnd f_m_upTo f_m_upNext f_m_byChanges f_m_bandPaces s.heap.size i (by omega)) (gi_V lwd_549 lwd_550 lwd_551 lwd_5 lwd_552) ⟨rfl, hd_X10_isPiece⟩ ⟨Nat.le_of_ble_eq_true rfl, Nat.le_of_ble_eq_true rfl⟩ rfl (Nat.le_of_ble_eq_true rfl) dX10_gap_9) (fun r_4 u_3 H locs hw hP hD hS => ?_)
    try dsimp only at hw hP hD
    obtain ⟨p_5, p_6⟩ := hw
    refine lv_if_ne (tgt := 17) hx hb dX10_gap_12 (by decide) (fun c_7 => ?_) (fun c_7 => ?_)
    · have gc_7 : r_4.toInt ≠ 0 := i_ne (rfl : r_4.toInt = r_4.toInt) (by decide : (0 : Int32).toInt = 0) c_7
      refine lv_aload_n hx hb dX10_gap_17 rfl (lv_at hl 0 rfl) ?_
      refine xv hD hS hA (xV (As := []) (rest := []) hx hb hml hown hts hK hP hD hS hA NT_ok hN hAe hl.1 ⟨Nat.le_refl _, Nat.le_refl _⟩ 0 rfl rfl rfl (c_X10_runs l D cy hm v_taped v_walkers v_loads v_pieces v_changeCosts v_planned v_isMarch v_clauseMany v_place v_end v_bad v_clauses v_codes v_open v_stacked v_isOver v_isBehind v_atW v_atL v_atT v_atH v_atM v_atI v_atQ v_packing v_packed v_goPace v_goMinutes v_spentAt v_ranChanges f_m_tape f_m_knee f_m_weight f_m_isLame f_m_loadWeight f_m_owner f_m_food f_m_miles f_m_slope f_m_clauseLetter f_m_sumFrom f_m_codeFrom f_m_codeTo f_m_code f_m_codeArg f_m_newLetter f_m_newSum f_m_newFrom f_m_newTo f_m_newCode f_m_newArg f_m_stack f_m_worth f_m_isRefused f_m_least f_m_packPounds f_m_packOwner f_m_room f_m_givenTo f_m_canBe f_m_setPounds f_m_plainTime f_m_muleTime f_m_planTo f_m_march f_m_tired f_m_ranMinutes f_m_tiredAhead f_m_isReached f_m_toEnd f_m_upTo f_m_upNext f_m_byChanges f_m_bandPaces H.size (by omega) (by omega) (by omega) (by omega) (by omega) (by omega) (by omega) hr_m_weight hr_m_isLame hr_m_loadWeight hr_m_food hr_m_miles hr_m_isRefused hr_m_march hr_m_tired hr_m_tiredAhead hwf) (gi_V lwd_986 lwd_987 lwd_988 lwd_5 lwd_989) ⟨rfl, hd_X10_runs⟩ ⟨Nat.le_of_ble_eq_true rfl, Nat.le_of_ble_eq_true rfl⟩ rfl (Nat.le_of_ble_eq_true rfl) dX10_gap_18) (fun u_8 H locs hw hP hD hS => ?_)
      obtain ⟨zatW_10, zatL_11, zatT_12, zatH_13, zatM_14, zatI_15, zatQ_16, zgoPace_17, zgoMinutes_18, zspentAt_19, zranChanges_20, zworth_21, zisRefused_22, ztired_23, zranMinutes_24, ztiredAhead_25⟩ := u_8
      try dsimp only at hw hP hD
      obtain ⟨p_26, p_27, p_28, p_29, p_30, p_31⟩ := hw
      refine lv_iload_n hx hb dX10_gap_21 rfl (lv_at hl 1 rfl) ?_
      refine lv_aload_n hx hb dX10_gap_22 rfl (lv_at hl 0 rfl) ?_
      refine xi hD hS hA (xV (As := []) (rest := [.int i]) hx hb hml hown hts hK hP hD hS hA NT_ok hN hAe hl.1 ⟨Nat.le_refl _, Nat.le_refl _⟩ 0 rfl rfl rfl (c_X10_gone l D cy hm v_taped v_walkers v_loads v_pieces v_changeCosts v_planned v_isMarch v_clauseMany v_place v_end v_bad v_clauses v_codes v_open v_stacked v_isOver v_isBehind zatW_10 zatL_11 zatT_12 zatH_13 zatM_14 zatI_15 zatQ_16 v_packing v_packed zgoPace_17 zgoMinutes_18 zspentAt_19 zranChanges_20 f_m_tape f_m_knee f_m_weight f_m_isLame f_m_loadWeight f_m_owner f_m_food f_m_miles f_m_slope f_m_clauseLetter f_m_sumFrom f_m_codeFrom f_m_codeTo f_m_code f_m_codeArg f_m_newLetter f_m_newSum f_m_newFrom f_m_newTo f_m_newCode f_m_newArg f_m_stack zworth_21 zisRefused_22 f_m_least f_m_packPounds f_m_packOwner f_m_room f_m_givenTo f_m_canBe f_m_setPounds f_m_plainTime f_m_muleTime f_m_planTo f_m_march ztired_23 zranMinutes_24 ztiredAhead_25 f_m_isReached f_m_toEnd f_m_upTo f_m_upNext f_m_byChanges f_m_bandPaces H.size (by omega) (by omega)) (gi_V lwd_1020 lwd_1021 lwd_1022 lwd_5 lwd_1023) ⟨rfl, hd_X10_gone⟩ ⟨Nat.le_of_ble_eq_true rfl, Nat.le_of_ble_eq_true rfl⟩ rfl (Nat.le_of_ble_eq_true rfl) dX10_gap_23) (fun r_33 u_32 H locs hw hP hD hS => ?_)
      try dsimp only at hw hP hD
      have p_34 := hw
      clear hw
      refine lv_icmp_le (tgt := 32) hx hb dX10_gap_26 (by decide) (fun c_35 => ?_) (fun c_35 => ?_)
      · have gc_35 : i.toInt ≤ r_33.toInt := i_le (rfl : i.toInt = i.toInt) (rfl : r_33.toInt = r_33.toInt) c_35
        refine lv_aload_n hx hb dX10_gap_32 rfl (lv_at hl 0 rfl) ?_
        refine lv_aload_n hx hb dX10_gap_33 rfl (lv_at hl 0 rfl) ?_
        refine gt_MD_MD_tiredAhead hx hb hts hown hK hP lwd_193 dX10_gap_34 ?_
        refine lv_iload_n hx hb dX10_gap_37 rfl (lv_at hl 1 rfl) ?_
        refine al_m_tiredAhead hx hb hK hP p_31 (i_in (rfl : i.toInt = i.toInt) (by omega) (by omega)) dX10_gap_38 (fun n_36 en_36 bn_36 => ?_)
        refine xv hD hS hA (xV (As := [.int n_36]) (rest := []) hx hb hml hown hts hK hP hD hS hA NT_ok hN hAe hl.1 ⟨Nat.le_refl _, Nat.le_refl _⟩ 0 rfl rfl rfl (c_X10_takesTired l D cy hm v_taped v_walkers v_loads v_pieces v_changeCosts v_planned v_isMarch v_clauseMany v_place v_end v_bad v_clauses v_codes v_open v_stacked v_isOver v_isBehind zatW_10 zatL_11 zatT_12 zatH_13 zatM_14 zatI_15 zatQ_16 v_packing v_packed zgoPace_17 zgoMinutes_18 zspentAt_19 zranChanges_20 f_m_tape f_m_knee f_m_weight f_m_isLame f_m_loadWeight f_m_owner f_m_food f_m_miles f_m_slope f_m_clauseLetter f_m_sumFrom f_m_codeFrom f_m_codeTo f_m_code f_m_codeArg f_m_newLetter f_m_newSum f_m_newFrom f_m_newTo f_m_newCode f_m_newArg f_m_stack zworth_21 zisRefused_22 f_m_least f_m_packPounds f_m_packOwner f_m_room f_m_givenTo f_m_canBe f_m_setPounds f_m_plainTime f_m_muleTime f_m_planTo f_m_march ztired_23 zranMinutes_24 ztiredAhead_25 f_m_isReached f_m_toEnd f_m_upTo f_m_upNext f_m_byChanges f_m_bandPaces H.size n_36 p_30 (by omega)) (gi_V lwd_991 lwd_992 lwd_993 lwd_5 lwd_994) ⟨rfl, hd_X10_takesTired⟩ ⟨Nat.le_of_ble_eq_true rfl, Nat.le_of_ble_eq_true rfl⟩ rfl (Nat.le_of_ble_eq_true rfl) dX10_gap_39) (fun u_37 H locs hw hP hD hS => ?_)
        obtain ⟨ztired_39, rfl⟩ : ∃ z, z = u_37 := ⟨_, rfl⟩
        try dsimp only at hw hP hD
        have p_40 := hw
        clear hw
        refine lv_aload_n hx hb dX10_gap_42 rfl (lv_at hl 0 rfl) ?_
        refine lv_aload_n hx hb dX10_gap_43 rfl (lv_at hl 0 rfl) ?_
        refine gt_MD_MD_march hx hb hts hown hK hP lwd_190 dX10_gap_44 ?_
        refine lv_iload_n hx hb dX10_gap_47 rfl (lv_at hl 1 rfl) ?_
        refine al_m_march hx hb hK hP hr_m_march (i_in (rfl : i.toInt = i.toInt) (by omega) (by omega)) dX10_gap_48 (fun n_41 en_41 bn_41 => ?_)
        refine lv_bipush (v := 6) hx hb dX10_gap_49 (by decide) ?_
        refine lv_idiv hx hb dX10_gap_51 (by decide) ?_
        refine lv_topi (fun n_42 en_42 => ?_)
        have tn_42 : n_42.toInt = n_41.toInt / 6 := i_div en_42 (rfl : n_41.toInt = n_41.toInt) (by decide : (6 : Int32).toInt = 6) (by omega) (by omega)
        refine lv_iload_n hx hb dX10_gap_52 rfl (lv_at hl 1 rfl) ?_
        refine xv hD hS hA (xV (As := [.int n_42, .int i]) (rest := []) hx hb hml hown hts hK hP hD hS hA NT_ok hN hAe hl.1 ⟨Nat.le_refl _, Nat.le_refl _⟩ 0 rfl rfl rfl (c_X10_rests l D cy hm v_taped v_walkers v_loads v_pieces v_changeCosts v_planned v_isMarch v_clauseMany v_place v_end v_bad v_clauses v_codes v_open v_stacked v_isOver v_isBehind zatW_10 zatL_11 zatT_12 zatH_13 zatM_14 zatI_15 zatQ_16 v_packing v_packed zgoPace_17 zgoMinutes_18 zspentAt_19 zranChanges_20 f_m_tape f_m_knee f_m_weight f_m_isLame f_m_loadWeight f_m_owner f_m_food f_m_miles f_m_slope f_m_clauseLetter f_m_sumFrom f_m_codeFrom f_m_codeTo f_m_code f_m_codeArg f_m_newLetter f_m_newSum f_m_newFrom f_m_newTo f_m_newCode f_m_newArg f_m_stack zworth_21 zisRefused_22 f_m_least f_m_packPounds f_m_packOwner f_m_room f_m_givenTo f_m_canBe f_m_setPounds f_m_plainTime f_m_muleTime f_m_planTo f_m_march ztired_39 zranMinutes_24 ztiredAhead_25 f_m_isReached f_m_toEnd f_m_upTo f_m_upNext f_m_byChanges f_m_bandPaces H.size n_42 i (by omega) (by omega) (by omega) hr_m_weight p_29 p_40 (by omega) (by omega) hwf) (gi_V lwd_1000 lwd_1001 lwd_1002 lwd_5 lwd_1003) ⟨rfl, hd_X10_rests⟩ ⟨Nat.le_of_ble_eq_true rfl, Nat.le_of_ble_eq_true rfl⟩ rfl (Nat.le_of_ble_eq_true rfl) dX10_gap_53) (fun u_43 H locs hw hP hD hS => ?_)
        obtain ⟨zatW_45, zatL_46, zatT_47, zatH_48, zatM_49, zatI_50, zatQ_51, zworth_52, zisRefused_53, ztired_54⟩ := u_43
        try dsimp only at hw hP hD
        obtain ⟨p_55, p_56, p_57⟩ := hw
        refine lv_bipush (v := 60) hx hb dX10_gap_56 (by decide) ?_
        refine lv_istore_n (lv' := [(2, .int 60), (0, .ref (hm 0)), (1, .int i)]) hx hb dX10_gap_58 rfl hl (by decide) rfl (fun ls hl => ?_)
        refine lv_iconst (v := 0) hx hb dX10_gap_59 (by decide) ?_
        refine lv_istore_n (lv' := [(3, .int 0), (2, .int 60), (0, .ref (hm 0)), (1, .int i)]) hx hb dX10_gap_60 rfl hl (by decide) rfl (fun ls hl => ?_)
        refine lv_iconst (v := 0) hx hb dX10_gap_61 (by decide) ?_
        refine lv_istore (lv' := [(4, .int 0), (3, .int 0), (2, .int 60), (0, .ref (hm 0)), (1, .int i)]) hx hb dX10_gap_62 hl (by decide) rfl (fun ls hl => ?_)
        have L64_82 : ∀ (n : Nat) (f_70 : Nat → Int32) (f_71 : Nat → Int32) (l_72 : Int32) (l_73 : Int32) (l_74 : Int32) (w_75 : Int32) (w_76 : Int32) (w_77 : Int32) (w_78 : Int32) (w_79 : Int32) (w_80 : Int32) (w_81 : Int32), (rg (0) 1 f_70) → (0 ≤ l_72.toInt ∧ l_72.toInt ≤ 60) → (0 ≤ l_73.toInt ∧ l_73.toInt ≤ 60) → (0 ≤ l_74.toInt ∧ l_74.toInt ≤ 6) → (0 ≤ w_81.toInt ∧ w_81.toInt ≤ 5) → (l_74.toInt ≤ 0 ∨ l_72.toInt ≤ l_73.toInt) → 7 - l_74.toInt < n → ∀ (H : Heap) (locs : List Loc) (ls : Array Slot), va_P D vwCl (wMD cy hm v_taped v_walkers v_loads v_pieces v_changeCosts v_planned v_isMarch v_clauseMany v_place v_end v_bad v_clauses v_codes v_open v_stacked v_isOver v_isBehind w_81 w_77 w_80 w_75 w_78 w_76 w_79 v_packing v_packed zgoPace_17 zgoMinutes_18 zspentAt_19 zranChanges_20 f_m_tape f_m_knee f_m_weight f_m_isLame f_m_loadWeight f_m_owner f_m_food f_m_miles f_m_slope f_m_clauseLetter f_m_sumFrom f_m_codeFrom f_m_codeTo f_m_code f_m_codeArg f_m_newLetter f_m_newSum f_m_newFrom f_m_newTo f_m_newCode f_m_newArg f_m_stack f_71 f_70 f_m_least f_m_packPounds f_m_packOwner f_m_room f_m_givenTo f_m_canBe f_m_setPounds f_m_plainTime f_m_muleTime f_m_planTo f_m_march ztired_54 zranMinutes_24 ztiredAhead_25 f_m_isReached f_m_toEnd f_m_upTo f_m_upNext f_m_byChanges f_m_bandPaces) H → va_D A (wMD cy hm v_taped v_walkers v_loads v_pieces v_changeCosts v_planned v_isMarch v_clauseMany v_place v_end v_bad v_clauses v_codes v_open v_stacked v_isOver v_isBehind w_81 w_77 w_80 w_75 w_78 w_76 w_79 v_packing v_packed zgoPace_17 zgoMinutes_18 zspentAt_19 zranChanges_20 f_m_tape f_m_knee f_m_weight f_m_isLame f_m_loadWeight f_m_owner f_m_food f_m_miles f_m_slope f_m_clauseLetter f_m_sumFrom f_m_codeFrom f_m_codeTo f_m_code f_m_codeArg f_m_newLetter f_m_newSum f_m_newFrom f_m_newTo f_m_newCode f_m_newArg f_m_stack f_71 f_70 f_m_least f_m_packPounds f_m_packOwner f_m_room f_m_givenTo f_m_canBe f_m_setPounds f_m_plainTime f_m_muleTime f_m_planTo f_m_march ztired_54 zranMinutes_24 ztiredAhead_25 f_m_isReached f_m_toEnd f_m_upTo f_m_upNext f_m_byChanges f_m_bandPaces) → va_S A s.heap H locs → lv_has ls 6 [(4, .int l_74), (3, .int l_73), (2, .int l_72), (0, .ref (hm 0)), (1, .int i)] → W p l e (gRm 9) s m args below meth c H locs 0 0 Q (F0 m 64 ls []) := by
          intro n
          induction n with
          | zero => intro f_70 f_71 l_72 l_73 l_74 w_75 w_76 w_77 w_78 w_79 w_80 w_81 hL64_82_0 hL64_82_1 hL64_82_2 hL64_82_3 hL64_82_4 hL64_82_5 hm; exact absurd hm (by omega)
          | succ n ih64_82 =>
            intro f_70 f_71 l_72 l_73 l_74 w_75 w_76 w_77 w_78 w_79 w_80 w_81 hL64_82_0 hL64_82_1 hL64_82_2 hL64_82_3 hL64_82_4 hL64_82_5 hmL64_82 H locs ls hP hD hS hl
            refine lv_iload hx hb dX10_gap_64 (lv_at hl 0 rfl) ?_
            refine lv_aload_n hx hb dX10_gap_66 rfl (lv_at hl 3 rfl) ?_
            refine gt_MD_MD_walkers hx hb hts hown hK hP lwd_221 dX10_gap_67 ?_
            refine lv_icmp_ge (tgt := 138) hx hb dX10_gap_70 (by decide) (fun c_83 => ?_) (fun c_83 => ?_)
            · have gc_83 : v_walkers.toInt ≤ l_74.toInt := i_le (rfl : v_walkers.toInt = v_walkers.toInt) (rfl : l_74.toInt = l_74.toInt) c_83
              refine lv_iload_n hx hb dX10_gap_138 rfl (lv_at hl 2 rfl) ?_
              refine lv_if_ne (tgt := 147) hx hb dX10_gap_139 (by decide) (fun c_84 => ?_) (fun c_84 => ?_)
              · have gc_84 : l_72.toInt ≠ 0 := i_ne (rfl : l_72.toInt = l_72.toInt) (by decide : (0 : Int32).toInt = 0) c_84
                refine lv_aload_n hx hb dX10_gap_147 rfl (lv_at hl 3 rfl) ?_
                refine lv_iload_n hx hb dX10_gap_148 rfl (lv_at hl 4 rfl) ?_
                refine lv_iload_n hx hb dX10_gap_149 rfl (lv_at hl 2 rfl) ?_
                refine xi hD hS hA (xV (As := [.int i, .int l_72]) (rest := []) hx hb hml hown hts hK hP hD hS hA NT_ok hN hAe hl.1 ⟨Nat.le_refl _, Nat.le_refl _⟩ 0 rfl rfl rfl (c_X10_minutesOf l D cy hm v_taped v_walkers v_loads v_pieces v_changeCosts v_planned v_isMarch v_clauseMany v_place v_end v_bad v_clauses v_codes v_open v_stacked v_isOver v_isBehind w_81 w_77 w_80 w_75 w_78 w_76 w_79 v_packing v_packed zgoPace_17 zgoMinutes_18 zspentAt_19 zranChanges_20 f_m_tape f_m_knee f_m_weight f_m_isLame f_m_loadWeight f_m_owner f_m_food f_m_miles f_m_slope f_m_clauseLetter f_m_sumFrom f_m_codeFrom f_m_codeTo f_m_code f_m_codeArg f_m_newLetter f_m_newSum f_m_newFrom f_m_newTo f_m_newCode f_m_newArg f_m_stack f_71 f_70 f_m_least f_m_packPounds f_m_packOwner f_m_room f_m_givenTo f_m_canBe f_m_setPounds f_m_plainTime f_m_muleTime f_m_planTo f_m_march ztired_54 zranMinutes_24 ztiredAhead_25 f_m_isReached f_m_toEnd f_m_upTo f_m_upNext f_m_byChanges f_m_bandPaces H.size i l_72 hr_m_miles (by omega) (by omega)) (gi_V lwd_668 lwd_669 lwd_670 lwd_5 lwd_671) ⟨rfl, hd_X10_minutesOf⟩ ⟨Nat.le_of_ble_eq_true rfl, Nat.le_of_ble_eq_true rfl⟩ rfl (Nat.le_of_ble_eq_true rfl) dX10_gap_150) (fun r_86 u_85 H locs hw hP hD hS => ?_)
                try dsimp only at hw hP hD
                clear hw
                refine lv_aload_n hx hb dX10_gap_153 rfl (lv_at hl 3 rfl) ?_
                refine lv_iload_n hx hb dX10_gap_154 rfl (lv_at hl 4 rfl) ?_
                refine lv_iload_n hx hb dX10_gap_155 rfl (lv_at hl 1 rfl) ?_
                refine xi hD hS hA (xV (As := [.int i, .int l_73]) (rest := [.int r_86]) hx hb hml hown hts hK hP hD hS hA NT_ok hN hAe hl.1 ⟨Nat.le_refl _, Nat.le_refl _⟩ 0 rfl rfl rfl (c_X10_minutesOf l D cy hm v_taped v_walkers v_loads v_pieces v_changeCosts v_planned v_isMarch v_clauseMany v_place v_end v_bad v_clauses v_codes v_open v_stacked v_isOver v_isBehind w_81 w_77 w_80 w_75 w_78 w_76 w_79 v_packing v_packed zgoPace_17 zgoMinutes_18 zspentAt_19 zranChanges_20 f_m_tape f_m_knee f_m_weight f_m_isLame f_m_loadWeight f_m_owner f_m_food f_m_miles f_m_slope f_m_clauseLetter f_m_sumFrom f_m_codeFrom f_m_codeTo f_m_code f_m_codeArg f_m_newLetter f_m_newSum f_m_newFrom f_m_newTo f_m_newCode f_m_newArg f_m_stack f_71 f_70 f_m_least f_m_packPounds f_m_packOwner f_m_room f_m_givenTo f_m_canBe f_m_setPounds f_m_plainTime f_m_muleTime f_m_planTo f_m_march ztired_54 zranMinutes_24 ztiredAhead_25 f_m_isReached f_m_toEnd f_m_upTo f_m_upNext f_m_byChanges f_m_bandPaces H.size i l_73 hr_m_miles (by omega) (by omega)) (gi_V lwd_668 lwd_669 lwd_670 lwd_5 lwd_671) ⟨rfl, hd_X10_minutesOf⟩ ⟨Nat.le_of_ble_eq_true rfl, Nat.le_of_ble_eq_true rfl⟩ rfl (Nat.le_of_ble_eq_true rfl) dX10_gap_156) (fun r_88 u_87 H locs hw hP hD hS => ?_)
                try dsimp only at hw hP hD
                clear hw
                refine lv_isub hx hb dX10_gap_159 ?_
                refine lv_topi (fun n_89 en_89 => ?_)
                exact hrt n_89 w_81 w_77 w_80 w_75 w_78 w_76 w_79 zgoPace_17 zgoMinutes_18 zspentAt_19 zranChanges_20 f_71 f_70 ztired_54 zranMinutes_24 ztiredAhead_25 ⟨(by omega), (by omega), (by omega), hL64_82_0, p_57, p_31⟩ hP hD hS rfl dX10_gap_160
              · have gc_84 : l_72.toInt = 0 := i_eq (rfl : l_72.toInt = l_72.toInt) (by decide : (0 : Int32).toInt = 0) c_84
                refine lv_bipush (v := (-2)) hx hb dX10_gap_142 (by decide) ?_
                refine lv_goto (tgt := 160) hx hb dX10_gap_144 (by decide) ?_
                have k_90 : ((-2) : Int32).toInt = (-2) := by decide
                exact hrt (-2) w_81 w_77 w_80 w_75 w_78 w_76 w_79 zgoPace_17 zgoMinutes_18 zspentAt_19 zranChanges_20 f_71 f_70 ztired_54 zranMinutes_24 ztiredAhead_25 ⟨(by omega), (by omega), (by omega), hL64_82_0, p_57, p_31⟩ hP hD hS rfl dX10_gap_160
            · have gc_83 : l_74.toInt < v_walkers.toInt := i_nle (rfl : v_walkers.toInt = v_walkers.toInt) (rfl : l_74.toInt = l_74.toInt) c_83
              refine lv_aload_n hx hb dX10_gap_73 rfl (lv_at hl 3 rfl) ?_
              refine lv_iload hx hb dX10_gap_74 (lv_at hl 0 rfl) ?_
              refine lv_aload_n hx hb dX10_gap_76 rfl (lv_at hl 3 rfl) ?_
              refine lv_iload hx hb dX10_gap_77 (lv_at hl 0 rfl) ?_
              refine lv_aload_n hx hb dX10_gap_79 rfl (lv_at hl 3 rfl) ?_
              refine gt_MD_MD_march hx hb hts hown hK hP lwd_190 dX10_gap_80 ?_
              refine lv_iload_n hx hb dX10_gap_83 rfl (lv_at hl 4 rfl) ?_
              refine al_m_march hx hb hK hP hr_m_march (i_in (rfl : i.toInt = i.toInt) (by omega) (by omega)) dX10_gap_84 (fun n_91 en_91 bn_91 => ?_)
              obtain rfl : n_41 = n_91 := en_41.trans en_91.symm
              refine lv_bipush (v := 6) hx hb dX10_gap_85 (by decide) ?_
              refine lv_irem hx hb dX10_gap_87 (by decide) ?_
              refine lv_topi (fun n_92 en_92 => ?_)
              have tn_92 : n_92.toInt = n_41.toInt % 6 := i_rem en_92 (rfl : n_41.toInt = n_41.toInt) (by decide : (6 : Int32).toInt = 6) (by omega) (by omega)
              refine lv_iload_n hx hb dX10_gap_88 rfl (lv_at hl 4 rfl) ?_
              refine xi hD hS hA (xV (As := [.int l_74, .int n_92, .int i]) (rest := [.int l_74, .ref (hm 0)]) hx hb hml hown hts hK hP hD hS hA NT_ok hN hAe hl.1 ⟨Nat.le_refl _, Nat.le_refl _⟩ 0 rfl rfl rfl (c_X10_carriedBy l D cy hm v_taped v_walkers v_loads v_pieces v_changeCosts v_planned v_isMarch v_clauseMany v_place v_end v_bad v_clauses v_codes v_open v_stacked v_isOver v_isBehind w_81 w_77 w_80 w_75 w_78 w_76 w_79 v_packing v_packed zgoPace_17 zgoMinutes_18 zspentAt_19 zranChanges_20 f_m_tape f_m_knee f_m_weight f_m_isLame f_m_loadWeight f_m_owner f_m_food f_m_miles f_m_slope f_m_clauseLetter f_m_sumFrom f_m_codeFrom f_m_codeTo f_m_code f_m_codeArg f_m_newLetter f_m_newSum f_m_newFrom f_m_newTo f_m_newCode f_m_newArg f_m_stack f_71 f_70 f_m_least f_m_packPounds f_m_packOwner f_m_room f_m_givenTo f_m_canBe f_m_setPounds f_m_plainTime f_m_muleTime f_m_planTo f_m_march ztired_54 zranMinutes_24 ztiredAhead_25 f_m_isReached f_m_toEnd f_m_upTo f_m_upNext f_m_byChanges f_m_bandPaces H.size l_74 n_92 i (by omega) hr_m_loadWeight hr_m_food (by omega) (by omega)) (gi_V lwd_1008 lwd_1009 lwd_1010 lwd_5 lwd_1011) ⟨rfl, hd_X10_carriedBy⟩ ⟨Nat.le_of_ble_eq_true rfl, Nat.le_of_ble_eq_true rfl⟩ rfl (Nat.le_of_ble_eq_true rfl) dX10_gap_89) (fun r_94 u_93 H locs hw hP hD hS => ?_)
              try dsimp only at hw hP hD
              clear hw
              refine lv_aload_n hx hb dX10_gap_92 rfl (lv_at hl 3 rfl) ?_
              refine gt_MD_MD_tired hx hb hts hown hK hP lwd_191 dX10_gap_93 ?_
              refine lv_iload hx hb dX10_gap_96 (lv_at hl 0 rfl) ?_
              refine al_m_tired hx hb hK hP p_57 (i_in (rfl : l_74.toInt = l_74.toInt) (by omega) (by omega)) dX10_gap_98 (fun n_95 en_95 bn_95 => ?_)
              refine lv_iload_n hx hb dX10_gap_99 rfl (lv_at hl 4 rfl) ?_
              refine lv_iconst (v := 0) hx hb dX10_gap_100 (by decide) ?_
              have k_96 : (0 : Int32).toInt = 0 := by decide
              refine xi hD hS hA (xV (As := [.int l_74, .int r_94, .int n_95, .int i, .int 0]) (rest := []) hx hb hml hown hts hK hP hD hS hA NT_ok hN hAe hl.1 ⟨Nat.le_refl _, Nat.le_refl _⟩ 0 rfl rfl rfl (c_X10_paceOf l D cy hm v_taped v_walkers v_loads v_pieces v_changeCosts v_planned v_isMarch v_clauseMany v_place v_end v_bad v_clauses v_codes v_open v_stacked v_isOver v_isBehind w_81 w_77 w_80 w_75 w_78 w_76 w_79 v_packing v_packed zgoPace_17 zgoMinutes_18 zspentAt_19 zranChanges_20 f_m_tape f_m_knee f_m_weight f_m_isLame f_m_loadWeight f_m_owner f_m_food f_m_miles f_m_slope f_m_clauseLetter f_m_sumFrom f_m_codeFrom f_m_codeTo f_m_code f_m_codeArg f_m_newLetter f_m_newSum f_m_newFrom f_m_newTo f_m_newCode f_m_newArg f_m_stack f_71 f_70 f_m_least f_m_packPounds f_m_packOwner f_m_room f_m_givenTo f_m_canBe f_m_setPounds f_m_plainTime f_m_muleTime f_m_planTo f_m_march ztired_54 zranMinutes_24 ztiredAhead_25 f_m_isReached f_m_toEnd f_m_upTo f_m_upNext f_m_byChanges f_m_bandPaces H.size l_74 r_94 n_95 i 0 (by omega) (by omega) (by omega) hr_m_weight hr_m_isLame hr_m_miles hL64_82_0 (by omega) (by omega) (by omega) hwf) (gi_V lwd_553 lwd_554 lwd_555 lwd_5 lwd_556) ⟨rfl, hd_X10_paceOf⟩ ⟨Nat.le_of_ble_eq_true rfl, Nat.le_of_ble_eq_true rfl⟩ rfl (Nat.le_of_ble_eq_true rfl) dX10_gap_101) (fun r_98 u_97 H locs hw hP hD hS => ?_)
              obtain ⟨zatW_99, zatL_100, zatT_101, zatH_102, zatM_103, zatI_104, zatQ_105, zworth_106, zisRefused_107⟩ := u_97
              try dsimp only at hw hP hD
              obtain ⟨p_108, p_109, p_110⟩ := hw
              refine lv_istore (lv' := [(5, .int r_98), (4, .int l_74), (3, .int l_73), (2, .int l_72), (0, .ref (hm 0)), (1, .int i)]) hx hb dX10_gap_104 hl (by decide) rfl (fun ls hl => ?_)
              refine lv_iload hx hb dX10_gap_106 (lv_at hl 0 rfl) ?_
              refine lv_iload_n hx hb dX10_gap_108 rfl (lv_at hl 3 rfl) ?_
              refine lv_icmp_ge (tgt := 117) hx hb dX10_gap_109 (by decide) (fun c_111 => ?_) (fun c_111 => ?_)
              · have gc_111 : l_72.toInt ≤ r_98.toInt := i_le (rfl : l_72.toInt = l_72.toInt) (rfl : r_98.toInt = r_98.toInt) c_111
                refine lv_iload_n hx hb dX10_gap_117 rfl (lv_at hl 3 rfl) ?_
                refine lv_istore_n (lv' := [(2, .int l_72), (5, .int r_98), (4, .int l_74), (3, .int l_73), (0, .ref (hm 0)), (1, .int i)]) hx hb dX10_gap_118 rfl hl (by decide) rfl (fun ls hl => ?_)
                refine lv_iload hx hb dX10_gap_119 (lv_at hl 1 rfl) ?_
                refine lv_iload_n hx hb dX10_gap_121 rfl (lv_at hl 3 rfl) ?_
                refine lv_icmp_le (tgt := 130) hx hb dX10_gap_122 (by decide) (fun c_112 => ?_) (fun c_112 => ?_)
                · have gc_112 : r_98.toInt ≤ l_73.toInt := i_le (rfl : r_98.toInt = r_98.toInt) (rfl : l_73.toInt = l_73.toInt) c_112
                  refine lv_iload_n hx hb dX10_gap_130 rfl (lv_at hl 3 rfl) ?_
                  refine lv_istore_n (lv' := [(3, .int l_73), (2, .int l_72), (5, .int r_98), (4, .int l_74), (0, .ref (hm 0)), (1, .int i)]) hx hb dX10_gap_131 rfl hl (by decide) rfl (fun ls hl => ?_)
                  obtain ⟨n_113, en_113⟩ : ∃ y : Int32, y = l_74 + 1 := ⟨_, rfl⟩
                  have tn_113 : n_113.toInt = l_74.toInt + 1 := i_add en_113 (rfl : l_74.toInt = l_74.toInt) (by decide : (1 : Int32).toInt = 1) (by omega) (by omega)
                  refine lv_iinc (v := n_113) (lv' := [(4, .int n_113), (3, .int l_73), (2, .int l_72), (5, .int r_98), (0, .ref (hm 0)), (1, .int i)]) hx hb dX10_gap_132 hl (k := 3) rfl (by rw [en_113]; rfl) (by decide) rfl (fun ls hl => ?_)
                  refine lv_goto (tgt := 64) hx hb dX10_gap_135 (by decide) ?_
                  exact ih64_82 zisRefused_107 zworth_106 l_72 l_73 n_113 zatH_102 zatI_104 zatL_100 zatM_103 zatQ_105 zatT_101 zatW_99 p_110 (by omega) (by omega) (by omega) (by omega) (by omega) (by omega) _ _ _ hP hD hS (lv_sub hl [0, 1, 2, 4, 5] rfl)
                · have gc_112 : l_73.toInt < r_98.toInt := i_nle (rfl : r_98.toInt = r_98.toInt) (rfl : l_73.toInt = l_73.toInt) c_112
                  refine lv_iload hx hb dX10_gap_125 (lv_at hl 1 rfl) ?_
                  refine lv_goto (tgt := 131) hx hb dX10_gap_127 (by decide) ?_
                  refine lv_istore_n (lv' := [(3, .int r_98), (2, .int l_72), (5, .int r_98), (4, .int l_74), (0, .ref (hm 0)), (1, .int i)]) hx hb dX10_gap_131 rfl hl (by decide) rfl (fun ls hl => ?_)
                  obtain ⟨n_114, en_114⟩ : ∃ y : Int32, y = l_74 + 1 := ⟨_, rfl⟩
                  have tn_114 : n_114.toInt = l_74.toInt + 1 := i_add en_114 (rfl : l_74.toInt = l_74.toInt) (by decide : (1 : Int32).toInt = 1) (by omega) (by omega)
                  refine lv_iinc (v := n_114) (lv' := [(4, .int n_114), (3, .int r_98), (2, .int l_72), (5, .int r_98), (0, .ref (hm 0)), (1, .int i)]) hx hb dX10_gap_132 hl (k := 3) rfl (by rw [en_114]; rfl) (by decide) rfl (fun ls hl => ?_)
                  refine lv_goto (tgt := 64) hx hb dX10_gap_135 (by decide) ?_
                  exact ih64_82 zisRefused_107 zworth_106 l_72 r_98 n_114 zatH_102 zatI_104 zatL_100 zatM_103 zatQ_105 zatT_101 zatW_99 p_110 (by omega) (by omega) (by omega) (by omega) (by omega) (by omega) _ _ _ hP hD hS (lv_sub hl [0, 1, 2, 4, 5] rfl)
              · have gc_111 : r_98.toInt < l_72.toInt := i_nle (rfl : l_72.toInt = l_72.toInt) (rfl : r_98.toInt = r_98.toInt) c_111
                refine lv_iload hx hb dX10_gap_112 (lv_at hl 0 rfl) ?_
                refine lv_goto (tgt := 118) hx hb dX10_gap_114 (by decide) ?_
                refine lv_istore_n (lv' := [(2, .int r_98), (5, .int r_98), (4, .int l_74), (3, .int l_73), (0, .ref (hm 0)), (1, .int i)]) hx hb dX10_gap_118 rfl hl (by decide) rfl (fun ls hl => ?_)
                refine lv_iload hx hb dX10_gap_119 (lv_at hl 1 rfl) ?_
                refine lv_iload_n hx hb dX10_gap_121 rfl (lv_at hl 3 rfl) ?_
                refine lv_icmp_le (tgt := 130) hx hb dX10_gap_122 (by decide) (fun c_115 => ?_) (fun c_115 => ?_)
                · have gc_115 : r_98.toInt ≤ l_73.toInt := i_le (rfl : r_98.toInt = r_98.toInt) (rfl : l_73.toInt = l_73.toInt) c_115
                  refine lv_iload_n hx hb dX10_gap_130 rfl (lv_at hl 3 rfl) ?_
                  refine lv_istore_n (lv' := [(3, .int l_73), (2, .int r_98), (5, .int r_98), (4, .int l_74), (0, .ref (hm 0)), (1, .int i)]) hx hb dX10_gap_131 rfl hl (by decide) rfl (fun ls hl => ?_)
                  obtain ⟨n_116, en_116⟩ : ∃ y : Int32, y = l_74 + 1 := ⟨_, rfl⟩
                  have tn_116 : n_116.toInt = l_74.toInt + 1 := i_add en_116 (rfl : l_74.toInt = l_74.toInt) (by decide : (1 : Int32).toInt = 1) (by omega) (by omega)
                  refine lv_iinc (v := n_116) (lv' := [(4, .int n_116), (3, .int l_73), (2, .int r_98), (5, .int r_98), (0, .ref (hm 0)), (1, .int i)]) hx hb dX10_gap_132 hl (k := 3) rfl (by rw [en_116]; rfl) (by decide) rfl (fun ls hl => ?_)
                  refine lv_goto (tgt := 64) hx hb dX10_gap_135 (by decide) ?_
                  exact ih64_82 zisRefused_107 zworth_106 r_98 l_73 n_116 zatH_102 zatI_104 zatL_100 zatM_103 zatQ_105 zatT_101 zatW_99 p_110 (by omega) (by omega) (by omega) (by omega) (by omega) (by omega) _ _ _ hP hD hS (lv_sub hl [0, 1, 2, 4, 5] rfl)
                · have gc_115 : l_73.toInt < r_98.toInt := i_nle (rfl : r_98.toInt = r_98.toInt) (rfl : l_73.toInt = l_73.toInt) c_115
                  refine lv_iload hx hb dX10_gap_125 (lv_at hl 1 rfl) ?_
                  refine lv_goto (tgt := 131) hx hb dX10_gap_127 (by decide) ?_
                  refine lv_istore_n (lv' := [(3, .int r_98), (2, .int r_98), (5, .int r_98), (4, .int l_74), (0, .ref (hm 0)), (1, .int i)]) hx hb dX10_gap_131 rfl hl (by decide) rfl (fun ls hl => ?_)
                  obtain ⟨n_117, en_117⟩ : ∃ y : Int32, y = l_74 + 1 := ⟨_, rfl⟩
                  have tn_117 : n_117.toInt = l_74.toInt + 1 := i_add en_117 (rfl : l_74.toInt = l_74.toInt) (by decide : (1 : Int32).toInt = 1) (by omega) (by omega)
                  refine lv_iinc (v := n_117) (lv' := [(4, .int n_117), (3, .int r_98), (2, .int r_98), (5, .int r_98), (0, .ref (hm 0)), (1, .int i)]) hx hb dX10_gap_132 hl (k := 3) rfl (by rw [en_117]; rfl) (by decide) rfl (fun ls hl => ?_)
                  refine lv_goto (tgt := 64) hx hb dX10_gap_135 (by decide) ?_
                  exact ih64_82 zisRefused_107 zworth_106 r_98 r_98 n_117 zatH_102 zatI_104 zatL_100 zatM_103 zatQ_105 zatT_101 zatW_99 p_110 (by omega) (by omega) (by omega) (by omega) (by omega) (by omega) _ _ _ hP hD hS (lv_sub hl [0, 1, 2, 4, 5] rfl)
        have k_118 : (60 : Int32).toInt = 60 := by decide
        have k_119 : (0 : Int32).toInt = 0 := by decide
        have k_120 : (0 : Int32).toInt = 0 := by decide
        exact L64_82 8589934592 zisRefused_53 zworth_52 60 0 0 zatH_48 zatI_50 zatL_46 zatM_49 zatQ_51 zatT_47 zatW_45 p_56 (by omega) (by omega) (by omega) (by omega) (by omega) (by omega) _ _ _ hP hD hS (lv_sub hl [0, 1, 2, 3, 4] rfl)
      · have gc_35 : r_33.toInt < i.toInt := i_nle (rfl : i.toInt = i.toInt) (rfl : r_33.toInt = r_33.toInt) c_35
        refine lv_bipush (v := (-2)) hx hb dX10_gap_29 (by decide) ?_
        have k_121 : ((-2) : Int32).toInt = (-2) := by decide
        exact hrt (-2) zatW_10 zatL_11 zatT_12 zatH_13 zatM_14 zatI_15 zatQ_16 zgoPace_17 zgoMinutes_18 zspentAt_19 zranChanges_20 zworth_21 zisRefused_22 ztired_23 zranMinutes_24 ztiredAhead_25 ⟨(by omega), (by omega), (by omega), p_29, p_30, p_31⟩ hP hD hS rfl dX10_gap_31
    · have gc_7 : r_4.toInt = 0 := i_eq (rfl : r_4.toInt = r_4.toInt) (by decide : (0 : Int32).toInt = 0) c_7
      refine lv_iconst (v := (-1)) hx hb dX10_gap_15 (by decide) ?_
      have k_122 : ((-1) : Int32).toInt = (-1) := by decide
      exact hrt (-1) v_atW v_atL v_atT v_atH v_atM v_atI v_atQ v_goPace v_goMinutes v_spentAt v_ranChanges f_m_worth f_m_isRefused f_m_tired f_m_ranMinutes f_m_tiredAhead ⟨(by omega), (by omega), (by omega), hr_m_isRefused, hr_m_tired, hr_m_tiredAhead⟩ hP hD hS rfl dX10_gap_16
set_option maxHeartbeats 16000000 in
set_option maxRecDepth 100000 in
theorem c_X10_changeTime (l : Launch) (D : va_G) (cy : Nat → ClassId) (hm : Nat → Nat) (v_taped v_walkers v_loads v_pieces v_changeCosts v_planned v_isMarch v_clauseMany v_place v_end v_bad v_clauses v_codes v_open v_stacked v_isOver v_isBehind v_atW v_atL v_atT v_atH v_atM v_atI v_atQ v_packing v_packed v_goPace v_goMinutes v_spentAt v_ranChanges : Int32) (f_m_tape f_m_knee f_m_weight f_m_isLame f_m_loadWeight f_m_owner f_m_food f_m_miles f_m_slope f_m_clauseLetter f_m_sumFrom f_m_codeFrom f_m_codeTo f_m_code f_m_codeArg f_m_newLetter f_m_newSum f_m_newFrom f_m_newTo f_m_newCode f_m_newArg f_m_stack f_m_worth f_m_isRefused f_m_least f_m_packPounds f_m_packOwner f_m_room f_m_givenTo f_m_canBe f_m_setPounds f_m_plainTime f_m_muleTime f_m_planTo f_m_march f_m_tired f_m_ranMinutes f_m_tiredAhead f_m_isReached f_m_toEnd f_m_upTo f_m_upNext f_m_byChanges f_m_bandPaces : Nat → Int32) (sz : Nat) (bf : Int32) (k : Int32) : gMi l yX10_changeTime cX10_changeTime 3 .int 1 [.ref (hm 0), .int bf, .int k] D cy (wMD cy hm v_taped v_walkers v_loads v_pieces v_changeCosts v_planned v_isMarch v_clauseMany v_place v_end v_bad v_clauses v_codes v_open v_stacked v_isOver v_isBehind v_atW v_atL v_atT v_atH v_atM v_atI v_atQ v_packing v_packed v_goPace v_goMinutes v_spentAt v_ranChanges f_m_tape f_m_knee f_m_weight f_m_isLame f_m_loadWeight f_m_owner f_m_food f_m_miles f_m_slope f_m_clauseLetter f_m_sumFrom f_m_codeFrom f_m_codeTo f_m_code f_m_codeArg f_m_newLetter f_m_newSum f_m_newFrom f_m_newTo f_m_newCode f_m_newArg f_m_stack f_m_worth f_m_isRefused f_m_least f_m_packPounds f_m_packOwner f_m_room f_m_givenTo f_m_canBe f_m_setPounds f_m_plainTime f_m_muleTime f_m_planTo f_m_march f_m_tired f_m_ranMinutes f_m_tiredAhead f_m_isReached f_m_toEnd f_m_upTo f_m_upNext f_m_byChanges f_m_bandPaces) NT sz (fun (r : Int32) (u : Unit) => True) (fun u => wMD cy hm v_taped v_walkers v_loads v_pieces v_changeCosts v_planned v_isMarch v_clauseMany v_place v_end v_bad v_clauses v_codes v_open v_stacked v_isOver v_isBehind v_atW v_atL v_atT v_atH v_atM v_atI v_atQ v_packing v_packed v_goPace v_goMinutes v_spentAt v_ranChanges f_m_tape f_m_knee f_m_weight f_m_isLame f_m_loadWeight f_m_owner f_m_food f_m_miles f_m_slope f_m_clauseLetter f_m_sumFrom f_m_codeFrom f_m_codeTo f_m_code f_m_codeArg f_m_newLetter f_m_newSum f_m_newFrom f_m_newTo f_m_newCode f_m_newArg f_m_stack f_m_worth f_m_isRefused f_m_least f_m_packPounds f_m_packOwner f_m_room f_m_givenTo f_m_canBe f_m_setPounds f_m_plainTime f_m_muleTime f_m_planTo f_m_march f_m_tired f_m_ranMinutes f_m_tiredAhead f_m_isReached f_m_toEnd f_m_upTo f_m_upNext f_m_byChanges f_m_bandPaces) := by
  refine gMi_in (by decide) (Nat.le_of_ble_eq_true rfl) ?_
  intro p e s m args below meth c A ls Q hx hb hml hts hown hsz hP hK hD hN hAe hA hS hl hret
  subst hsz
  have hl : lv_has ls 3 [(0, .ref (hm 0)), (1, .int bf), (2, .int k)] := hl
  have hrt := fun (r : Int32)   {H : Heap} {locs : List Loc} {pc : Nat} {ls : Array Slot} => hret r () (H := H) (locs := locs) (pc := pc) (ls := ls) trivial
  clear hret
  refine lv_iload_n hx hb dX10_changeTime_0 rfl (lv_at hl 1 rfl) ?_
  refine lv_bipush (v := 6) hx hb dX10_changeTime_1 (by decide) ?_
  refine lv_icmp_eq (tgt := 11) hx hb dX10_changeTime_3 (by decide) (fun c_1 => ?_) (fun c_1 => ?_)
  · have gc_1 : bf.toInt = 6 := i_eq (rfl : bf.toInt = bf.toInt) (by decide : (6 : Int32).toInt = 6) c_1
    refine lv_iconst (v := 0) hx hb dX10_changeTime_11 (by decide) ?_
    refine lv_goto (tgt := 19) hx hb dX10_changeTime_12 (by decide) ?_
    have k_2 : (0 : Int32).toInt = 0 := by decide
    exact hrt 0   hP hD hS rfl dX10_changeTime_19
  · have gc_1 : bf.toInt ≠ 6 := i_ne (rfl : bf.toInt = bf.toInt) (by decide : (6 : Int32).toInt = 6) c_1
    refine lv_iload_n hx hb dX10_changeTime_6 rfl (lv_at hl 1 rfl) ?_
    refine lv_iload_n hx hb dX10_changeTime_7 rfl (lv_at hl 2 rfl) ?_
    refine lv_icmp_ne (tgt := 15) hx hb dX10_changeTime_8 (by decide) (fun c_3 => ?_) (fun c_3 => ?_)
    · have gc_3 : bf.toInt ≠ k.toInt := i_ne (rfl : bf.toInt = bf.toInt) (rfl : k.toInt = k.toInt) c_3
      refine lv_aload_n hx hb dX10_changeTime_15 rfl (lv_at hl 0 rfl) ?_
      refine gt_MD_MD_changeCosts hx hb hts hown hK hP lwd_156 dX10_changeTime_16 ?_
      exact hrt v_changeCosts   hP hD hS rfl dX10_changeTime_19
    · have gc_3 : bf.toInt = k.toInt := i_eq (rfl : bf.toInt = bf.toInt) (rfl : k.toInt = k.toInt) c_3
      refine lv_iconst (v := 0) hx hb dX10_changeTime_11 (by decide) ?_
      refine lv_goto (tgt := 19) hx hb dX10_changeTime_12 (by decide) ?_
      have k_4 : (0 : Int32).toInt = 0 := by decide
      exact hrt 0   hP hD hS rfl dX10_changeTime_19
set_option maxHeartbeats 16000000 in
set_option maxRecDepth 100000 in
theorem c_X10_mayAct (l : Launch) (D : va_G) (cy : Nat → ClassId) (hm : Nat → Nat) (v_taped v_walkers v_loads v_pieces v_changeCosts v_planned v_isMarch v_clauseMany v_place v_end v_bad v_clauses v_codes v_open v_stacked v_isOver v_isBehind v_atW v_atL v_atT v_atH v_atM v_atI v_atQ v_packing v_packed v_goPace v_goMinutes v_spentAt v_ranChanges : Int32) (f_m_tape f_m_knee f_m_weight f_m_isLame f_m_loadWeight f_m_owner f_m_food f_m_miles f_m_slope f_m_clauseLetter f_m_sumFrom f_m_codeFrom f_m_codeTo f_m_code f_m_codeArg f_m_newLetter f_m_newSum f_m_newFrom f_m_newTo f_m_newCode f_m_newArg f_m_stack f_m_worth f_m_isRefused f_m_least f_m_packPounds f_m_packOwner f_m_room f_m_givenTo f_m_canBe f_m_setPounds f_m_plainTime f_m_muleTime f_m_planTo f_m_march f_m_tired f_m_ranMinutes f_m_tiredAhead f_m_isReached f_m_toEnd f_m_upTo f_m_upNext f_m_byChanges f_m_bandPaces : Nat → Int32) (sz : Nat) (act : Int32) : gMi l yX10_mayAct cX10_mayAct 2 .boolean 2 [.ref (hm 0), .int act] D cy (wMD cy hm v_taped v_walkers v_loads v_pieces v_changeCosts v_planned v_isMarch v_clauseMany v_place v_end v_bad v_clauses v_codes v_open v_stacked v_isOver v_isBehind v_atW v_atL v_atT v_atH v_atM v_atI v_atQ v_packing v_packed v_goPace v_goMinutes v_spentAt v_ranChanges f_m_tape f_m_knee f_m_weight f_m_isLame f_m_loadWeight f_m_owner f_m_food f_m_miles f_m_slope f_m_clauseLetter f_m_sumFrom f_m_codeFrom f_m_codeTo f_m_code f_m_codeArg f_m_newLetter f_m_newSum f_m_newFrom f_m_newTo f_m_newCode f_m_newArg f_m_stack f_m_worth f_m_isRefused f_m_least f_m_packPounds f_m_packOwner f_m_room f_m_givenTo f_m_canBe f_m_setPounds f_m_plainTime f_m_muleTime f_m_planTo f_m_march f_m_tired f_m_ranMinutes f_m_tiredAhead f_m_isReached f_m_toEnd f_m_upTo f_m_upNext f_m_byChanges f_m_bandPaces) NT sz (fun (r : Int32) (u : Unit) => (0 ≤ r.toInt ∧ r.toInt ≤ 1)) (fun u => wMD cy hm v_taped v_walkers v_loads v_pieces v_changeCosts v_planned v_isMarch v_clauseMany v_place v_end v_bad v_clauses v_codes v_open v_stacked v_isOver v_isBehind v_atW v_atL v_atT v_atH v_atM v_atI v_atQ v_packing v_packed v_goPace v_goMinutes v_spentAt v_ranChanges f_m_tape f_m_knee f_m_weight f_m_isLame f_m_loadWeight f_m_owner f_m_food f_m_miles f_m_slope f_m_clauseLetter f_m_sumFrom f_m_codeFrom f_m_codeTo f_m_code f_m_codeArg f_m_newLetter f_m_newSum f_m_newFrom f_m_newTo f_m_newCode f_m_newArg f_m_stack f_m_worth f_m_isRefused f_m_least f_m_packPounds f_m_packOwner f_m_room f_m_givenTo f_m_canBe f_m_setPounds f_m_plainTime f_m_muleTime f_m_planTo f_m_march f_m_tired f_m_ranMinutes f_m_tiredAhead f_m_isReached f_m_toEnd f_m_upTo f_m_upNext f_m_byChanges f_m_bandPaces) := by
  refine gMi_in (by decide) (Nat.le_of_ble_eq_true rfl) ?_
  intro p e s m args below meth c A ls Q hx hb hml hts hown hsz hP hK hD hN hAe hA hS hl hret
  subst hsz
  have hl : lv_has ls 2 [(0, .ref (hm 0)), (1, .int act)] := hl
  have hrt := fun (r : Int32)  (hp : (0 ≤ r.toInt ∧ r.toInt ≤ 1)) {H : Heap} {locs : List Loc} {pc : Nat} {ls : Array Slot} => hret r () (H := H) (locs := locs) (pc := pc) (ls := ls) hp
  clear hret
  refine lv_aload_n hx hb dX10_mayAct_0 rfl (lv_at hl 0 rfl) ?_
  refine gt_MD_MD_planned hx hb hts hown hK hP lwd_249 dX10_mayAct_1 ?_
  refine lv_iload_n hx hb dX10_mayAct_4 rfl (lv_at hl 1 rfl) ?_
  refine lv_bipush (v := 6) hx hb dX10_mayAct_5 (by decide) ?_
  refine lv_irem hx hb dX10_mayAct_7 (by decide) ?_
  refine lv_topi (fun n_1 en_1 => ?_)
  have bn_1 : -5 ≤ n_1.toInt ∧ n_1.toInt ≤ 5 := i_remc en_1 (by decide : (6 : Int32).toInt = 6) (by decide)
  refine xi hD hS hA (xS (As := [.int v_planned, .int n_1]) (rest := []) hx hb hml hown hts hK hP hD hS hA NT_ok hN hAe hl.1 ⟨Nat.le_refl _, Nat.le_refl _⟩ (c_X10_has l D cy hm v_taped v_walkers v_loads v_pieces v_changeCosts v_planned v_isMarch v_clauseMany v_place v_end v_bad v_clauses v_codes v_open v_stacked v_isOver v_isBehind v_atW v_atL v_atT v_atH v_atM v_atI v_atQ v_packing v_packed v_goPace v_goMinutes v_spentAt v_ranChanges f_m_tape f_m_knee f_m_weight f_m_isLame f_m_loadWeight f_m_owner f_m_food f_m_miles f_m_slope f_m_clauseLetter f_m_sumFrom f_m_codeFrom f_m_codeTo f_m_code f_m_codeArg f_m_newLetter f_m_newSum f_m_newFrom f_m_newTo f_m_newCode f_m_newArg f_m_stack f_m_worth f_m_isRefused f_m_least f_m_packPounds f_m_packOwner f_m_room f_m_givenTo f_m_canBe f_m_setPounds f_m_plainTime f_m_muleTime f_m_planTo f_m_march f_m_tired f_m_ranMinutes f_m_tiredAhead f_m_isReached f_m_toEnd f_m_upTo f_m_upNext f_m_byChanges f_m_bandPaces s.heap.size v_planned n_1) (gi_S lwd_750 lwd_751 lwd_5 lwd_752) hd_X10_has ⟨Nat.le_of_ble_eq_true rfl, Nat.le_of_ble_eq_true rfl⟩ rfl (Nat.le_of_ble_eq_true rfl) dX10_mayAct_8) (fun r_3 u_2 H locs hw hP hD hS => ?_)
  try dsimp only at hw hP hD
  have p_4 := hw
  clear hw
  exact hrt r_3  (by omega) hP hD hS (nar_b (i_01' (by omega))) dX10_mayAct_11
set_option maxHeartbeats 16000000 in
set_option maxRecDepth 100000 in
theorem c_X10_isTold (l : Launch) (D : va_G) (cy : Nat → ClassId) (hm : Nat → Nat) (v_taped v_walkers v_loads v_pieces v_changeCosts v_planned v_isMarch v_clauseMany v_place v_end v_bad v_clauses v_codes v_open v_stacked v_isOver v_isBehind v_atW v_atL v_atT v_atH v_atM v_atI v_atQ v_packing v_packed v_goPace v_goMinutes v_spentAt v_ranChanges : Int32) (f_m_tape f_m_knee f_m_weight f_m_isLame f_m_loadWeight f_m_owner f_m_food f_m_miles f_m_slope f_m_clauseLetter f_m_sumFrom f_m_codeFrom f_m_codeTo f_m_code f_m_codeArg f_m_newLetter f_m_newSum f_m_newFrom f_m_newTo f_m_newCode f_m_newArg f_m_stack f_m_worth f_m_isRefused f_m_least f_m_packPounds f_m_packOwner f_m_room f_m_givenTo f_m_canBe f_m_setPounds f_m_plainTime f_m_muleTime f_m_planTo f_m_march f_m_tired f_m_ranMinutes f_m_tiredAhead f_m_isReached f_m_toEnd f_m_upTo f_m_upNext f_m_byChanges f_m_bandPaces : Nat → Int32) (sz : Nat) (hb_v_walkers : 0 ≤ v_walkers.toInt ∧ v_walkers.toInt ≤ 6) : gMi l yX10_isTold cX10_isTold 1 .boolean 1 [.ref (hm 0)] D cy (wMD cy hm v_taped v_walkers v_loads v_pieces v_changeCosts v_planned v_isMarch v_clauseMany v_place v_end v_bad v_clauses v_codes v_open v_stacked v_isOver v_isBehind v_atW v_atL v_atT v_atH v_atM v_atI v_atQ v_packing v_packed v_goPace v_goMinutes v_spentAt v_ranChanges f_m_tape f_m_knee f_m_weight f_m_isLame f_m_loadWeight f_m_owner f_m_food f_m_miles f_m_slope f_m_clauseLetter f_m_sumFrom f_m_codeFrom f_m_codeTo f_m_code f_m_codeArg f_m_newLetter f_m_newSum f_m_newFrom f_m_newTo f_m_newCode f_m_newArg f_m_stack f_m_worth f_m_isRefused f_m_least f_m_packPounds f_m_packOwner f_m_room f_m_givenTo f_m_canBe f_m_setPounds f_m_plainTime f_m_muleTime f_m_planTo f_m_march f_m_tired f_m_ranMinutes f_m_tiredAhead f_m_isReached f_m_toEnd f_m_upTo f_m_upNext f_m_byChanges f_m_bandPaces) NT sz (fun (r : Int32) (u : Unit) => (0 ≤ r.toInt ∧ r.toInt ≤ 1) ∧ (r.toInt = 1 → v_walkers.toInt ≤ 4)) (fun u => wMD cy hm v_taped v_walkers v_loads v_pieces v_changeCosts v_planned v_isMarch v_clauseMany v_place v_end v_bad v_clauses v_codes v_open v_stacked v_isOver v_isBehind v_atW v_atL v_atT v_atH v_atM v_atI v_atQ v_packing v_packed v_goPace v_goMinutes v_spentAt v_ranChanges f_m_tape f_m_knee f_m_weight f_m_isLame f_m_loadWeight f_m_owner f_m_food f_m_miles f_m_slope f_m_clauseLetter f_m_sumFrom f_m_codeFrom f_m_codeTo f_m_code f_m_codeArg f_m_newLetter f_m_newSum f_m_newFrom f_m_newTo f_m_newCode f_m_newArg f_m_stack f_m_worth f_m_isRefused f_m_least f_m_packPounds f_m_packOwner f_m_room f_m_givenTo f_m_canBe f_m_setPounds f_m_plainTime f_m_muleTime f_m_planTo f_m_march f_m_tired f_m_ranMinutes f_m_tiredAhead f_m_isReached f_m_toEnd f_m_upTo f_m_upNext f_m_byChanges f_m_bandPaces) := by
  refine gMi_in (by decide) (Nat.le_of_ble_eq_true rfl) ?_
  intro p e s m args below meth c A ls Q hx hb hml hts hown hsz hP hK hD hN hAe hA hS hl hret
  subst hsz
  have hl : lv_has ls 1 [(0, .ref (hm 0))] := hl
  have hrt := fun (r : Int32)  (hp : (0 ≤ r.toInt ∧ r.toInt ≤ 1) ∧ (r.toInt = 1 → v_walkers.toInt ≤ 4)) {H : Heap} {locs : List Loc} {pc : Nat} {ls : Array Slot} => hret r () (H := H) (locs := locs) (pc := pc) (ls := ls) hp
  clear hret
  refine lv_aload_n hx hb dX10_isTold_0 rfl (lv_at hl 0 rfl) ?_
  refine gt_MD_MD_walkers hx hb hts hown hK hP lwd_221 dX10_isTold_1 ?_
  refine lv_iconst (v := 4) hx hb dX10_isTold_4 (by decide) ?_
  refine lv_icmp_gt (tgt := 19) hx hb dX10_isTold_5 (by decide) (fun c_1 => ?_) (fun c_1 => ?_)
  · have gc_1 : 4 < v_walkers.toInt := i_lt (by decide : (4 : Int32).toInt = 4) (rfl : v_walkers.toInt = v_walkers.toInt) c_1
    refine lv_iconst (v := 0) hx hb dX10_isTold_19 (by decide) ?_
    have k_2 : (0 : Int32).toInt = 0 := by decide
    exact hrt 0  ⟨(by omega), (by omega)⟩ hP hD hS rfl dX10_isTold_20
  · have gc_1 : v_walkers.toInt ≤ 4 := i_nlt (by decide : (4 : Int32).toInt = 4) (rfl : v_walkers.toInt = v_walkers.toInt) c_1
    refine lv_aload_n hx hb dX10_isTold_8 rfl (lv_at hl 0 rfl) ?_
    refine gt_MD_MD_planned hx hb hts hown hK hP lwd_249 dX10_isTold_9 ?_
    refine lv_if_eq (tgt := 19) hx hb dX10_isTold_12 (by decide) (fun c_3 => ?_) (fun c_3 => ?_)
    · have gc_3 : v_planned.toInt = 0 := i_eq (rfl : v_planned.toInt = v_planned.toInt) (by decide : (0 : Int32).toInt = 0) c_3
      refine lv_iconst (v := 0) hx hb dX10_isTold_19 (by decide) ?_
      have k_4 : (0 : Int32).toInt = 0 := by decide
      exact hrt 0  ⟨(by omega), (by omega)⟩ hP hD hS rfl dX10_isTold_20
    · have gc_3 : v_planned.toInt ≠ 0 := i_ne (rfl : v_planned.toInt = v_planned.toInt) (by decide : (0 : Int32).toInt = 0) c_3
      refine lv_iconst (v := 1) hx hb dX10_isTold_15 (by decide) ?_
      refine lv_goto (tgt := 20) hx hb dX10_isTold_16 (by decide) ?_
      have k_5 : (1 : Int32).toInt = 1 := by decide
      exact hrt 1  ⟨(by omega), (by omega)⟩ hP hD hS rfl dX10_isTold_20
set_option maxHeartbeats 16000000 in
set_option maxRecDepth 100000 in
theorem c_X10_reaches (l : Launch) (D : va_G) (cy : Nat → ClassId) (hm : Nat → Nat) (v_taped v_walkers v_loads v_pieces v_changeCosts v_planned v_isMarch v_clauseMany v_place v_end v_bad v_clauses v_codes v_open v_stacked v_isOver v_isBehind v_atW v_atL v_atT v_atH v_atM v_atI v_atQ v_packing v_packed v_goPace v_goMinutes v_spentAt v_ranChanges : Int32) (f_m_tape f_m_knee f_m_weight f_m_isLame f_m_loadWeight f_m_owner f_m_food f_m_miles f_m_slope f_m_clauseLetter f_m_sumFrom f_m_codeFrom f_m_codeTo f_m_code f_m_codeArg f_m_newLetter f_m_newSum f_m_newFrom f_m_newTo f_m_newCode f_m_newArg f_m_stack f_m_worth f_m_isRefused f_m_least f_m_packPounds f_m_packOwner f_m_room f_m_givenTo f_m_canBe f_m_setPounds f_m_plainTime f_m_muleTime f_m_planTo f_m_march f_m_tired f_m_ranMinutes f_m_tiredAhead f_m_isReached f_m_toEnd f_m_upTo f_m_upNext f_m_byChanges f_m_bandPaces : Nat → Int32) (sz : Nat) (hb_v_walkers : 0 ≤ v_walkers.toInt ∧ v_walkers.toInt ≤ 6) (hb_v_loads : 0 ≤ v_loads.toInt ∧ v_loads.toInt ≤ 9) (hb_v_pieces : 0 ≤ v_pieces.toInt ∧ v_pieces.toInt ≤ 10) (hb_v_clauseMany : 0 ≤ v_clauseMany.toInt ∧ v_clauseMany.toInt ≤ 14) (hb_v_atW : 0 ≤ v_atW.toInt ∧ v_atW.toInt ≤ 5) (hb_v_goPace : 0 ≤ v_goPace.toInt ∧ v_goPace.toInt ≤ 60) (hr_m_weight : rg (0) 250 f_m_weight) (hr_m_isLame : rg (0) 1 f_m_isLame) (hr_m_loadWeight : rg (0) 120 f_m_loadWeight) (hr_m_food : rg (0) 20 f_m_food) (hr_m_miles : rg (0) 20 f_m_miles) (hr_m_isRefused : rg (0) 1 f_m_isRefused) (hr_m_tired : rg (0) 5 f_m_tired) (hr_m_isReached : rg (0) 1 f_m_isReached) (hwf : wfC v_clauseMany f_m_sumFrom f_m_codeFrom f_m_codeTo f_m_code) (hw4 : v_walkers.toInt ≤ 4) : gMv l yX10_reaches cX10_reaches 5 8 [.ref (hm 0)] D cy (wMD cy hm v_taped v_walkers v_loads v_pieces v_changeCosts v_planned v_isMarch v_clauseMany v_place v_end v_bad v_clauses v_codes v_open v_stacked v_isOver v_isBehind v_atW v_atL v_atT v_atH v_atM v_atI v_atQ v_packing v_packed v_goPace v_goMinutes v_spentAt v_ranChanges f_m_tape f_m_knee f_m_weight f_m_isLame f_m_loadWeight f_m_owner f_m_food f_m_miles f_m_slope f_m_clauseLetter f_m_sumFrom f_m_codeFrom f_m_codeTo f_m_code f_m_codeArg f_m_newLetter f_m_newSum f_m_newFrom f_m_newTo f_m_newCode f_m_newArg f_m_stack f_m_worth f_m_isRefused f_m_least f_m_packPounds f_m_packOwner f_m_room f_m_givenTo f_m_canBe f_m_setPounds f_m_plainTime f_m_muleTime f_m_planTo f_m_march f_m_tired f_m_ranMinutes f_m_tiredAhead f_m_isReached f_m_toEnd f_m_upTo f_m_upNext f_m_byChanges f_m_bandPaces) NT sz (fun (u : Int32 × Int32 × Int32 × Int32 × Int32 × Int32 × Int32 × Int32 × Int32 × (Nat → Int32) × (Nat → Int32) × (Nat → Int32) × (Nat → Int32)) => (0 ≤ (u.1).toInt ∧ (u.1).toInt ≤ 5) ∧ (0 ≤ (u.2.2.2.2.2.2.2.1).toInt ∧ (u.2.2.2.2.2.2.2.1).toInt ≤ 60) ∧ (rg (0) 1 (u.2.2.2.2.2.2.2.2.2.2.1)) ∧ (rg (0) 5 (u.2.2.2.2.2.2.2.2.2.2.2.1)) ∧ (rg (0) 1 (u.2.2.2.2.2.2.2.2.2.2.2.2))) (fun u => wMD cy hm v_taped v_walkers v_loads v_pieces v_changeCosts v_planned v_isMarch v_clauseMany v_place v_end v_bad v_clauses v_codes v_open v_stacked v_isOver v_isBehind (u.1) (u.2.1) (u.2.2.1) (u.2.2.2.1) (u.2.2.2.2.1) (u.2.2.2.2.2.1) (u.2.2.2.2.2.2.1) v_packing v_packed (u.2.2.2.2.2.2.2.1) (u.2.2.2.2.2.2.2.2.1) v_spentAt v_ranChanges f_m_tape f_m_knee f_m_weight f_m_isLame f_m_loadWeight f_m_owner f_m_food f_m_miles f_m_slope f_m_clauseLetter f_m_sumFrom f_m_codeFrom f_m_codeTo f_m_code f_m_codeArg f_m_newLetter f_m_newSum f_m_newFrom f_m_newTo f_m_newCode f_m_newArg f_m_stack (u.2.2.2.2.2.2.2.2.2.1) (u.2.2.2.2.2.2.2.2.2.2.1) f_m_least f_m_packPounds f_m_packOwner f_m_room f_m_givenTo f_m_canBe f_m_setPounds f_m_plainTime f_m_muleTime f_m_planTo f_m_march (u.2.2.2.2.2.2.2.2.2.2.2.1) f_m_ranMinutes f_m_tiredAhead (u.2.2.2.2.2.2.2.2.2.2.2.2) f_m_toEnd f_m_upTo f_m_upNext f_m_byChanges f_m_bandPaces) := by
  refine gMv_in (by decide) (Nat.le_of_ble_eq_true rfl) ?_
  intro p e s m args below meth c A ls Q hx hb hml hts hown hsz hP hK hD hN hAe hA hS hl hret
  subst hsz
  have hl : lv_has ls 5 [(0, .ref (hm 0))] := hl
  have hrt := fun (v_atW' : Int32) (v_atL' : Int32) (v_atT' : Int32) (v_atH' : Int32) (v_atM' : Int32) (v_atI' : Int32) (v_atQ' : Int32) (v_goPace' : Int32) (v_goMinutes' : Int32) (f_m_worth' : Nat → Int32) (f_m_isRefused' : Nat → Int32) (f_m_tired' : Nat → Int32) (f_m_isReached' : Nat → Int32) (hp : (0 ≤ v_atW'.toInt ∧ v_atW'.toInt ≤ 5) ∧ (0 ≤ v_goPace'.toInt ∧ v_goPace'.toInt ≤ 60) ∧ (rg (0) 1 f_m_isRefused') ∧ (rg (0) 5 f_m_tired') ∧ (rg (0) 1 f_m_isReached')) {H : Heap} {locs : List Loc} {pc : Nat} {ls : Array Slot} => hret (v_atW', v_atL', v_atT', v_atH', v_atM', v_atI', v_atQ', v_goPace', v_goMinutes', f_m_worth', f_m_isRefused', f_m_tired', f_m_isReached') (H := H) (locs := locs) (pc := pc) (ls := ls) hp
  clear hret
  refine lv_iconst (v := 0) hx hb dX10_reaches_0 (by decide) ?_
  refine lv_istore_n (lv' := [(1, .int 0), (0, .ref (hm 0))]) hx hb dX10_reaches_1 rfl hl (by decide) rfl (fun ls hl => ?_)
  have L2_5 : ∀ (n : Nat) (f_3 : Nat → Int32) (l_4 : Int32), (rg (0) 1 f_3) → (0 ≤ l_4.toInt ∧ l_4.toInt ≤ 11) → 12 - l_4.toInt < n → ∀ (H : Heap) (locs : List Loc) (ls : Array Slot), va_P D vwCl (wMD cy hm v_taped v_walkers v_loads v_pieces v_changeCosts v_planned v_isMarch v_clauseMany v_place v_end v_bad v_clauses v_codes v_open v_stacked v_isOver v_isBehind v_atW v_atL v_atT v_atH v_atM v_atI v_atQ v_packing v_packed v_goPace v_goMinutes v_spentAt v_ranChanges f_m_tape f_m_knee f_m_weight f_m_isLame f_m_loadWeight f_m_owner f_m_food f_m_miles f_m_slope f_m_clauseLetter f_m_sumFrom f_m_codeFrom f_m_codeTo f_m_code f_m_codeArg f_m_newLetter f_m_newSum f_m_newFrom f_m_newTo f_m_newCode f_m_newArg f_m_stack f_m_worth f_m_isRefused f_m_least f_m_packPounds f_m_packOwner f_m_room f_m_givenTo f_m_canBe f_m_setPounds f_m_plainTime f_m_muleTime f_m_planTo f_m_march f_m_tired f_m_ranMinutes f_m_tiredAhead f_3 f_m_toEnd f_m_upTo f_m_upNext f_m_byChanges f_m_bandPaces) H → va_D A (wMD cy hm v_taped v_walkers v_loads v_pieces v_changeCosts v_planned v_isMarch v_clauseMany v_place v_end v_bad v_clauses v_codes v_open v_stacked v_isOver v_isBehind v_atW v_atL v_atT v_atH v_atM v_atI v_atQ v_packing v_packed v_goPace v_goMinutes v_spentAt v_ranChanges f_m_tape f_m_knee f_m_weight f_m_isLame f_m_loadWeight f_m_owner f_m_food f_m_miles f_m_slope f_m_clauseLetter f_m_sumFrom f_m_codeFrom f_m_codeTo f_m_code f_m_codeArg f_m_newLetter f_m_newSum f_m_newFrom f_m_newTo f_m_newCode f_m_newArg f_m_stack f_m_worth f_m_isRefused f_m_least f_m_packPounds f_m_packOwner f_m_room f_m_givenTo f_m_canBe f_m_setPounds f_m_plainTime f_m_muleTime f_m_planTo f_m_march f_m_tired f_m_ranMinutes f_m_tiredAhead f_3 f_m_toEnd f_m_upTo f_m_upNext f_m_byChanges f_m_bandPaces) → va_S A s.heap H locs → lv_has ls 5 [(1, .int l_4), (0, .ref (hm 0))] → W p l e (gRm 8) s m args below meth c H locs 0 0 Q (F0 m 2 ls []) := by
    intro n
    induction n with
    | zero => intro f_3 l_4 hL2_5_0 hL2_5_1 hm; exact absurd hm (by omega)
    | succ n ih2_5 =>
      intro f_3 l_4 hL2_5_0 hL2_5_1 hmL2_5 H locs ls hP hD hS hl
      refine lv_iload_n hx hb dX10_reaches_2 rfl (lv_at hl 0 rfl) ?_
      refine lv_aload_n hx hb dX10_reaches_3 rfl (lv_at hl 1 rfl) ?_
      refine gt_MD_MD_pieces hx hb hts hown hK hP lwd_265 dX10_reaches_4 ?_
      refine lv_icmp_gt (tgt := 57) hx hb dX10_reaches_7 (by decide) (fun c_6 => ?_) (fun c_6 => ?_)
      · have gc_6 : v_pieces.toInt < l_4.toInt := i_lt (rfl : v_pieces.toInt = v_pieces.toInt) (rfl : l_4.toInt = l_4.toInt) c_6
        refine lv_aload_n hx hb dX10_reaches_57 rfl (lv_at hl 1 rfl) ?_
        refine gt_MD_MD_isReached hx hb hts hown hK hP lwd_195 dX10_reaches_58 ?_
        refine lv_iconst (v := 0) hx hb dX10_reaches_61 (by decide) ?_
        refine lv_bipush (v := 6) hx hb dX10_reaches_62 (by decide) ?_
        refine lv_iconst (v := 0) hx hb dX10_reaches_64 (by decide) ?_
        have k_7 : (0 : Int32).toInt = 0 := by decide
        have k_8 : (6 : Int32).toInt = 6 := by decide
        refine xi hD hS hA (xS (As := [.int 0, .int 6, .int 0]) (rest := [.ref (hm 39)]) hx hb hml hown hts hK hP hD hS hA NT_ok hN hAe hl.1 ⟨Nat.le_refl _, Nat.le_refl _⟩ (c_X10_stateOf l D cy hm v_taped v_walkers v_loads v_pieces v_changeCosts v_planned v_isMarch v_clauseMany v_place v_end v_bad v_clauses v_codes v_open v_stacked v_isOver v_isBehind v_atW v_atL v_atT v_atH v_atM v_atI v_atQ v_packing v_packed v_goPace v_goMinutes v_spentAt v_ranChanges f_m_tape f_m_knee f_m_weight f_m_isLame f_m_loadWeight f_m_owner f_m_food f_m_miles f_m_slope f_m_clauseLetter f_m_sumFrom f_m_codeFrom f_m_codeTo f_m_code f_m_codeArg f_m_newLetter f_m_newSum f_m_newFrom f_m_newTo f_m_newCode f_m_newArg f_m_stack f_m_worth f_m_isRefused f_m_least f_m_packPounds f_m_packOwner f_m_room f_m_givenTo f_m_canBe f_m_setPounds f_m_plainTime f_m_muleTime f_m_planTo f_m_march f_m_tired f_m_ranMinutes f_m_tiredAhead f_3 f_m_toEnd f_m_upTo f_m_upNext f_m_byChanges f_m_bandPaces H.size 0 6 0 (by omega) (by omega) (by omega)) (gi_S lwd_1116 lwd_1117 lwd_5 lwd_1118) hd_X10_stateOf ⟨Nat.le_of_ble_eq_true rfl, Nat.le_of_ble_eq_true rfl⟩ rfl (Nat.le_of_ble_eq_true rfl) dX10_reaches_65) (fun r_10 u_9 H locs hw hP hD hS => ?_)
        try dsimp only at hw hP hD
        obtain ⟨p_11, p_12⟩ := hw
        refine lv_iconst (v := 1) hx hb dX10_reaches_68 (by decide) ?_
        refine as_m_isReached (x := 1) hx hb hK hP hD hS hL2_5_0 (i_in (rfl : r_10.toInt = r_10.toInt) (by omega) (by omega)) (by decide) dX10_reaches_69 (fun f_13 ef_13 rf_13 H locs hP hD hS => ?_)
        refine lv_iconst (v := 0) hx hb dX10_reaches_70 (by decide) ?_
        refine lv_istore_n (lv' := [(1, .int 0), (0, .ref (hm 0))]) hx hb dX10_reaches_71 rfl hl (by decide) rfl (fun ls hl => ?_)
        have L72_42 : ∀ (n : Nat) (f_28 : Nat → Int32) (f_29 : Nat → Int32) (f_30 : Nat → Int32) (f_31 : Nat → Int32) (l_32 : Int32) (w_33 : Int32) (w_34 : Int32) (w_35 : Int32) (w_36 : Int32) (w_37 : Int32) (w_38 : Int32) (w_39 : Int32) (w_40 : Int32) (w_41 : Int32), (rg (0) 1 f_28) → (rg (0) 1 f_29) → (rg (0) 5 f_30) → (0 ≤ l_32.toInt ∧ l_32.toInt ≤ 10) → (0 ≤ w_39.toInt ∧ w_39.toInt ≤ 5) → (0 ≤ w_41.toInt ∧ w_41.toInt ≤ 60) → 11 - l_32.toInt < n → ∀ (H : Heap) (locs : List Loc) (ls : Array Slot), va_P D vwCl (wMD cy hm v_taped v_walkers v_loads v_pieces v_changeCosts v_planned v_isMarch v_clauseMany v_place v_end v_bad v_clauses v_codes v_open v_stacked v_isOver v_isBehind w_39 w_35 w_38 w_33 w_36 w_34 w_37 v_packing v_packed w_41 w_40 v_spentAt v_ranChanges f_m_tape f_m_knee f_m_weight f_m_isLame f_m_loadWeight f_m_owner f_m_food f_m_miles f_m_slope f_m_clauseLetter f_m_sumFrom f_m_codeFrom f_m_codeTo f_m_code f_m_codeArg f_m_newLetter f_m_newSum f_m_newFrom f_m_newTo f_m_newCode f_m_newArg f_m_stack f_31 f_29 f_m_least f_m_packPounds f_m_packOwner f_m_room f_m_givenTo f_m_canBe f_m_setPounds f_m_plainTime f_m_muleTime f_m_planTo f_m_march f_30 f_m_ranMinutes f_m_tiredAhead f_28 f_m_toEnd f_m_upTo f_m_upNext f_m_byChanges f_m_bandPaces) H → va_D A (wMD cy hm v_taped v_walkers v_loads v_pieces v_changeCosts v_planned v_isMarch v_clauseMany v_place v_end v_bad v_clauses v_codes v_open v_stacked v_isOver v_isBehind w_39 w_35 w_38 w_33 w_36 w_34 w_37 v_packing v_packed w_41 w_40 v_spentAt v_ranChanges f_m_tape f_m_knee f_m_weight f_m_isLame f_m_loadWeight f_m_owner f_m_food f_m_miles f_m_slope f_m_clauseLetter f_m_sumFrom f_m_codeFrom f_m_codeTo f_m_code f_m_codeArg f_m_newLetter f_m_newSum f_m_newFrom f_m_newTo f_m_newCode f_m_newArg f_m_stack f_31 f_29 f_m_least f_m_packPounds f_m_packOwner f_m_room f_m_givenTo f_m_canBe f_m_setPounds f_m_plainTime f_m_muleTime f_m_planTo f_m_march f_30 f_m_ranMinutes f_m_tiredAhead f_28 f_m_toEnd f_m_upTo f_m_upNext f_m_byChanges f_m_bandPaces) → va_S A s.heap H locs → lv_has ls 5 [(1, .int l_32), (0, .ref (hm 0))] → W p l e (gRm 8) s m args below meth c H locs 0 0 Q (F0 m 72 ls []) := by
          intro n
          induction n with
          | zero => intro f_28 f_29 f_30 f_31 l_32 w_33 w_34 w_35 w_36 w_37 w_38 w_39 w_40 w_41 hL72_42_0 hL72_42_1 hL72_42_2 hL72_42_3 hL72_42_4 hL72_42_5 hm; exact absurd hm (by omega)
          | succ n ih72_42 =>
            intro f_28 f_29 f_30 f_31 l_32 w_33 w_34 w_35 w_36 w_37 w_38 w_39 w_40 w_41 hL72_42_0 hL72_42_1 hL72_42_2 hL72_42_3 hL72_42_4 hL72_42_5 hmL72_42 H locs ls hP hD hS hl
            refine lv_iload_n hx hb dX10_reaches_72 rfl (lv_at hl 0 rfl) ?_
            refine lv_aload_n hx hb dX10_reaches_73 rfl (lv_at hl 1 rfl) ?_
            refine gt_MD_MD_pieces hx hb hts hown hK hP lwd_265 dX10_reaches_74 ?_
            refine lv_icmp_ge (tgt := 196) hx hb dX10_reaches_77 (by decide) (fun c_43 => ?_) (fun c_43 => ?_)
            · have gc_43 : v_pieces.toInt ≤ l_32.toInt := i_le (rfl : v_pieces.toInt = v_pieces.toInt) (rfl : l_32.toInt = l_32.toInt) c_43
              exact hrt w_39 w_35 w_38 w_33 w_36 w_34 w_37 w_41 w_40 f_31 f_29 f_30 f_28 ⟨(by omega), (by omega), hL72_42_1, hL72_42_2, hL72_42_0⟩ hP hD hS dX10_reaches_196
            · have gc_43 : l_32.toInt < v_pieces.toInt := i_nle (rfl : v_pieces.toInt = v_pieces.toInt) (rfl : l_32.toInt = l_32.toInt) c_43
              refine lv_iconst (v := 0) hx hb dX10_reaches_80 (by decide) ?_
              refine lv_istore_n (lv' := [(2, .int 0), (1, .int l_32), (0, .ref (hm 0))]) hx hb dX10_reaches_81 rfl hl (by decide) rfl (fun ls hl => ?_)
              have L82_72 : ∀ (n : Nat) (f_58 : Nat → Int32) (f_59 : Nat → Int32) (f_60 : Nat → Int32) (f_61 : Nat → Int32) (l_62 : Int32) (w_63 : Int32) (w_64 : Int32) (w_65 : Int32) (w_66 : Int32) (w_67 : Int32) (w_68 : Int32) (w_69 : Int32) (w_70 : Int32) (w_71 : Int32), (rg (0) 1 f_58) → (rg (0) 1 f_59) → (rg (0) 5 f_60) → (0 ≤ l_62.toInt ∧ l_62.toInt ≤ 7) → (0 ≤ w_69.toInt ∧ w_69.toInt ≤ 5) → (0 ≤ w_71.toInt ∧ w_71.toInt ≤ 60) → 8 - l_62.toInt < n → ∀ (H : Heap) (locs : List Loc) (ls : Array Slot), va_P D vwCl (wMD cy hm v_taped v_walkers v_loads v_pieces v_changeCosts v_planned v_isMarch v_clauseMany v_place v_end v_bad v_clauses v_codes v_open v_stacked v_isOver v_isBehind w_69 w_65 w_68 w_63 w_66 w_64 w_67 v_packing v_packed w_71 w_70 v_spentAt v_ranChanges f_m_tape f_m_knee f_m_weight f_m_isLame f_m_loadWeight f_m_owner f_m_food f_m_miles f_m_slope f_m_clauseLetter f_m_sumFrom f_m_codeFrom f_m_codeTo f_m_code f_m_codeArg f_m_newLetter f_m_newSum f_m_newFrom f_m_newTo f_m_newCode f_m_newArg f_m_stack f_61 f_59 f_m_least f_m_packPounds f_m_packOwner f_m_room f_m_givenTo f_m_canBe f_m_setPounds f_m_plainTime f_m_muleTime f_m_planTo f_m_march f_60 f_m_ranMinutes f_m_tiredAhead f_58 f_m_toEnd f_m_upTo f_m_upNext f_m_byChanges f_m_bandPaces) H → va_D A (wMD cy hm v_taped v_walkers v_loads v_pieces v_changeCosts v_planned v_isMarch v_clauseMany v_place v_end v_bad v_clauses v_codes v_open v_stacked v_isOver v_isBehind w_69 w_65 w_68 w_63 w_66 w_64 w_67 v_packing v_packed w_71 w_70 v_spentAt v_ranChanges f_m_tape f_m_knee f_m_weight f_m_isLame f_m_loadWeight f_m_owner f_m_food f_m_miles f_m_slope f_m_clauseLetter f_m_sumFrom f_m_codeFrom f_m_codeTo f_m_code f_m_codeArg f_m_newLetter f_m_newSum f_m_newFrom f_m_newTo f_m_newCode f_m_newArg f_m_stack f_61 f_59 f_m_least f_m_packPounds f_m_packOwner f_m_room f_m_givenTo f_m_canBe f_m_setPounds f_m_plainTime f_m_muleTime f_m_planTo f_m_march f_60 f_m_ranMinutes f_m_tiredAhead f_58 f_m_toEnd f_m_upTo f_m_upNext f_m_byChanges f_m_bandPaces) → va_S A s.heap H locs → lv_has ls 5 [(2, .int l_62), (1, .int l_32), (0, .ref (hm 0))] → W p l e (gRm 8) s m args below meth c H locs 0 0 Q (F0 m 82 ls []) := by
                intro n
                induction n with
                | zero => intro f_58 f_59 f_60 f_61 l_62 w_63 w_64 w_65 w_66 w_67 w_68 w_69 w_70 w_71 hL82_72_0 hL82_72_1 hL82_72_2 hL82_72_3 hL82_72_4 hL82_72_5 hm; exact absurd hm (by omega)
                | succ n ih82_72 =>
                  intro f_58 f_59 f_60 f_61 l_62 w_63 w_64 w_65 w_66 w_67 w_68 w_69 w_70 w_71 hL82_72_0 hL82_72_1 hL82_72_2 hL82_72_3 hL82_72_4 hL82_72_5 hmL82_72 H locs ls hP hD hS hl
                  refine lv_iload_n hx hb dX10_reaches_82 rfl (lv_at hl 0 rfl) ?_
                  refine lv_bipush (v := 6) hx hb dX10_reaches_83 (by decide) ?_
                  refine lv_icmp_gt (tgt := 190) hx hb dX10_reaches_85 (by decide) (fun c_73 => ?_) (fun c_73 => ?_)
                  · have gc_73 : 6 < l_62.toInt := i_lt (by decide : (6 : Int32).toInt = 6) (rfl : l_62.toInt = l_62.toInt) c_73
                    obtain ⟨n_74, en_74⟩ : ∃ y : Int32, y = l_32 + 1 := ⟨_, rfl⟩
                    have tn_74 : n_74.toInt = l_32.toInt + 1 := i_add en_74 (rfl : l_32.toInt = l_32.toInt) (by decide : (1 : Int32).toInt = 1) (by omega) (by omega)
                    refine lv_iinc (v := n_74) (lv' := [(1, .int n_74), (2, .int l_62), (0, .ref (hm 0))]) hx hb dX10_reaches_190 hl (k := 1) rfl (by rw [en_74]; rfl) (by decide) rfl (fun ls hl => ?_)
                    refine lv_goto (tgt := 72) hx hb dX10_reaches_193 (by decide) ?_
                    exact ih72_42 f_58 f_59 f_60 f_61 n_74 w_63 w_64 w_65 w_66 w_67 w_68 w_69 w_70 w_71 hL82_72_0 hL82_72_1 hL82_72_2 (by omega) (by omega) (by omega) (by omega) _ _ _ hP hD hS (lv_sub hl [0, 2] rfl)
                  · have gc_73 : l_62.toInt ≤ 6 := i_nlt (by decide : (6 : Int32).toInt = 6) (rfl : l_62.toInt = l_62.toInt) c_73
                    refine lv_iconst (v := 0) hx hb dX10_reaches_88 (by decide) ?_
                    refine lv_istore_n (lv' := [(3, .int 0), (2, .int l_62), (1, .int l_32), (0, .ref (hm 0))]) hx hb dX10_reaches_89 rfl hl (by decide) rfl (fun ls hl => ?_)
                    have L90_103 : ∀ (n : Nat) (f_89 : Nat → Int32) (f_90 : Nat → Int32) (f_91 : Nat → Int32) (f_92 : Nat → Int32) (l_93 : Int32) (w_94 : Int32) (w_95 : Int32) (w_96 : Int32) (w_97 : Int32) (w_98 : Int32) (w_99 : Int32) (w_100 : Int32) (w_101 : Int32) (w_102 : Int32), (rg (0) 1 f_89) → (rg (0) 1 f_90) → (rg (0) 5 f_91) → (0 ≤ l_93.toInt ∧ l_93.toInt ≤ 1296) → (0 ≤ w_100.toInt ∧ w_100.toInt ≤ 5) → (0 ≤ w_102.toInt ∧ w_102.toInt ≤ 60) → 1297 - l_93.toInt < n → ∀ (H : Heap) (locs : List Loc) (ls : Array Slot), va_P D vwCl (wMD cy hm v_taped v_walkers v_loads v_pieces v_changeCosts v_planned v_isMarch v_clauseMany v_place v_end v_bad v_clauses v_codes v_open v_stacked v_isOver v_isBehind w_100 w_96 w_99 w_94 w_97 w_95 w_98 v_packing v_packed w_102 w_101 v_spentAt v_ranChanges f_m_tape f_m_knee f_m_weight f_m_isLame f_m_loadWeight f_m_owner f_m_food f_m_miles f_m_slope f_m_clauseLetter f_m_sumFrom f_m_codeFrom f_m_codeTo f_m_code f_m_codeArg f_m_newLetter f_m_newSum f_m_newFrom f_m_newTo f_m_newCode f_m_newArg f_m_stack f_92 f_90 f_m_least f_m_packPounds f_m_packOwner f_m_room f_m_givenTo f_m_canBe f_m_setPounds f_m_plainTime f_m_muleTime f_m_planTo f_m_march f_91 f_m_ranMinutes f_m_tiredAhead f_89 f_m_toEnd f_m_upTo f_m_upNext f_m_byChanges f_m_bandPaces) H → va_D A (wMD cy hm v_taped v_walkers v_loads v_pieces v_changeCosts v_planned v_isMarch v_clauseMany v_place v_end v_bad v_clauses v_codes v_open v_stacked v_isOver v_isBehind w_100 w_96 w_99 w_94 w_97 w_95 w_98 v_packing v_packed w_102 w_101 v_spentAt v_ranChanges f_m_tape f_m_knee f_m_weight f_m_isLame f_m_loadWeight f_m_owner f_m_food f_m_miles f_m_slope f_m_clauseLetter f_m_sumFrom f_m_codeFrom f_m_codeTo f_m_code f_m_codeArg f_m_newLetter f_m_newSum f_m_newFrom f_m_newTo f_m_newCode f_m_newArg f_m_stack f_92 f_90 f_m_least f_m_packPounds f_m_packOwner f_m_room f_m_givenTo f_m_canBe f_m_setPounds f_m_plainTime f_m_muleTime f_m_planTo f_m_march f_91 f_m_ranMinutes f_m_tiredAhead f_89 f_m_toEnd f_m_upTo f_m_upNext f_m_byChanges f_m_bandPaces) → va_S A s.heap H locs → lv_has ls 5 [(3, .int l_93), (2, .int l_62), (1, .int l_32), (0, .ref (hm 0))] → W p l e (gRm 8) s m args below meth c H locs 0 0 Q (F0 m 90 ls []) := by
                      intro n
                      induction n with
                      | zero => intro f_89 f_90 f_91 f_92 l_93 w_94 w_95 w_96 w_97 w_98 w_99 w_100 w_101 w_102 hL90_103_0 hL90_103_1 hL90_103_2 hL90_103_3 hL90_103_4 hL90_103_5 hm; exact absurd hm (by omega)
                      | succ n ih90_103 =>
                        intro f_89 f_90 f_91 f_92 l_93 w_94 w_95 w_96 w_97 w_98 w_99 w_100 w_101 w_102 hL90_103_0 hL90_103_1 hL90_103_2 hL90_103_3 hL90_103_4 hL90_103_5 hmL90_103 H locs ls hP hD hS hl
                        refine lv_iload_n hx hb dX10_reaches_90 rfl (lv_at hl 0 rfl) ?_
                        refine lv_sipush (v := 1296) hx hb dX10_reaches_91 (by decide) ?_
                        refine lv_icmp_ge (tgt := 184) hx hb dX10_reaches_94 (by decide) (fun c_104 => ?_) (fun c_104 => ?_)
                        · have gc_104 : 1296 ≤ l_93.toInt := i_le (by decide : (1296 : Int32).toInt = 1296) (rfl : l_93.toInt = l_93.toInt) c_104
                          obtain ⟨n_105, en_105⟩ : ∃ y : Int32, y = l_62 + 1 := ⟨_, rfl⟩
                          have tn_105 : n_105.toInt = l_62.toInt + 1 := i_add en_105 (rfl : l_62.toInt = l_62.toInt) (by decide : (1 : Int32).toInt = 1) (by omega) (by omega)
                          refine lv_iinc (v := n_105) (lv' := [(2, .int n_105), (3, .int l_93), (1, .int l_32), (0, .ref (hm 0))]) hx hb dX10_reaches_184 hl (k := 1) rfl (by rw [en_105]; rfl) (by decide) rfl (fun ls hl => ?_)
                          refine lv_goto (tgt := 82) hx hb dX10_reaches_187 (by decide) ?_
                          exact ih82_72 f_89 f_90 f_91 f_92 n_105 w_94 w_95 w_96 w_97 w_98 w_99 w_100 w_101 w_102 hL90_103_0 hL90_103_1 hL90_103_2 (by omega) (by omega) (by omega) (by omega) _ _ _ hP hD hS (lv_sub hl [0, 2, 3] rfl)
                        · have gc_104 : l_93.toInt < 1296 := i_nle (by decide : (1296 : Int32).toInt = 1296) (rfl : l_93.toInt = l_93.toInt) c_104
                          refine lv_aload_n hx hb dX10_reaches_97 rfl (lv_at hl 3 rfl) ?_
                          refine gt_MD_MD_isReached hx hb hts hown hK hP lwd_195 dX10_reaches_98 ?_
                          refine lv_iload_n hx hb dX10_reaches_101 rfl (lv_at hl 2 rfl) ?_
                          refine lv_iload_n hx hb dX10_reaches_102 rfl (lv_at hl 1 rfl) ?_
                          refine lv_iload_n hx hb dX10_reaches_103 rfl (lv_at hl 0 rfl) ?_
                          refine xi hD hS hA (xS (As := [.int l_32, .int l_62, .int l_93]) (rest := [.ref (hm 39)]) hx hb hml hown hts hK hP hD hS hA NT_ok hN hAe hl.1 ⟨Nat.le_refl _, Nat.le_refl _⟩ (c_X10_stateOf l D cy hm v_taped v_walkers v_loads v_pieces v_changeCosts v_planned v_isMarch v_clauseMany v_place v_end v_bad v_clauses v_codes v_open v_stacked v_isOver v_isBehind w_100 w_96 w_99 w_94 w_97 w_95 w_98 v_packing v_packed w_102 w_101 v_spentAt v_ranChanges f_m_tape f_m_knee f_m_weight f_m_isLame f_m_loadWeight f_m_owner f_m_food f_m_miles f_m_slope f_m_clauseLetter f_m_sumFrom f_m_codeFrom f_m_codeTo f_m_code f_m_codeArg f_m_newLetter f_m_newSum f_m_newFrom f_m_newTo f_m_newCode f_m_newArg f_m_stack f_92 f_90 f_m_least f_m_packPounds f_m_packOwner f_m_room f_m_givenTo f_m_canBe f_m_setPounds f_m_plainTime f_m_muleTime f_m_planTo f_m_march f_91 f_m_ranMinutes f_m_tiredAhead f_89 f_m_toEnd f_m_upTo f_m_upNext f_m_byChanges f_m_bandPaces H.size l_32 l_62 l_93 (by omega) (by omega) (by omega)) (gi_S lwd_1116 lwd_1117 lwd_5 lwd_1118) hd_X10_stateOf ⟨Nat.le_of_ble_eq_true rfl, Nat.le_of_ble_eq_true rfl⟩ rfl (Nat.le_of_ble_eq_true rfl) dX10_reaches_104) (fun r_107 u_106 H locs hw hP hD hS => ?_)
                          try dsimp only at hw hP hD
                          obtain ⟨p_108, p_109⟩ := hw
                          refine al_m_isReached hx hb hK hP hL90_103_0 (i_in (rfl : r_107.toInt = r_107.toInt) (by omega) (by omega)) dX10_reaches_107 (fun n_110 en_110 bn_110 => ?_)
                          refine lv_if_ne (tgt := 114) hx hb dX10_reaches_108 (by decide) (fun c_111 => ?_) (fun c_111 => ?_)
                          · have gc_111 : n_110.toInt ≠ 0 := i_ne (rfl : n_110.toInt = n_110.toInt) (by decide : (0 : Int32).toInt = 0) c_111
                            refine lv_iconst (v := 0) hx hb dX10_reaches_114 (by decide) ?_
                            refine lv_istore (lv' := [(4, .int 0), (3, .int l_93), (2, .int l_62), (1, .int l_32), (0, .ref (hm 0))]) hx hb dX10_reaches_115 hl (by decide) rfl (fun ls hl => ?_)
                            have L117_140 : ∀ (n : Nat) (f_126 : Nat → Int32) (f_127 : Nat → Int32) (f_128 : Nat → Int32) (f_129 : Nat → Int32) (l_130 : Int32) (w_131 : Int32) (w_132 : Int32) (w_133 : Int32) (w_134 : Int32) (w_135 : Int32) (w_136 : Int32) (w_137 : Int32) (w_138 : Int32) (w_139 : Int32), (rg (0) 1 f_126) → (rg (0) 1 f_127) → (rg (0) 5 f_128) → (0 ≤ l_130.toInt ∧ l_130.toInt ≤ 18) → (0 ≤ w_137.toInt ∧ w_137.toInt ≤ 5) → (0 ≤ w_139.toInt ∧ w_139.toInt ≤ 60) → 19 - l_130.toInt < n → ∀ (H : Heap) (locs : List Loc) (ls : Array Slot), va_P D vwCl (wMD cy hm v_taped v_walkers v_loads v_pieces v_changeCosts v_planned v_isMarch v_clauseMany v_place v_end v_bad v_clauses v_codes v_open v_stacked v_isOver v_isBehind w_137 w_133 w_136 w_131 w_134 w_132 w_135 v_packing v_packed w_139 w_138 v_spentAt v_ranChanges f_m_tape f_m_knee f_m_weight f_m_isLame f_m_loadWeight f_m_owner f_m_food f_m_miles f_m_slope f_m_clauseLetter f_m_sumFrom f_m_codeFrom f_m_codeTo f_m_code f_m_codeArg f_m_newLetter f_m_newSum f_m_newFrom f_m_newTo f_m_newCode f_m_newArg f_m_stack f_129 f_127 f_m_least f_m_packPounds f_m_packOwner f_m_room f_m_givenTo f_m_canBe f_m_setPounds f_m_plainTime f_m_muleTime f_m_planTo f_m_march f_128 f_m_ranMinutes f_m_tiredAhead f_126 f_m_toEnd f_m_upTo f_m_upNext f_m_byChanges f_m_bandPaces) H → va_D A (wMD cy hm v_taped v_walkers v_loads v_pieces v_changeCosts v_planned v_isMarch v_clauseMany v_place v_end v_bad v_clauses v_codes v_open v_stacked v_isOver v_isBehind w_137 w_133 w_136 w_131 w_134 w_132 w_135 v_packing v_packed w_139 w_138 v_spentAt v_ranChanges f_m_tape f_m_knee f_m_weight f_m_isLame f_m_loadWeight f_m_owner f_m_food f_m_miles f_m_slope f_m_clauseLetter f_m_sumFrom f_m_codeFrom f_m_codeTo f_m_code f_m_codeArg f_m_newLetter f_m_newSum f_m_newFrom f_m_newTo f_m_newCode f_m_newArg f_m_stack f_129 f_127 f_m_least f_m_packPounds f_m_packOwner f_m_room f_m_givenTo f_m_canBe f_m_setPounds f_m_plainTime f_m_muleTime f_m_planTo f_m_march f_128 f_m_ranMinutes f_m_tiredAhead f_126 f_m_toEnd f_m_upTo f_m_upNext f_m_byChanges f_m_bandPaces) → va_S A s.heap H locs → lv_has ls 5 [(4, .int l_130), (3, .int l_93), (2, .int l_62), (1, .int l_32), (0, .ref (hm 0))] → W p l e (gRm 8) s m args below meth c H locs 0 0 Q (F0 m 117 ls []) := by
                              intro n
                              induction n with
                              | zero => intro f_126 f_127 f_128 f_129 l_130 w_131 w_132 w_133 w_134 w_135 w_136 w_137 w_138 w_139 hL117_140_0 hL117_140_1 hL117_140_2 hL117_140_3 hL117_140_4 hL117_140_5 hm; exact absurd hm (by omega)
                              | succ n ih117_140 =>
                                intro f_126 f_127 f_128 f_129 l_130 w_131 w_132 w_133 w_134 w_135 w_136 w_137 w_138 w_139 hL117_140_0 hL117_140_1 hL117_140_2 hL117_140_3 hL117_140_4 hL117_140_5 hmL117_140 H locs ls hP hD hS hl
                                refine lv_iload hx hb dX10_reaches_117 (lv_at hl 0 rfl) ?_
                                refine lv_bipush (v := 18) hx hb dX10_reaches_119 (by decide) ?_
                                refine lv_icmp_ge (tgt := 178) hx hb dX10_reaches_121 (by decide) (fun c_141 => ?_) (fun c_141 => ?_)
                                · have gc_141 : 18 ≤ l_130.toInt := i_le (by decide : (18 : Int32).toInt = 18) (rfl : l_130.toInt = l_130.toInt) c_141
                                  obtain ⟨n_142, en_142⟩ : ∃ y : Int32, y = l_93 + 1 := ⟨_, rfl⟩
                                  have tn_142 : n_142.toInt = l_93.toInt + 1 := i_add en_142 (rfl : l_93.toInt = l_93.toInt) (by decide : (1 : Int32).toInt = 1) (by omega) (by omega)
                                  refine lv_iinc (v := n_142) (lv' := [(3, .int n_142), (4, .int l_130), (2, .int l_62), (1, .int l_32), (0, .ref (hm 0))]) hx hb dX10_reaches_178 hl (k := 1) rfl (by rw [en_142]; rfl) (by decide) rfl (fun ls hl => ?_)
                                  refine lv_goto (tgt := 90) hx hb dX10_reaches_181 (by decide) ?_
                                  exact ih90_103 f_126 f_127 f_128 f_129 n_142 w_131 w_132 w_133 w_134 w_135 w_136 w_137 w_138 w_139 hL117_140_0 hL117_140_1 hL117_140_2 (by omega) (by omega) (by omega) (by omega) _ _ _ hP hD hS (lv_sub hl [0, 2, 3, 4] rfl)
                                · have gc_141 : l_130.toInt < 18 := i_nle (by decide : (18 : Int32).toInt = 18) (rfl : l_130.toInt = l_130.toInt) c_141
                                  refine lv_aload_n hx hb dX10_reaches_124 rfl (lv_at hl 4 rfl) ?_
                                  refine lv_iload hx hb dX10_reaches_125 (lv_at hl 0 rfl) ?_
                                  refine xi hD hS hA (xV (As := [.int l_130]) (rest := []) hx hb hml hown hts hK hP hD hS hA NT_ok hN hAe hl.1 ⟨Nat.le_refl _, Nat.le_refl _⟩ 0 rfl rfl rfl (c_X10_mayAct l D cy hm v_taped v_walkers v_loads v_pieces v_changeCosts v_planned v_isMarch v_clauseMany v_place v_end v_bad v_clauses v_codes v_open v_stacked v_isOver v_isBehind w_137 w_133 w_136 w_131 w_134 w_132 w_135 v_packing v_packed w_139 w_138 v_spentAt v_ranChanges f_m_tape f_m_knee f_m_weight f_m_isLame f_m_loadWeight f_m_owner f_m_food f_m_miles f_m_slope f_m_clauseLetter f_m_sumFrom f_m_codeFrom f_m_codeTo f_m_code f_m_codeArg f_m_newLetter f_m_newSum f_m_newFrom f_m_newTo f_m_newCode f_m_newArg f_m_stack f_129 f_127 f_m_least f_m_packPounds f_m_packOwner f_m_room f_m_givenTo f_m_canBe f_m_setPounds f_m_plainTime f_m_muleTime f_m_planTo f_m_march f_128 f_m_ranMinutes f_m_tiredAhead f_126 f_m_toEnd f_m_upTo f_m_upNext f_m_byChanges f_m_bandPaces H.size l_130) (gi_V lwd_1119 lwd_1120 lwd_1121 lwd_5 lwd_1122) ⟨rfl, hd_X10_mayAct⟩ ⟨Nat.le_of_ble_eq_true rfl, Nat.le_of_ble_eq_true rfl⟩ rfl (Nat.le_of_ble_eq_true rfl) dX10_reaches_127) (fun r_144 u_143 H locs hw hP hD hS => ?_)
                                  try dsimp only at hw hP hD
                                  have p_145 := hw
                                  clear hw
                                  refine lv_if_ne (tgt := 136) hx hb dX10_reaches_130 (by decide) (fun c_146 => ?_) (fun c_146 => ?_)
                                  · have gc_146 : r_144.toInt ≠ 0 := i_ne (rfl : r_144.toInt = r_144.toInt) (by decide : (0 : Int32).toInt = 0) c_146
                                    refine lv_aload_n hx hb dX10_reaches_136 rfl (lv_at hl 4 rfl) ?_
                                    refine lv_iload_n hx hb dX10_reaches_137 rfl (lv_at hl 1 rfl) ?_
                                    refine xv hD hS hA (xV (As := [.int l_93]) (rest := []) hx hb hml hown hts hK hP hD hS hA NT_ok hN hAe hl.1 ⟨Nat.le_refl _, Nat.le_refl _⟩ 0 rfl rfl rfl (c_X10_takesTired l D cy hm v_taped v_walkers v_loads v_pieces v_changeCosts v_planned v_isMarch v_clauseMany v_place v_end v_bad v_clauses v_codes v_open v_stacked v_isOver v_isBehind w_137 w_133 w_136 w_131 w_134 w_132 w_135 v_packing v_packed w_139 w_138 v_spentAt v_ranChanges f_m_tape f_m_knee f_m_weight f_m_isLame f_m_loadWeight f_m_owner f_m_food f_m_miles f_m_slope f_m_clauseLetter f_m_sumFrom f_m_codeFrom f_m_codeTo f_m_code f_m_codeArg f_m_newLetter f_m_newSum f_m_newFrom f_m_newTo f_m_newCode f_m_newArg f_m_stack f_129 f_127 f_m_least f_m_packPounds f_m_packOwner f_m_room f_m_givenTo f_m_canBe f_m_setPounds f_m_plainTime f_m_muleTime f_m_planTo f_m_march f_128 f_m_ranMinutes f_m_tiredAhead f_126 f_m_toEnd f_m_upTo f_m_upNext f_m_byChanges f_m_bandPaces H.size l_93 hL117_140_2 (by omega)) (gi_V lwd_991 lwd_992 lwd_993 lwd_5 lwd_994) ⟨rfl, hd_X10_takesTired⟩ ⟨Nat.le_of_ble_eq_true rfl, Nat.le_of_ble_eq_true rfl⟩ rfl (Nat.le_of_ble_eq_true rfl) dX10_reaches_138) (fun u_147 H locs hw hP hD hS => ?_)
                                    obtain ⟨ztired_149, rfl⟩ : ∃ z, z = u_147 := ⟨_, rfl⟩
                                    try dsimp only at hw hP hD
                                    have p_150 := hw
                                    clear hw
                                    refine lv_aload_n hx hb dX10_reaches_141 rfl (lv_at hl 4 rfl) ?_
                                    refine lv_iload_n hx hb dX10_reaches_142 rfl (lv_at hl 3 rfl) ?_
                                    refine lv_iload hx hb dX10_reaches_143 (lv_at hl 0 rfl) ?_
                                    refine xi hD hS hA (xV (As := [.int l_32, .int l_130]) (rest := []) hx hb hml hown hts hK hP hD hS hA NT_ok hN hAe hl.1 ⟨Nat.le_refl _, Nat.le_refl _⟩ 0 rfl rfl rfl (c_X10_goesOver l D cy hm v_taped v_walkers v_loads v_pieces v_changeCosts v_planned v_isMarch v_clauseMany v_place v_end v_bad v_clauses v_codes v_open v_stacked v_isOver v_isBehind w_137 w_133 w_136 w_131 w_134 w_132 w_135 v_packing v_packed w_139 w_138 v_spentAt v_ranChanges f_m_tape f_m_knee f_m_weight f_m_isLame f_m_loadWeight f_m_owner f_m_food f_m_miles f_m_slope f_m_clauseLetter f_m_sumFrom f_m_codeFrom f_m_codeTo f_m_code f_m_codeArg f_m_newLetter f_m_newSum f_m_newFrom f_m_newTo f_m_newCode f_m_newArg f_m_stack f_129 f_127 f_m_least f_m_packPounds f_m_packOwner f_m_room f_m_givenTo f_m_canBe f_m_setPounds f_m_plainTime f_m_muleTime f_m_planTo f_m_march ztired_149 f_m_ranMinutes f_m_tiredAhead f_126 f_m_toEnd f_m_upTo f_m_upNext f_m_byChanges f_m_bandPaces H.size l_32 l_130 (by omega) (by omega) (by omega) (by omega) (by omega) hr_m_weight hr_m_isLame hr_m_loadWeight hr_m_food hr_m_miles hL117_140_1 p_150 (by omega) (by omega) hwf) (gi_V lwd_995 lwd_996 lwd_997 lwd_5 lwd_998) ⟨rfl, hd_X10_goesOver⟩ ⟨Nat.le_of_ble_eq_true rfl, Nat.le_of_ble_eq_true rfl⟩ rfl (Nat.le_of_ble_eq_true rfl) dX10_reaches_145) (fun r_152 u_151 H locs hw hP hD hS => ?_)
                                    obtain ⟨zatW_153, zatL_154, zatT_155, zatH_156, zatM_157, zatI_158, zatQ_159, zgoPace_160, zgoMinutes_161, zworth_162, zisRefused_163, ztired_164⟩ := u_151
                                    try dsimp only at hw hP hD
                                    obtain ⟨p_165, p_166, p_167, p_168, p_169⟩ := hw
                                    refine lv_if_eq (tgt := 172) hx hb dX10_reaches_148 (by decide) (fun c_170 => ?_) (fun c_170 => ?_)
                                    · have gc_170 : r_152.toInt = 0 := i_eq (rfl : r_152.toInt = r_152.toInt) (by decide : (0 : Int32).toInt = 0) c_170
                                      obtain ⟨n_171, en_171⟩ : ∃ y : Int32, y = l_130 + 1 := ⟨_, rfl⟩
                                      have tn_171 : n_171.toInt = l_130.toInt + 1 := i_add en_171 (rfl : l_130.toInt = l_130.toInt) (by decide : (1 : Int32).toInt = 1) (by omega) (by omega)
                                      refine lv_iinc (v := n_171) (lv' := [(4, .int n_171), (3, .int l_93), (2, .int l_62), (1, .int l_32), (0, .ref (hm 0))]) hx hb dX10_reaches_172 hl (k := 0) rfl (by rw [en_171]; rfl) (by decide) rfl (fun ls hl => ?_)
                                      refine lv_goto (tgt := 117) hx hb dX10_reaches_175 (by decide) ?_
                                      exact ih117_140 f_126 zisRefused_163 ztired_164 zworth_162 n_171 zatH_156 zatI_158 zatL_154 zatM_157 zatQ_159 zatT_155 zatW_153 zgoMinutes_161 zgoPace_160 hL117_140_0 p_168 p_169 (by omega) (by omega) (by omega) (by omega) _ _ _ hP hD hS (lv_sub hl [0, 1, 2, 3, 4] rfl)
                                    · have gc_170 : r_152.toInt ≠ 0 := i_ne (rfl : r_152.toInt = r_152.toInt) (by decide : (0 : Int32).toInt = 0) c_170
                                      refine lv_aload_n hx hb dX10_reaches_151 rfl (lv_at hl 4 rfl) ?_
                                      refine gt_MD_MD_isReached hx hb hts hown hK hP lwd_195 dX10_reaches_152 ?_
                                      refine lv_iload_n hx hb dX10_reaches_155 rfl (lv_at hl 3 rfl) ?_
                                      refine lv_iconst (v := 1) hx hb dX10_reaches_156 (by decide) ?_
                                      refine lv_iadd hx hb dX10_reaches_157 ?_
                                      refine lv_topi (fun n_172 en_172 => ?_)
                                      have tn_172 : n_172.toInt = l_32.toInt + 1 := i_add en_172 (rfl : l_32.toInt = l_32.toInt) (by decide : (1 : Int32).toInt = 1) (by omega) (by omega)
                                      refine lv_iload hx hb dX10_reaches_158 (lv_at hl 0 rfl) ?_
                                      refine lv_bipush (v := 6) hx hb dX10_reaches_160 (by decide) ?_
                                      refine lv_irem hx hb dX10_reaches_162 (by decide) ?_
                                      refine lv_topi (fun n_173 en_173 => ?_)
                                      have tn_173 : n_173.toInt = l_130.toInt % 6 := i_rem en_173 (rfl : l_130.toInt = l_130.toInt) (by decide : (6 : Int32).toInt = 6) (by omega) (by omega)
                                      refine lv_aload_n hx hb dX10_reaches_163 rfl (lv_at hl 4 rfl) ?_
                                      refine xi hD hS hA (xV (As := []) (rest := [.int n_173, .int n_172, .ref (hm 39)]) hx hb hml hown hts hK hP hD hS hA NT_ok hN hAe hl.1 ⟨Nat.le_refl _, Nat.le_refl _⟩ 0 rfl rfl rfl (c_X10_allTired l D cy hm v_taped v_walkers v_loads v_pieces v_changeCosts v_planned v_isMarch v_clauseMany v_place v_end v_bad v_clauses v_codes v_open v_stacked v_isOver v_isBehind zatW_153 zatL_154 zatT_155 zatH_156 zatM_157 zatI_158 zatQ_159 v_packing v_packed zgoPace_160 zgoMinutes_161 v_spentAt v_ranChanges f_m_tape f_m_knee f_m_weight f_m_isLame f_m_loadWeight f_m_owner f_m_food f_m_miles f_m_slope f_m_clauseLetter f_m_sumFrom f_m_codeFrom f_m_codeTo f_m_code f_m_codeArg f_m_newLetter f_m_newSum f_m_newFrom f_m_newTo f_m_newCode f_m_newArg f_m_stack zworth_162 zisRefused_163 f_m_least f_m_packPounds f_m_packOwner f_m_room f_m_givenTo f_m_canBe f_m_setPounds f_m_plainTime f_m_muleTime f_m_planTo f_m_march ztired_164 f_m_ranMinutes f_m_tiredAhead f_126 f_m_toEnd f_m_upTo f_m_upNext f_m_byChanges f_m_bandPaces H.size (by omega) p_169) (gi_V lwd_1016 lwd_1017 lwd_1018 lwd_5 lwd_1019) ⟨rfl, hd_X10_allTired⟩ ⟨Nat.le_of_ble_eq_true rfl, Nat.le_of_ble_eq_true rfl⟩ rfl (Nat.le_of_ble_eq_true rfl) dX10_reaches_164) (fun r_175 u_174 H locs hw hP hD hS => ?_)
                                      try dsimp only at hw hP hD
                                      obtain ⟨p_176, p_177⟩ := hw
                                      refine xi hD hS hA (xS (As := [.int n_172, .int n_173, .int r_175]) (rest := [.ref (hm 39)]) hx hb hml hown hts hK hP hD hS hA NT_ok hN hAe hl.1 ⟨Nat.le_refl _, Nat.le_refl _⟩ (c_X10_stateOf l D cy hm v_taped v_walkers v_loads v_pieces v_changeCosts v_planned v_isMarch v_clauseMany v_place v_end v_bad v_clauses v_codes v_open v_stacked v_isOver v_isBehind zatW_153 zatL_154 zatT_155 zatH_156 zatM_157 zatI_158 zatQ_159 v_packing v_packed zgoPace_160 zgoMinutes_161 v_spentAt v_ranChanges f_m_tape f_m_knee f_m_weight f_m_isLame f_m_loadWeight f_m_owner f_m_food f_m_miles f_m_slope f_m_clauseLetter f_m_sumFrom f_m_codeFrom f_m_codeTo f_m_code f_m_codeArg f_m_newLetter f_m_newSum f_m_newFrom f_m_newTo f_m_newCode f_m_newArg f_m_stack zworth_162 zisRefused_163 f_m_least f_m_packPounds f_m_packOwner f_m_room f_m_givenTo f_m_canBe f_m_setPounds f_m_plainTime f_m_muleTime f_m_planTo f_m_march ztired_164 f_m_ranMinutes f_m_tiredAhead f_126 f_m_toEnd f_m_upTo f_m_upNext f_m_byChanges f_m_bandPaces H.size n_172 n_173 r_175 (by omega) (by omega) (by omega)) (gi_S lwd_1116 lwd_1117 lwd_5 lwd_1118) hd_X10_stateOf ⟨Nat.le_of_ble_eq_true rfl, Nat.le_of_ble_eq_true rfl⟩ rfl (Nat.le_of_ble_eq_true rfl) dX10_reaches_167) (fun r_179 u_178 H locs hw hP hD hS => ?_)
                                      try dsimp only at hw hP hD
                                      obtain ⟨p_180, p_181⟩ := hw
                                      refine lv_iconst (v := 1) hx hb dX10_reaches_170 (by decide) ?_
                                      refine as_m_isReached (x := 1) hx hb hK hP hD hS hL117_140_0 (i_in (rfl : r_179.toInt = r_179.toInt) (by omega) (by omega)) (by decide) dX10_reaches_171 (fun f_182 ef_182 rf_182 H locs hP hD hS => ?_)
                                      obtain ⟨n_183, en_183⟩ : ∃ y : Int32, y = l_130 + 1 := ⟨_, rfl⟩
                                      have tn_183 : n_183.toInt = l_130.toInt + 1 := i_add en_183 (rfl : l_130.toInt = l_130.toInt) (by decide : (1 : Int32).toInt = 1) (by omega) (by omega)
                                      refine lv_iinc (v := n_183) (lv' := [(4, .int n_183), (3, .int l_93), (2, .int l_62), (1, .int l_32), (0, .ref (hm 0))]) hx hb dX10_reaches_172 hl (k := 0) rfl (by rw [en_183]; rfl) (by decide) rfl (fun ls hl => ?_)
                                      refine lv_goto (tgt := 117) hx hb dX10_reaches_175 (by decide) ?_
                                      exact ih117_140 f_182 zisRefused_163 ztired_164 zworth_162 n_183 zatH_156 zatI_158 zatL_154 zatM_157 zatQ_159 zatT_155 zatW_153 zgoMinutes_161 zgoPace_160 rf_182 p_168 p_169 (by omega) (by omega) (by omega) (by omega) _ _ _ hP hD hS (lv_sub hl [0, 1, 2, 3, 4] rfl)
                                  · have gc_146 : r_144.toInt = 0 := i_eq (rfl : r_144.toInt = r_144.toInt) (by decide : (0 : Int32).toInt = 0) c_146
                                    refine lv_goto (tgt := 172) hx hb dX10_reaches_133 (by decide) ?_
                                    obtain ⟨n_184, en_184⟩ : ∃ y : Int32, y = l_130 + 1 := ⟨_, rfl⟩
                                    have tn_184 : n_184.toInt = l_130.toInt + 1 := i_add en_184 (rfl : l_130.toInt = l_130.toInt) (by decide : (1 : Int32).toInt = 1) (by omega) (by omega)
                                    refine lv_iinc (v := n_184) (lv' := [(4, .int n_184), (3, .int l_93), (2, .int l_62), (1, .int l_32), (0, .ref (hm 0))]) hx hb dX10_reaches_172 hl (k := 0) rfl (by rw [en_184]; rfl) (by decide) rfl (fun ls hl => ?_)
                                    refine lv_goto (tgt := 117) hx hb dX10_reaches_175 (by decide) ?_
                                    exact ih117_140 f_126 f_127 f_128 f_129 n_184 w_131 w_132 w_133 w_134 w_135 w_136 w_137 w_138 w_139 hL117_140_0 hL117_140_1 hL117_140_2 (by omega) (by omega) (by omega) (by omega) _ _ _ hP hD hS (lv_sub hl [0, 1, 2, 3, 4] rfl)
                            have k_185 : (0 : Int32).toInt = 0 := by decide
                            exact L117_140 8589934592 f_89 f_90 f_91 f_92 0 w_94 w_95 w_96 w_97 w_98 w_99 w_100 w_101 w_102 hL90_103_0 hL90_103_1 hL90_103_2 (by omega) (by omega) (by omega) (by omega) _ _ _ hP hD hS (lv_sub hl [0, 1, 2, 3, 4] rfl)
                          · have gc_111 : n_110.toInt = 0 := i_eq (rfl : n_110.toInt = n_110.toInt) (by decide : (0 : Int32).toInt = 0) c_111
                            refine lv_goto (tgt := 178) hx hb dX10_reaches_111 (by decide) ?_
                            obtain ⟨n_186, en_186⟩ : ∃ y : Int32, y = l_93 + 1 := ⟨_, rfl⟩
                            have tn_186 : n_186.toInt = l_93.toInt + 1 := i_add en_186 (rfl : l_93.toInt = l_93.toInt) (by decide : (1 : Int32).toInt = 1) (by omega) (by omega)
                            refine lv_iinc (v := n_186) (lv' := [(3, .int n_186), (2, .int l_62), (1, .int l_32), (0, .ref (hm 0))]) hx hb dX10_reaches_178 hl (k := 0) rfl (by rw [en_186]; rfl) (by decide) rfl (fun ls hl => ?_)
                            refine lv_goto (tgt := 90) hx hb dX10_reaches_181 (by decide) ?_
                            exact ih90_103 f_89 f_90 f_91 f_92 n_186 w_94 w_95 w_96 w_97 w_98 w_99 w_100 w_101 w_102 hL90_103_0 hL90_103_1 hL90_103_2 (by omega) (by omega) (by omega) (by omega) _ _ _ hP hD hS (lv_sub hl [0, 1, 2, 3] rfl)
                    have k_187 : (0 : Int32).toInt = 0 := by decide
                    exact L90_103 8589934592 f_58 f_59 f_60 f_61 0 w_63 w_64 w_65 w_66 w_67 w_68 w_69 w_70 w_71 hL82_72_0 hL82_72_1 hL82_72_2 (by omega) (by omega) (by omega) (by omega) _ _ _ hP hD hS (lv_sub hl [0, 1, 2, 3] rfl)
              have k_188 : (0 : Int32).toInt = 0 := by decide
              exact L82_72 8589934592 f_28 f_29 f_30 f_31 0 w_33 w_34 w_35 w_36 w_37 w_38 w_39 w_40 w_41 hL72_42_0 hL72_42_1 hL72_42_2 (by omega) (by omega) (by omega) (by omega) _ _ _ hP hD hS (lv_sub hl [0, 1, 2] rfl)
        have k_189 : (0 : Int32).toInt = 0 := by decide
        exact L72_42 8589934592 f_13 f_m_isRefused f_m_tired f_m_worth 0 v_atH v_atI v_atL v_atM v_atQ v_atT v_atW v_goMinutes v_goPace rf_13 hr_m_isRefused hr_m_tired (by omega) (by omega) (by omega) (by omega) _ _ _ hP hD hS (lv_sub hl [0, 1] rfl)
      · have gc_6 : l_4.toInt ≤ v_pieces.toInt := i_nlt (rfl : v_pieces.toInt = v_pieces.toInt) (rfl : l_4.toInt = l_4.toInt) c_6
        refine lv_iconst (v := 0) hx hb dX10_reaches_10 (by decide) ?_
        refine lv_istore_n (lv' := [(2, .int 0), (1, .int l_4), (0, .ref (hm 0))]) hx hb dX10_reaches_11 rfl hl (by decide) rfl (fun ls hl => ?_)
        have L12_194 : ∀ (n : Nat) (f_192 : Nat → Int32) (l_193 : Int32), (rg (0) 1 f_192) → (0 ≤ l_193.toInt ∧ l_193.toInt ≤ 7) → 8 - l_193.toInt < n → ∀ (H : Heap) (locs : List Loc) (ls : Array Slot), va_P D vwCl (wMD cy hm v_taped v_walkers v_loads v_pieces v_changeCosts v_planned v_isMarch v_clauseMany v_place v_end v_bad v_clauses v_codes v_open v_stacked v_isOver v_isBehind v_atW v_atL v_atT v_atH v_atM v_atI v_atQ v_packing v_packed v_goPace v_goMinutes v_spentAt v_ranChanges f_m_tape f_m_knee f_m_weight f_m_isLame f_m_loadWeight f_m_owner f_m_food f_m_miles f_m_slope f_m_clauseLetter f_m_sumFrom f_m_codeFrom f_m_codeTo f_m_code f_m_codeArg f_m_newLetter f_m_newSum f_m_newFrom f_m_newTo f_m_newCode f_m_newArg f_m_stack f_m_worth f_m_isRefused f_m_least f_m_packPounds f_m_packOwner f_m_room f_m_givenTo f_m_canBe f_m_setPounds f_m_plainTime f_m_muleTime f_m_planTo f_m_march f_m_tired f_m_ranMinutes f_m_tiredAhead f_192 f_m_toEnd f_m_upTo f_m_upNext f_m_byChanges f_m_bandPaces) H → va_D A (wMD cy hm v_taped v_walkers v_loads v_pieces v_changeCosts v_planned v_isMarch v_clauseMany v_place v_end v_bad v_clauses v_codes v_open v_stacked v_isOver v_isBehind v_atW v_atL v_atT v_atH v_atM v_atI v_atQ v_packing v_packed v_goPace v_goMinutes v_spentAt v_ranChanges f_m_tape f_m_knee f_m_weight f_m_isLame f_m_loadWeight f_m_owner f_m_food f_m_miles f_m_slope f_m_clauseLetter f_m_sumFrom f_m_codeFrom f_m_codeTo f_m_code f_m_codeArg f_m_newLetter f_m_newSum f_m_newFrom f_m_newTo f_m_newCode f_m_newArg f_m_stack f_m_worth f_m_isRefused f_m_least f_m_packPounds f_m_packOwner f_m_room f_m_givenTo f_m_canBe f_m_setPounds f_m_plainTime f_m_muleTime f_m_planTo f_m_march f_m_tired f_m_ranMinutes f_m_tiredAhead f_192 f_m_toEnd f_m_upTo f_m_upNext f_m_byChanges f_m_bandPaces) → va_S A s.heap H locs → lv_has ls 5 [(2, .int l_193), (1, .int l_4), (0, .ref (hm 0))] → W p l e (gRm 8) s m args below meth c H locs 0 0 Q (F0 m 12 ls []) := by
          intro n
          induction n with
          | zero => intro f_192 l_193 hL12_194_0 hL12_194_1 hm; exact absurd hm (by omega)
          | succ n ih12_194 =>
            intro f_192 l_193 hL12_194_0 hL12_194_1 hmL12_194 H locs ls hP hD hS hl
            refine lv_iload_n hx hb dX10_reaches_12 rfl (lv_at hl 0 rfl) ?_
            refine lv_bipush (v := 6) hx hb dX10_reaches_13 (by decide) ?_
            refine lv_icmp_gt (tgt := 51) hx hb dX10_reaches_15 (by decide) (fun c_195 => ?_) (fun c_195 => ?_)
            · have gc_195 : 6 < l_193.toInt := i_lt (by decide : (6 : Int32).toInt = 6) (rfl : l_193.toInt = l_193.toInt) c_195
              obtain ⟨n_196, en_196⟩ : ∃ y : Int32, y = l_4 + 1 := ⟨_, rfl⟩
              have tn_196 : n_196.toInt = l_4.toInt + 1 := i_add en_196 (rfl : l_4.toInt = l_4.toInt) (by decide : (1 : Int32).toInt = 1) (by omega) (by omega)
              refine lv_iinc (v := n_196) (lv' := [(1, .int n_196), (2, .int l_193), (0, .ref (hm 0))]) hx hb dX10_reaches_51 hl (k := 1) rfl (by rw [en_196]; rfl) (by decide) rfl (fun ls hl => ?_)
              refine lv_goto (tgt := 2) hx hb dX10_reaches_54 (by decide) ?_
              exact ih2_5 f_192 n_196 hL12_194_0 (by omega) (by omega) _ _ _ hP hD hS (lv_sub hl [0, 2] rfl)
            · have gc_195 : l_193.toInt ≤ 6 := i_nlt (by decide : (6 : Int32).toInt = 6) (rfl : l_193.toInt = l_193.toInt) c_195
              refine lv_iconst (v := 0) hx hb dX10_reaches_18 (by decide) ?_
              refine lv_istore_n (lv' := [(3, .int 0), (2, .int l_193), (1, .int l_4), (0, .ref (hm 0))]) hx hb dX10_reaches_19 rfl hl (by decide) rfl (fun ls hl => ?_)
              have L20_201 : ∀ (n : Nat) (f_199 : Nat → Int32) (l_200 : Int32), (rg (0) 1 f_199) → (0 ≤ l_200.toInt ∧ l_200.toInt ≤ 1296) → 1297 - l_200.toInt < n → ∀ (H : Heap) (locs : List Loc) (ls : Array Slot), va_P D vwCl (wMD cy hm v_taped v_walkers v_loads v_pieces v_changeCosts v_planned v_isMarch v_clauseMany v_place v_end v_bad v_clauses v_codes v_open v_stacked v_isOver v_isBehind v_atW v_atL v_atT v_atH v_atM v_atI v_atQ v_packing v_packed v_goPace v_goMinutes v_spentAt v_ranChanges f_m_tape f_m_knee f_m_weight f_m_isLame f_m_loadWeight f_m_owner f_m_food f_m_miles f_m_slope f_m_clauseLetter f_m_sumFrom f_m_codeFrom f_m_codeTo f_m_code f_m_codeArg f_m_newLetter f_m_newSum f_m_newFrom f_m_newTo f_m_newCode f_m_newArg f_m_stack f_m_worth f_m_isRefused f_m_least f_m_packPounds f_m_packOwner f_m_room f_m_givenTo f_m_canBe f_m_setPounds f_m_plainTime f_m_muleTime f_m_planTo f_m_march f_m_tired f_m_ranMinutes f_m_tiredAhead f_199 f_m_toEnd f_m_upTo f_m_upNext f_m_byChanges f_m_bandPaces) H → va_D A (wMD cy hm v_taped v_walkers v_loads v_pieces v_changeCosts v_planned v_isMarch v_clauseMany v_place v_end v_bad v_clauses v_codes v_open v_stacked v_isOver v_isBehind v_atW v_atL v_atT v_atH v_atM v_atI v_atQ v_packing v_packed v_goPace v_goMinutes v_spentAt v_ranChanges f_m_tape f_m_knee f_m_weight f_m_isLame f_m_loadWeight f_m_owner f_m_food f_m_miles f_m_slope f_m_clauseLetter f_m_sumFrom f_m_codeFrom f_m_codeTo f_m_code f_m_codeArg f_m_newLetter f_m_newSum f_m_newFrom f_m_newTo f_m_newCode f_m_newArg f_m_stack f_m_worth f_m_isRefused f_m_least f_m_packPounds f_m_packOwner f_m_room f_m_givenTo f_m_canBe f_m_setPounds f_m_plainTime f_m_muleTime f_m_planTo f_m_march f_m_tired f_m_ranMinutes f_m_tiredAhead f_199 f_m_toEnd f_m_upTo f_m_upNext f_m_byChanges f_m_bandPaces) → va_S A s.heap H locs → lv_has ls 5 [(3, .int l_200), (2, .int l_193), (1, .int l_4), (0, .ref (hm 0))] → W p l e (gRm 8) s m args below meth c H locs 0 0 Q (F0 m 20 ls []) := by
                intro n
                induction n with
                | zero => intro f_199 l_200 hL20_201_0 hL20_201_1 hm; exact absurd hm (by omega)
                | succ n ih20_201 =>
                  intro f_199 l_200 hL20_201_0 hL20_201_1 hmL20_201 H locs ls hP hD hS hl
                  refine lv_iload_n hx hb dX10_reaches_20 rfl (lv_at hl 0 rfl) ?_
                  refine lv_sipush (v := 1296) hx hb dX10_reaches_21 (by decide) ?_
                  refine lv_icmp_ge (tgt := 45) hx hb dX10_reaches_24 (by decide) (fun c_202 => ?_) (fun c_202 => ?_)
                  · have gc_202 : 1296 ≤ l_200.toInt := i_le (by decide : (1296 : Int32).toInt = 1296) (rfl : l_200.toInt = l_200.toInt) c_202
                    obtain ⟨n_203, en_203⟩ : ∃ y : Int32, y = l_193 + 1 := ⟨_, rfl⟩
                    have tn_203 : n_203.toInt = l_193.toInt + 1 := i_add en_203 (rfl : l_193.toInt = l_193.toInt) (by decide : (1 : Int32).toInt = 1) (by omega) (by omega)
                    refine lv_iinc (v := n_203) (lv' := [(2, .int n_203), (3, .int l_200), (1, .int l_4), (0, .ref (hm 0))]) hx hb dX10_reaches_45 hl (k := 1) rfl (by rw [en_203]; rfl) (by decide) rfl (fun ls hl => ?_)
                    refine lv_goto (tgt := 12) hx hb dX10_reaches_48 (by decide) ?_
                    exact ih12_194 f_199 n_203 hL20_201_0 (by omega) (by omega) _ _ _ hP hD hS (lv_sub hl [0, 2, 3] rfl)
                  · have gc_202 : l_200.toInt < 1296 := i_nle (by decide : (1296 : Int32).toInt = 1296) (rfl : l_200.toInt = l_200.toInt) c_202
                    refine lv_aload_n hx hb dX10_reaches_27 rfl (lv_at hl 3 rfl) ?_
                    refine gt_MD_MD_isReached hx hb hts hown hK hP lwd_195 dX10_reaches_28 ?_
                    refine lv_iload_n hx hb dX10_reaches_31 rfl (lv_at hl 2 rfl) ?_
                    refine lv_iload_n hx hb dX10_reaches_32 rfl (lv_at hl 1 rfl) ?_
                    refine lv_iload_n hx hb dX10_reaches_33 rfl (lv_at hl 0 rfl) ?_
                    refine xi hD hS hA (xS (As := [.int l_4, .int l_193, .int l_200]) (rest := [.ref (hm 39)]) hx hb hml hown hts hK hP hD hS hA NT_ok hN hAe hl.1 ⟨Nat.le_refl _, Nat.le_refl _⟩ (c_X10_stateOf l D cy hm v_taped v_walkers v_loads v_pieces v_changeCosts v_planned v_isMarch v_clauseMany v_place v_end v_bad v_clauses v_codes v_open v_stacked v_isOver v_isBehind v_atW v_atL v_atT v_atH v_atM v_atI v_atQ v_packing v_packed v_goPace v_goMinutes v_spentAt v_ranChanges f_m_tape f_m_knee f_m_weight f_m_isLame f_m_loadWeight f_m_owner f_m_food f_m_miles f_m_slope f_m_clauseLetter f_m_sumFrom f_m_codeFrom f_m_codeTo f_m_code f_m_codeArg f_m_newLetter f_m_newSum f_m_newFrom f_m_newTo f_m_newCode f_m_newArg f_m_stack f_m_worth f_m_isRefused f_m_least f_m_packPounds f_m_packOwner f_m_room f_m_givenTo f_m_canBe f_m_setPounds f_m_plainTime f_m_muleTime f_m_planTo f_m_march f_m_tired f_m_ranMinutes f_m_tiredAhead f_199 f_m_toEnd f_m_upTo f_m_upNext f_m_byChanges f_m_bandPaces H.size l_4 l_193 l_200 (by omega) (by omega) (by omega)) (gi_S lwd_1116 lwd_1117 lwd_5 lwd_1118) hd_X10_stateOf ⟨Nat.le_of_ble_eq_true rfl, Nat.le_of_ble_eq_true rfl⟩ rfl (Nat.le_of_ble_eq_true rfl) dX10_reaches_34) (fun r_205 u_204 H locs hw hP hD hS => ?_)
                    try dsimp only at hw hP hD
                    obtain ⟨p_206, p_207⟩ := hw
                    refine lv_iconst (v := 0) hx hb dX10_reaches_37 (by decide) ?_
                    refine as_m_isReached (x := 0) hx hb hK hP hD hS hL20_201_0 (i_in (rfl : r_205.toInt = r_205.toInt) (by omega) (by omega)) (by decide) dX10_reaches_38 (fun f_208 ef_208 rf_208 H locs hP hD hS => ?_)
                    obtain ⟨n_209, en_209⟩ : ∃ y : Int32, y = l_200 + 1 := ⟨_, rfl⟩
                    have tn_209 : n_209.toInt = l_200.toInt + 1 := i_add en_209 (rfl : l_200.toInt = l_200.toInt) (by decide : (1 : Int32).toInt = 1) (by omega) (by omega)
                    refine lv_iinc (v := n_209) (lv' := [(3, .int n_209), (2, .int l_193), (1, .int l_4), (0, .ref (hm 0))]) hx hb dX10_reaches_39 hl (k := 0) rfl (by rw [en_209]; rfl) (by decide) rfl (fun ls hl => ?_)
                    refine lv_goto (tgt := 20) hx hb dX10_reaches_42 (by decide) ?_
                    exact ih20_201 f_208 n_209 rf_208 (by omega) (by omega) _ _ _ hP hD hS (lv_sub hl [0, 1, 2, 3] rfl)
              have k_210 : (0 : Int32).toInt = 0 := by decide
              exact L20_201 8589934592 f_192 0 hL12_194_0 (by omega) (by omega) _ _ _ hP hD hS (lv_sub hl [0, 1, 2, 3] rfl)
        have k_211 : (0 : Int32).toInt = 0 := by decide
        exact L12_194 8589934592 f_3 0 hL2_5_0 (by omega) (by omega) _ _ _ hP hD hS (lv_sub hl [0, 1, 2] rfl)
  have k_212 : (0 : Int32).toInt = 0 := by decide
  exact L2_5 8589934592 f_m_isReached 0 hr_m_isReached (by omega) (by omega) _ _ _ hP hD hS (lv_sub hl [0, 1] rfl)
set_option maxHeartbeats 16000000 in
set_option maxRecDepth 100000 in
theorem c_X10_endBy (l : Launch) (D : va_G) (cy : Nat → ClassId) (hm : Nat → Nat) (v_taped v_walkers v_loads v_pieces v_changeCosts v_planned v_isMarch v_clauseMany v_place v_end v_bad v_clauses v_codes v_open v_stacked v_isOver v_isBehind v_atW v_atL v_atT v_atH v_atM v_atI v_atQ v_packing v_packed v_goPace v_goMinutes v_spentAt v_ranChanges : Int32) (f_m_tape f_m_knee f_m_weight f_m_isLame f_m_loadWeight f_m_owner f_m_food f_m_miles f_m_slope f_m_clauseLetter f_m_sumFrom f_m_codeFrom f_m_codeTo f_m_code f_m_codeArg f_m_newLetter f_m_newSum f_m_newFrom f_m_newTo f_m_newCode f_m_newArg f_m_stack f_m_worth f_m_isRefused f_m_least f_m_packPounds f_m_packOwner f_m_room f_m_givenTo f_m_canBe f_m_setPounds f_m_plainTime f_m_muleTime f_m_planTo f_m_march f_m_tired f_m_ranMinutes f_m_tiredAhead f_m_isReached f_m_toEnd f_m_upTo f_m_upNext f_m_byChanges f_m_bandPaces : Nat → Int32) (sz : Nat) (i : Int32) (bf : Int32) (t : Int32) (act : Int32) (hb_v_walkers : 0 ≤ v_walkers.toInt ∧ v_walkers.toInt ≤ 6) (hb_v_loads : 0 ≤ v_loads.toInt ∧ v_loads.toInt ≤ 9) (hb_v_clauseMany : 0 ≤ v_clauseMany.toInt ∧ v_clauseMany.toInt ≤ 14) (hb_v_atW : 0 ≤ v_atW.toInt ∧ v_atW.toInt ≤ 5) (hb_v_goPace : 0 ≤ v_goPace.toInt ∧ v_goPace.toInt ≤ 60) (hr_m_weight : rg (0) 250 f_m_weight) (hr_m_isLame : rg (0) 1 f_m_isLame) (hr_m_loadWeight : rg (0) 120 f_m_loadWeight) (hr_m_food : rg (0) 20 f_m_food) (hr_m_miles : rg (0) 20 f_m_miles) (hr_m_isRefused : rg (0) 1 f_m_isRefused) (hr_m_tired : rg (0) 5 f_m_tired) (ha_i : 0 ≤ i.toInt ∧ i.toInt ≤ 9) (ha_bf : 0 ≤ bf.toInt ∧ bf.toInt ≤ 6) (ha_t : 0 ≤ t.toInt ∧ t.toInt ≤ 1295) (ha_act : 0 ≤ act.toInt ∧ act.toInt ≤ 17) (hwf : wfC v_clauseMany f_m_sumFrom f_m_codeFrom f_m_codeTo f_m_code) (hw4 : v_walkers.toInt ≤ 4) : gMi l yX10_endBy cX10_endBy 6 .int 8 [.ref (hm 0), .int i, .int bf, .int t, .int act] D cy (wMD cy hm v_taped v_walkers v_loads v_pieces v_changeCosts v_planned v_isMarch v_clauseMany v_place v_end v_bad v_clauses v_codes v_open v_stacked v_isOver v_isBehind v_atW v_atL v_atT v_atH v_atM v_atI v_atQ v_packing v_packed v_goPace v_goMinutes v_spentAt v_ranChanges f_m_tape f_m_knee f_m_weight f_m_isLame f_m_loadWeight f_m_owner f_m_food f_m_miles f_m_slope f_m_clauseLetter f_m_sumFrom f_m_codeFrom f_m_codeTo f_m_code f_m_codeArg f_m_newLetter f_m_newSum f_m_newFrom f_m_newTo f_m_newCode f_m_newArg f_m_stack f_m_worth f_m_isRefused f_m_least f_m_packPounds f_m_packOwner f_m_room f_m_givenTo f_m_canBe f_m_setPounds f_m_plainTime f_m_muleTime f_m_planTo f_m_march f_m_tired f_m_ranMinutes f_m_tiredAhead f_m_isReached f_m_toEnd f_m_upTo f_m_upNext f_m_byChanges f_m_bandPaces) NT sz (fun (r : Int32) (u : Int32 × Int32 × Int32 × Int32 × Int32 × Int32 × Int32 × Int32 × Int32 × (Nat → Int32) × (Nat → Int32) × (Nat → Int32)) => (0 ≤ (u.1).toInt ∧ (u.1).toInt ≤ 5) ∧ (0 ≤ (u.2.2.2.2.2.2.2.1).toInt ∧ (u.2.2.2.2.2.2.2.1).toInt ≤ 60) ∧ (rg (0) 1 (u.2.2.2.2.2.2.2.2.2.2.1)) ∧ (rg (0) 5 (u.2.2.2.2.2.2.2.2.2.2.2))) (fun u => wMD cy hm v_taped v_walkers v_loads v_pieces v_changeCosts v_planned v_isMarch v_clauseMany v_place v_end v_bad v_clauses v_codes v_open v_stacked v_isOver v_isBehind (u.1) (u.2.1) (u.2.2.1) (u.2.2.2.1) (u.2.2.2.2.1) (u.2.2.2.2.2.1) (u.2.2.2.2.2.2.1) v_packing v_packed (u.2.2.2.2.2.2.2.1) (u.2.2.2.2.2.2.2.2.1) v_spentAt v_ranChanges f_m_tape f_m_knee f_m_weight f_m_isLame f_m_loadWeight f_m_owner f_m_food f_m_miles f_m_slope f_m_clauseLetter f_m_sumFrom f_m_codeFrom f_m_codeTo f_m_code f_m_codeArg f_m_newLetter f_m_newSum f_m_newFrom f_m_newTo f_m_newCode f_m_newArg f_m_stack (u.2.2.2.2.2.2.2.2.2.1) (u.2.2.2.2.2.2.2.2.2.2.1) f_m_least f_m_packPounds f_m_packOwner f_m_room f_m_givenTo f_m_canBe f_m_setPounds f_m_plainTime f_m_muleTime f_m_planTo f_m_march (u.2.2.2.2.2.2.2.2.2.2.2) f_m_ranMinutes f_m_tiredAhead f_m_isReached f_m_toEnd f_m_upTo f_m_upNext f_m_byChanges f_m_bandPaces) := by
  refine gMi_in (by decide) (Nat.le_of_ble_eq_true rfl) ?_
  intro p e s m args below meth c A ls Q hx hb hml hts hown hsz hP hK hD hN hAe hA hS hl hret
  subst hsz
  have hl : lv_has ls 6 [(0, .ref (hm 0)), (1, .int i), (2, .int bf), (3, .int t), (4, .int act)] := hl
  have hrt := fun (r : Int32) (v_atW' : Int32) (v_atL' : Int32) (v_atT' : Int32) (v_atH' : Int32) (v_atM' : Int32) (v_atI' : Int32) (v_atQ' : Int32) (v_goPace' : Int32) (v_goMinutes' : Int32) (f_m_worth' : Nat → Int32) (f_m_isRefused' : Nat → Int32) (f_m_tired' : Nat → Int32) (hp : (0 ≤ v_atW'.toInt ∧ v_atW'.toInt ≤ 5) ∧ (0 ≤ v_goPace'.toInt ∧ v_goPace'.toInt ≤ 60) ∧ (rg (0) 1 f_m_isRefused') ∧ (rg (0) 5 f_m_tired')) {H : Heap} {locs : List Loc} {pc : Nat} {ls : Array Slot} => hret r (v_atW', v_atL', v_atT', v_atH', v_atM', v_atI', v_atQ', v_goPace', v_goMinutes', f_m_worth', f_m_isRefused', f_m_tired') (H := H) (locs := locs) (pc := pc) (ls := ls) hp
  clear hret
  refine lv_aload_n hx hb dX10_endBy_0 rfl (lv_at hl 0 rfl) ?_
  refine lv_iload_n hx hb dX10_endBy_1 rfl (lv_at hl 3 rfl) ?_
  refine xv hD hS hA (xV (As := [.int t]) (rest := []) hx hb hml hown hts hK hP hD hS hA NT_ok hN hAe hl.1 ⟨Nat.le_refl _, Nat.le_refl _⟩ 0 rfl rfl rfl (c_X10_takesTired l D cy hm v_taped v_walkers v_loads v_pieces v_changeCosts v_planned v_isMarch v_clauseMany v_place v_end v_bad v_clauses v_codes v_open v_stacked v_isOver v_isBehind v_atW v_atL v_atT v_atH v_atM v_atI v_atQ v_packing v_packed v_goPace v_goMinutes v_spentAt v_ranChanges f_m_tape f_m_knee f_m_weight f_m_isLame f_m_loadWeight f_m_owner f_m_food f_m_miles f_m_slope f_m_clauseLetter f_m_sumFrom f_m_codeFrom f_m_codeTo f_m_code f_m_codeArg f_m_newLetter f_m_newSum f_m_newFrom f_m_newTo f_m_newCode f_m_newArg f_m_stack f_m_worth f_m_isRefused f_m_least f_m_packPounds f_m_packOwner f_m_room f_m_givenTo f_m_canBe f_m_setPounds f_m_plainTime f_m_muleTime f_m_planTo f_m_march f_m_tired f_m_ranMinutes f_m_tiredAhead f_m_isReached f_m_toEnd f_m_upTo f_m_upNext f_m_byChanges f_m_bandPaces s.heap.size t hr_m_tired (by omega)) (gi_V lwd_991 lwd_992 lwd_993 lwd_5 lwd_994) ⟨rfl, hd_X10_takesTired⟩ ⟨Nat.le_of_ble_eq_true rfl, Nat.le_of_ble_eq_true rfl⟩ rfl (Nat.le_of_ble_eq_true rfl) dX10_endBy_2) (fun u_1 H locs hw hP hD hS => ?_)
  obtain ⟨ztired_3, rfl⟩ : ∃ z, z = u_1 := ⟨_, rfl⟩
  try dsimp only at hw hP hD
  have p_4 := hw
  clear hw
  refine lv_aload_n hx hb dX10_endBy_5 rfl (lv_at hl 0 rfl) ?_
  refine lv_iload hx hb dX10_endBy_6 (lv_at hl 4 rfl) ?_
  refine xi hD hS hA (xV (As := [.int act]) (rest := []) hx hb hml hown hts hK hP hD hS hA NT_ok hN hAe hl.1 ⟨Nat.le_refl _, Nat.le_refl _⟩ 0 rfl rfl rfl (c_X10_mayAct l D cy hm v_taped v_walkers v_loads v_pieces v_changeCosts v_planned v_isMarch v_clauseMany v_place v_end v_bad v_clauses v_codes v_open v_stacked v_isOver v_isBehind v_atW v_atL v_atT v_atH v_atM v_atI v_atQ v_packing v_packed v_goPace v_goMinutes v_spentAt v_ranChanges f_m_tape f_m_knee f_m_weight f_m_isLame f_m_loadWeight f_m_owner f_m_food f_m_miles f_m_slope f_m_clauseLetter f_m_sumFrom f_m_codeFrom f_m_codeTo f_m_code f_m_codeArg f_m_newLetter f_m_newSum f_m_newFrom f_m_newTo f_m_newCode f_m_newArg f_m_stack f_m_worth f_m_isRefused f_m_least f_m_packPounds f_m_packOwner f_m_room f_m_givenTo f_m_canBe f_m_setPounds f_m_plainTime f_m_muleTime f_m_planTo f_m_march ztired_3 f_m_ranMinutes f_m_tiredAhead f_m_isReached f_m_toEnd f_m_upTo f_m_upNext f_m_byChanges f_m_bandPaces H.size act) (gi_V lwd_1119 lwd_1120 lwd_1121 lwd_5 lwd_1122) ⟨rfl, hd_X10_mayAct⟩ ⟨Nat.le_of_ble_eq_true rfl, Nat.le_of_ble_eq_true rfl⟩ rfl (Nat.le_of_ble_eq_true rfl) dX10_endBy_8) (fun r_6 u_5 H locs hw hP hD hS => ?_)
  try dsimp only at hw hP hD
  have p_7 := hw
  clear hw
  refine lv_if_eq (tgt := 24) hx hb dX10_endBy_11 (by decide) (fun c_8 => ?_) (fun c_8 => ?_)
  · have gc_8 : r_6.toInt = 0 := i_eq (rfl : r_6.toInt = r_6.toInt) (by decide : (0 : Int32).toInt = 0) c_8
    refine lv_ldcw hx hb hown (hts _ lwd_827) dX10_endBy_24 ?_
    have k_9 : (1000000000 : Int32).toInt = 1000000000 := by decide
    exact hrt 1000000000 v_atW v_atL v_atT v_atH v_atM v_atI v_atQ v_goPace v_goMinutes f_m_worth f_m_isRefused ztired_3 ⟨(by omega), (by omega), hr_m_isRefused, p_4⟩ hP hD hS rfl dX10_endBy_27
  · have gc_8 : r_6.toInt ≠ 0 := i_ne (rfl : r_6.toInt = r_6.toInt) (by decide : (0 : Int32).toInt = 0) c_8
    refine lv_aload_n hx hb dX10_endBy_14 rfl (lv_at hl 0 rfl) ?_
    refine lv_iload_n hx hb dX10_endBy_15 rfl (lv_at hl 1 rfl) ?_
    refine lv_iload hx hb dX10_endBy_16 (lv_at hl 4 rfl) ?_
    refine xi hD hS hA (xV (As := [.int i, .int act]) (rest := []) hx hb hml hown hts hK hP hD hS hA NT_ok hN hAe hl.1 ⟨Nat.le_refl _, Nat.le_refl _⟩ 0 rfl rfl rfl (c_X10_goesOver l D cy hm v_taped v_walkers v_loads v_pieces v_changeCosts v_planned v_isMarch v_clauseMany v_place v_end v_bad v_clauses v_codes v_open v_stacked v_isOver v_isBehind v_atW v_atL v_atT v_atH v_atM v_atI v_atQ v_packing v_packed v_goPace v_goMinutes v_spentAt v_ranChanges f_m_tape f_m_knee f_m_weight f_m_isLame f_m_loadWeight f_m_owner f_m_food f_m_miles f_m_slope f_m_clauseLetter f_m_sumFrom f_m_codeFrom f_m_codeTo f_m_code f_m_codeArg f_m_newLetter f_m_newSum f_m_newFrom f_m_newTo f_m_newCode f_m_newArg f_m_stack f_m_worth f_m_isRefused f_m_least f_m_packPounds f_m_packOwner f_m_room f_m_givenTo f_m_canBe f_m_setPounds f_m_plainTime f_m_muleTime f_m_planTo f_m_march ztired_3 f_m_ranMinutes f_m_tiredAhead f_m_isReached f_m_toEnd f_m_upTo f_m_upNext f_m_byChanges f_m_bandPaces H.size i act (by omega) (by omega) (by omega) (by omega) (by omega) hr_m_weight hr_m_isLame hr_m_loadWeight hr_m_food hr_m_miles hr_m_isRefused p_4 (by omega) (by omega) hwf) (gi_V lwd_995 lwd_996 lwd_997 lwd_5 lwd_998) ⟨rfl, hd_X10_goesOver⟩ ⟨Nat.le_of_ble_eq_true rfl, Nat.le_of_ble_eq_true rfl⟩ rfl (Nat.le_of_ble_eq_true rfl) dX10_endBy_18) (fun r_11 u_10 H locs hw hP hD hS => ?_)
    obtain ⟨zatW_12, zatL_13, zatT_14, zatH_15, zatM_16, zatI_17, zatQ_18, zgoPace_19, zgoMinutes_20, zworth_21, zisRefused_22, ztired_23⟩ := u_10
    try dsimp only at hw hP hD
    obtain ⟨p_24, p_25, p_26, p_27, p_28⟩ := hw
    refine lv_if_ne (tgt := 28) hx hb dX10_endBy_21 (by decide) (fun c_29 => ?_) (fun c_29 => ?_)
    · have gc_29 : r_11.toInt ≠ 0 := i_ne (rfl : r_11.toInt = r_11.toInt) (by decide : (0 : Int32).toInt = 0) c_29
      refine lv_aload_n hx hb dX10_endBy_28 rfl (lv_at hl 0 rfl) ?_
      refine gt_MD_MD_toEnd hx hb hts hown hK hP lwd_196 dX10_endBy_29 ?_
      refine lv_iload_n hx hb dX10_endBy_32 rfl (lv_at hl 1 rfl) ?_
      refine lv_iconst (v := 1) hx hb dX10_endBy_33 (by decide) ?_
      refine lv_iadd hx hb dX10_endBy_34 ?_
      refine lv_topi (fun n_30 en_30 => ?_)
      have tn_30 : n_30.toInt = i.toInt + 1 := i_add en_30 (rfl : i.toInt = i.toInt) (by decide : (1 : Int32).toInt = 1) (by omega) (by omega)
      refine lv_iload hx hb dX10_endBy_35 (lv_at hl 4 rfl) ?_
      refine lv_bipush (v := 6) hx hb dX10_endBy_37 (by decide) ?_
      refine lv_irem hx hb dX10_endBy_39 (by decide) ?_
      refine lv_topi (fun n_31 en_31 => ?_)
      have tn_31 : n_31.toInt = act.toInt % 6 := i_rem en_31 (rfl : act.toInt = act.toInt) (by decide : (6 : Int32).toInt = 6) (by omega) (by omega)
      refine lv_aload_n hx hb dX10_endBy_40 rfl (lv_at hl 0 rfl) ?_
      refine xi hD hS hA (xV (As := []) (rest := [.int n_31, .int n_30, .ref (hm 40)]) hx hb hml hown hts hK hP hD hS hA NT_ok hN hAe hl.1 ⟨Nat.le_refl _, Nat.le_refl _⟩ 0 rfl rfl rfl (c_X10_allTired l D cy hm v_taped v_walkers v_loads v_pieces v_changeCosts v_planned v_isMarch v_clauseMany v_place v_end v_bad v_clauses v_codes v_open v_stacked v_isOver v_isBehind zatW_12 zatL_13 zatT_14 zatH_15 zatM_16 zatI_17 zatQ_18 v_packing v_packed zgoPace_19 zgoMinutes_20 v_spentAt v_ranChanges f_m_tape f_m_knee f_m_weight f_m_isLame f_m_loadWeight f_m_owner f_m_food f_m_miles f_m_slope f_m_clauseLetter f_m_sumFrom f_m_codeFrom f_m_codeTo f_m_code f_m_codeArg f_m_newLetter f_m_newSum f_m_newFrom f_m_newTo f_m_newCode f_m_newArg f_m_stack zworth_21 zisRefused_22 f_m_least f_m_packPounds f_m_packOwner f_m_room f_m_givenTo f_m_canBe f_m_setPounds f_m_plainTime f_m_muleTime f_m_planTo f_m_march ztired_23 f_m_ranMinutes f_m_tiredAhead f_m_isReached f_m_toEnd f_m_upTo f_m_upNext f_m_byChanges f_m_bandPaces H.size (by omega) p_28) (gi_V lwd_1016 lwd_1017 lwd_1018 lwd_5 lwd_1019) ⟨rfl, hd_X10_allTired⟩ ⟨Nat.le_of_ble_eq_true rfl, Nat.le_of_ble_eq_true rfl⟩ rfl (Nat.le_of_ble_eq_true rfl) dX10_endBy_41) (fun r_33 u_32 H locs hw hP hD hS => ?_)
      try dsimp only at hw hP hD
      obtain ⟨p_34, p_35⟩ := hw
      refine xi hD hS hA (xS (As := [.int n_30, .int n_31, .int r_33]) (rest := [.ref (hm 40)]) hx hb hml hown hts hK hP hD hS hA NT_ok hN hAe hl.1 ⟨Nat.le_refl _, Nat.le_refl _⟩ (c_X10_stateOf l D cy hm v_taped v_walkers v_loads v_pieces v_changeCosts v_planned v_isMarch v_clauseMany v_place v_end v_bad v_clauses v_codes v_open v_stacked v_isOver v_isBehind zatW_12 zatL_13 zatT_14 zatH_15 zatM_16 zatI_17 zatQ_18 v_packing v_packed zgoPace_19 zgoMinutes_20 v_spentAt v_ranChanges f_m_tape f_m_knee f_m_weight f_m_isLame f_m_loadWeight f_m_owner f_m_food f_m_miles f_m_slope f_m_clauseLetter f_m_sumFrom f_m_codeFrom f_m_codeTo f_m_code f_m_codeArg f_m_newLetter f_m_newSum f_m_newFrom f_m_newTo f_m_newCode f_m_newArg f_m_stack zworth_21 zisRefused_22 f_m_least f_m_packPounds f_m_packOwner f_m_room f_m_givenTo f_m_canBe f_m_setPounds f_m_plainTime f_m_muleTime f_m_planTo f_m_march ztired_23 f_m_ranMinutes f_m_tiredAhead f_m_isReached f_m_toEnd f_m_upTo f_m_upNext f_m_byChanges f_m_bandPaces H.size n_30 n_31 r_33 (by omega) (by omega) (by omega)) (gi_S lwd_1116 lwd_1117 lwd_5 lwd_1118) hd_X10_stateOf ⟨Nat.le_of_ble_eq_true rfl, Nat.le_of_ble_eq_true rfl⟩ rfl (Nat.le_of_ble_eq_true rfl) dX10_endBy_44) (fun r_37 u_36 H locs hw hP hD hS => ?_)
      try dsimp only at hw hP hD
      obtain ⟨p_38, p_39⟩ := hw
      refine al_m_toEnd hx hb hK hP (i_in (rfl : r_37.toInt = r_37.toInt) (by omega) (by omega)) dX10_endBy_47 (fun n_40 en_40 => ?_)
      refine lv_istore (lv' := [(5, .int n_40), (0, .ref (hm 0)), (1, .int i), (2, .int bf), (3, .int t), (4, .int act)]) hx hb dX10_endBy_48 hl (by decide) rfl (fun ls hl => ?_)
      refine lv_iload hx hb dX10_endBy_50 (lv_at hl 0 rfl) ?_
      refine lv_ldcw hx hb hown (hts _ lwd_827) dX10_endBy_52 ?_
      refine lv_icmp_ne (tgt := 64) hx hb dX10_endBy_55 (by decide) (fun c_41 => ?_) (fun c_41 => ?_)
      · have gc_41 : n_40.toInt ≠ 1000000000 := i_ne (rfl : n_40.toInt = n_40.toInt) (by decide : (1000000000 : Int32).toInt = 1000000000) c_41
        refine lv_aload_n hx hb dX10_endBy_64 rfl (lv_at hl 1 rfl) ?_
        refine gt_MD_MD_goMinutes hx hb hts hown hK hP lwd_990 dX10_endBy_65 ?_
        refine lv_aload_n hx hb dX10_endBy_68 rfl (lv_at hl 1 rfl) ?_
        refine lv_iload_n hx hb dX10_endBy_69 rfl (lv_at hl 3 rfl) ?_
        refine lv_iload hx hb dX10_endBy_70 (lv_at hl 5 rfl) ?_
        refine lv_bipush (v := 6) hx hb dX10_endBy_72 (by decide) ?_
        refine lv_irem hx hb dX10_endBy_74 (by decide) ?_
        refine lv_topi (fun n_42 en_42 => ?_)
        have tn_42 : n_42.toInt = act.toInt % 6 := i_rem en_42 (rfl : act.toInt = act.toInt) (by decide : (6 : Int32).toInt = 6) (by omega) (by omega)
        refine xi hD hS hA (xV (As := [.int bf, .int n_42]) (rest := [.int zgoMinutes_20]) hx hb hml hown hts hK hP hD hS hA NT_ok hN hAe hl.1 ⟨Nat.le_refl _, Nat.le_refl _⟩ 0 rfl rfl rfl (c_X10_changeTime l D cy hm v_taped v_walkers v_loads v_pieces v_changeCosts v_planned v_isMarch v_clauseMany v_place v_end v_bad v_clauses v_codes v_open v_stacked v_isOver v_isBehind zatW_12 zatL_13 zatT_14 zatH_15 zatM_16 zatI_17 zatQ_18 v_packing v_packed zgoPace_19 zgoMinutes_20 v_spentAt v_ranChanges f_m_tape f_m_knee f_m_weight f_m_isLame f_m_loadWeight f_m_owner f_m_food f_m_miles f_m_slope f_m_clauseLetter f_m_sumFrom f_m_codeFrom f_m_codeTo f_m_code f_m_codeArg f_m_newLetter f_m_newSum f_m_newFrom f_m_newTo f_m_newCode f_m_newArg f_m_stack zworth_21 zisRefused_22 f_m_least f_m_packPounds f_m_packOwner f_m_room f_m_givenTo f_m_canBe f_m_setPounds f_m_plainTime f_m_muleTime f_m_planTo f_m_march ztired_23 f_m_ranMinutes f_m_tiredAhead f_m_isReached f_m_toEnd f_m_upTo f_m_upNext f_m_byChanges f_m_bandPaces H.size bf n_42) (gi_V lwd_1127 lwd_1128 lwd_1129 lwd_5 lwd_1130) ⟨rfl, hd_X10_changeTime⟩ ⟨Nat.le_of_ble_eq_true rfl, Nat.le_of_ble_eq_true rfl⟩ rfl (Nat.le_of_ble_eq_true rfl) dX10_endBy_75) (fun r_44 u_43 H locs hw hP hD hS => ?_)
        try dsimp only at hw hP hD
        clear hw
        refine lv_iadd hx hb dX10_endBy_78 ?_
        refine lv_topi (fun n_45 en_45 => ?_)
        refine lv_iload hx hb dX10_endBy_79 (lv_at hl 0 rfl) ?_
        refine lv_iadd hx hb dX10_endBy_81 ?_
        refine lv_topi (fun n_46 en_46 => ?_)
        exact hrt n_46 zatW_12 zatL_13 zatT_14 zatH_15 zatM_16 zatI_17 zatQ_18 zgoPace_19 zgoMinutes_20 zworth_21 zisRefused_22 ztired_23 ⟨(by omega), (by omega), p_27, p_28⟩ hP hD hS rfl dX10_endBy_82
      · have gc_41 : n_40.toInt = 1000000000 := i_eq (rfl : n_40.toInt = n_40.toInt) (by decide : (1000000000 : Int32).toInt = 1000000000) c_41
        refine lv_ldcw hx hb hown (hts _ lwd_827) dX10_endBy_58 ?_
        refine lv_goto (tgt := 82) hx hb dX10_endBy_61 (by decide) ?_
        have k_47 : (1000000000 : Int32).toInt = 1000000000 := by decide
        exact hrt 1000000000 zatW_12 zatL_13 zatT_14 zatH_15 zatM_16 zatI_17 zatQ_18 zgoPace_19 zgoMinutes_20 zworth_21 zisRefused_22 ztired_23 ⟨(by omega), (by omega), p_27, p_28⟩ hP hD hS rfl dX10_endBy_82
    · have gc_29 : r_11.toInt = 0 := i_eq (rfl : r_11.toInt = r_11.toInt) (by decide : (0 : Int32).toInt = 0) c_29
      refine lv_ldcw hx hb hown (hts _ lwd_827) dX10_endBy_24 ?_
      have k_48 : (1000000000 : Int32).toInt = 1000000000 := by decide
      exact hrt 1000000000 zatW_12 zatL_13 zatT_14 zatH_15 zatM_16 zatI_17 zatQ_18 zgoPace_19 zgoMinutes_20 zworth_21 zisRefused_22 ztired_23 ⟨(by omega), (by omega), p_27, p_28⟩ hP hD hS rfl dX10_endBy_27
set_option maxHeartbeats 16000000 in
set_option maxRecDepth 100000 in
theorem c_X10_laysBest (l : Launch) (D : va_G) (cy : Nat → ClassId) (hm : Nat → Nat) (v_taped v_walkers v_loads v_pieces v_changeCosts v_planned v_isMarch v_clauseMany v_place v_end v_bad v_clauses v_codes v_open v_stacked v_isOver v_isBehind v_atW v_atL v_atT v_atH v_atM v_atI v_atQ v_packing v_packed v_goPace v_goMinutes v_spentAt v_ranChanges : Int32) (f_m_tape f_m_knee f_m_weight f_m_isLame f_m_loadWeight f_m_owner f_m_food f_m_miles f_m_slope f_m_clauseLetter f_m_sumFrom f_m_codeFrom f_m_codeTo f_m_code f_m_codeArg f_m_newLetter f_m_newSum f_m_newFrom f_m_newTo f_m_newCode f_m_newArg f_m_stack f_m_worth f_m_isRefused f_m_least f_m_packPounds f_m_packOwner f_m_room f_m_givenTo f_m_canBe f_m_setPounds f_m_plainTime f_m_muleTime f_m_planTo f_m_march f_m_tired f_m_ranMinutes f_m_tiredAhead f_m_isReached f_m_toEnd f_m_upTo f_m_upNext f_m_byChanges f_m_bandPaces : Nat → Int32) (sz : Nat) (hb_v_walkers : 0 ≤ v_walkers.toInt ∧ v_walkers.toInt ≤ 6) (hb_v_loads : 0 ≤ v_loads.toInt ∧ v_loads.toInt ≤ 9) (hb_v_pieces : 0 ≤ v_pieces.toInt ∧ v_pieces.toInt ≤ 10) (hb_v_clauseMany : 0 ≤ v_clauseMany.toInt ∧ v_clauseMany.toInt ≤ 14) (hb_v_atW : 0 ≤ v_atW.toInt ∧ v_atW.toInt ≤ 5) (hb_v_goPace : 0 ≤ v_goPace.toInt ∧ v_goPace.toInt ≤ 60) (hr_m_weight : rg (0) 250 f_m_weight) (hr_m_isLame : rg (0) 1 f_m_isLame) (hr_m_loadWeight : rg (0) 120 f_m_loadWeight) (hr_m_food : rg (0) 20 f_m_food) (hr_m_miles : rg (0) 20 f_m_miles) (hr_m_isRefused : rg (0) 1 f_m_isRefused) (hr_m_tired : rg (0) 5 f_m_tired) (hr_m_isReached : rg (0) 1 f_m_isReached) (hwf : wfC v_clauseMany f_m_sumFrom f_m_codeFrom f_m_codeTo f_m_code) (hw4 : v_walkers.toInt ≤ 4) : gMv l yX10_laysBest cX10_laysBest 7 9 [.ref (hm 0)] D cy (wMD cy hm v_taped v_walkers v_loads v_pieces v_changeCosts v_planned v_isMarch v_clauseMany v_place v_end v_bad v_clauses v_codes v_open v_stacked v_isOver v_isBehind v_atW v_atL v_atT v_atH v_atM v_atI v_atQ v_packing v_packed v_goPace v_goMinutes v_spentAt v_ranChanges f_m_tape f_m_knee f_m_weight f_m_isLame f_m_loadWeight f_m_owner f_m_food f_m_miles f_m_slope f_m_clauseLetter f_m_sumFrom f_m_codeFrom f_m_codeTo f_m_code f_m_codeArg f_m_newLetter f_m_newSum f_m_newFrom f_m_newTo f_m_newCode f_m_newArg f_m_stack f_m_worth f_m_isRefused f_m_least f_m_packPounds f_m_packOwner f_m_room f_m_givenTo f_m_canBe f_m_setPounds f_m_plainTime f_m_muleTime f_m_planTo f_m_march f_m_tired f_m_ranMinutes f_m_tiredAhead f_m_isReached f_m_toEnd f_m_upTo f_m_upNext f_m_byChanges f_m_bandPaces) NT sz (fun (u : Int32 × Int32 × Int32 × Int32 × Int32 × Int32 × Int32 × Int32 × Int32 × (Nat → Int32) × (Nat → Int32) × (Nat → Int32) × (Nat → Int32) × (Nat → Int32)) => (0 ≤ (u.1).toInt ∧ (u.1).toInt ≤ 5) ∧ (0 ≤ (u.2.2.2.2.2.2.2.1).toInt ∧ (u.2.2.2.2.2.2.2.1).toInt ≤ 60) ∧ (rg (0) 1 (u.2.2.2.2.2.2.2.2.2.2.1)) ∧ (rg (0) 5 (u.2.2.2.2.2.2.2.2.2.2.2.1)) ∧ (rg (0) 1 (u.2.2.2.2.2.2.2.2.2.2.2.2.1))) (fun u => wMD cy hm v_taped v_walkers v_loads v_pieces v_changeCosts v_planned v_isMarch v_clauseMany v_place v_end v_bad v_clauses v_codes v_open v_stacked v_isOver v_isBehind (u.1) (u.2.1) (u.2.2.1) (u.2.2.2.1) (u.2.2.2.2.1) (u.2.2.2.2.2.1) (u.2.2.2.2.2.2.1) v_packing v_packed (u.2.2.2.2.2.2.2.1) (u.2.2.2.2.2.2.2.2.1) v_spentAt v_ranChanges f_m_tape f_m_knee f_m_weight f_m_isLame f_m_loadWeight f_m_owner f_m_food f_m_miles f_m_slope f_m_clauseLetter f_m_sumFrom f_m_codeFrom f_m_codeTo f_m_code f_m_codeArg f_m_newLetter f_m_newSum f_m_newFrom f_m_newTo f_m_newCode f_m_newArg f_m_stack (u.2.2.2.2.2.2.2.2.2.1) (u.2.2.2.2.2.2.2.2.2.2.1) f_m_least f_m_packPounds f_m_packOwner f_m_room f_m_givenTo f_m_canBe f_m_setPounds f_m_plainTime f_m_muleTime f_m_planTo f_m_march (u.2.2.2.2.2.2.2.2.2.2.2.1) f_m_ranMinutes f_m_tiredAhead (u.2.2.2.2.2.2.2.2.2.2.2.2.1) (u.2.2.2.2.2.2.2.2.2.2.2.2.2) f_m_upTo f_m_upNext f_m_byChanges f_m_bandPaces) := by
  refine gMv_in (by decide) (Nat.le_of_ble_eq_true rfl) ?_
  intro p e s m args below meth c A ls Q hx hb hml hts hown hsz hP hK hD hN hAe hA hS hl hret
  subst hsz
  have hl : lv_has ls 7 [(0, .ref (hm 0))] := hl
  have hrt := fun (v_atW' : Int32) (v_atL' : Int32) (v_atT' : Int32) (v_atH' : Int32) (v_atM' : Int32) (v_atI' : Int32) (v_atQ' : Int32) (v_goPace' : Int32) (v_goMinutes' : Int32) (f_m_worth' : Nat → Int32) (f_m_isRefused' : Nat → Int32) (f_m_tired' : Nat → Int32) (f_m_isReached' : Nat → Int32) (f_m_toEnd' : Nat → Int32) (hp : (0 ≤ v_atW'.toInt ∧ v_atW'.toInt ≤ 5) ∧ (0 ≤ v_goPace'.toInt ∧ v_goPace'.toInt ≤ 60) ∧ (rg (0) 1 f_m_isRefused') ∧ (rg (0) 5 f_m_tired') ∧ (rg (0) 1 f_m_isReached')) {H : Heap} {locs : List Loc} {pc : Nat} {ls : Array Slot} => hret (v_atW', v_atL', v_atT', v_atH', v_atM', v_atI', v_atQ', v_goPace', v_goMinutes', f_m_worth', f_m_isRefused', f_m_tired', f_m_isReached', f_m_toEnd') (H := H) (locs := locs) (pc := pc) (ls := ls) hp
  clear hret
  refine lv_aload_n hx hb dX10_laysBest_0 rfl (lv_at hl 0 rfl) ?_
  refine xv hD hS hA (xV (As := []) (rest := []) hx hb hml hown hts hK hP hD hS hA NT_ok hN hAe hl.1 ⟨Nat.le_refl _, Nat.le_refl _⟩ 0 rfl rfl rfl (c_X10_reaches l D cy hm v_taped v_walkers v_loads v_pieces v_changeCosts v_planned v_isMarch v_clauseMany v_place v_end v_bad v_clauses v_codes v_open v_stacked v_isOver v_isBehind v_atW v_atL v_atT v_atH v_atM v_atI v_atQ v_packing v_packed v_goPace v_goMinutes v_spentAt v_ranChanges f_m_tape f_m_knee f_m_weight f_m_isLame f_m_loadWeight f_m_owner f_m_food f_m_miles f_m_slope f_m_clauseLetter f_m_sumFrom f_m_codeFrom f_m_codeTo f_m_code f_m_codeArg f_m_newLetter f_m_newSum f_m_newFrom f_m_newTo f_m_newCode f_m_newArg f_m_stack f_m_worth f_m_isRefused f_m_least f_m_packPounds f_m_packOwner f_m_room f_m_givenTo f_m_canBe f_m_setPounds f_m_plainTime f_m_muleTime f_m_planTo f_m_march f_m_tired f_m_ranMinutes f_m_tiredAhead f_m_isReached f_m_toEnd f_m_upTo f_m_upNext f_m_byChanges f_m_bandPaces s.heap.size (by omega) (by omega) (by omega) (by omega) (by omega) (by omega) hr_m_weight hr_m_isLame hr_m_loadWeight hr_m_food hr_m_miles hr_m_isRefused hr_m_tired hr_m_isReached hwf (by omega)) (gi_V lwd_1112 lwd_1113 lwd_1114 lwd_5 lwd_1115) ⟨rfl, hd_X10_reaches⟩ ⟨Nat.le_of_ble_eq_true rfl, Nat.le_of_ble_eq_true rfl⟩ rfl (Nat.le_of_ble_eq_true rfl) dX10_laysBest_1) (fun u_1 H locs hw hP hD hS => ?_)
  obtain ⟨zatW_3, zatL_4, zatT_5, zatH_6, zatM_7, zatI_8, zatQ_9, zgoPace_10, zgoMinutes_11, zworth_12, zisRefused_13, ztired_14, zisReached_15⟩ := u_1
  try dsimp only at hw hP hD
  obtain ⟨p_16, p_17, p_18, p_19, p_20⟩ := hw
  refine lv_aload_n hx hb dX10_laysBest_4 rfl (lv_at hl 0 rfl) ?_
  refine gt_MD_MD_pieces hx hb hts hown hK hP lwd_265 dX10_laysBest_5 ?_
  refine lv_istore_n (lv' := [(1, .int v_pieces), (0, .ref (hm 0))]) hx hb dX10_laysBest_8 rfl hl (by decide) rfl (fun ls hl => ?_)
  have L9_49 : ∀ (n : Nat) (f_35 : Nat → Int32) (f_36 : Nat → Int32) (f_37 : Nat → Int32) (f_38 : Nat → Int32) (l_39 : Int32) (w_40 : Int32) (w_41 : Int32) (w_42 : Int32) (w_43 : Int32) (w_44 : Int32) (w_45 : Int32) (w_46 : Int32) (w_47 : Int32) (w_48 : Int32), (rg (0) 1 f_35) → (rg (0) 5 f_36) → (-1000 ≤ l_39.toInt ∧ l_39.toInt ≤ 10) → (0 ≤ w_46.toInt ∧ w_46.toInt ≤ 5) → (0 ≤ w_48.toInt ∧ w_48.toInt ≤ 60) → l_39.toInt + 1001 < n → ∀ (H : Heap) (locs : List Loc) (ls : Array Slot), va_P D vwCl (wMD cy hm v_taped v_walkers v_loads v_pieces v_changeCosts v_planned v_isMarch v_clauseMany v_place v_end v_bad v_clauses v_codes v_open v_stacked v_isOver v_isBehind w_46 w_42 w_45 w_40 w_43 w_41 w_44 v_packing v_packed w_48 w_47 v_spentAt v_ranChanges f_m_tape f_m_knee f_m_weight f_m_isLame f_m_loadWeight f_m_owner f_m_food f_m_miles f_m_slope f_m_clauseLetter f_m_sumFrom f_m_codeFrom f_m_codeTo f_m_code f_m_codeArg f_m_newLetter f_m_newSum f_m_newFrom f_m_newTo f_m_newCode f_m_newArg f_m_stack f_38 f_35 f_m_least f_m_packPounds f_m_packOwner f_m_room f_m_givenTo f_m_canBe f_m_setPounds f_m_plainTime f_m_muleTime f_m_planTo f_m_march f_36 f_m_ranMinutes f_m_tiredAhead zisReached_15 f_37 f_m_upTo f_m_upNext f_m_byChanges f_m_bandPaces) H → va_D A (wMD cy hm v_taped v_walkers v_loads v_pieces v_changeCosts v_planned v_isMarch v_clauseMany v_place v_end v_bad v_clauses v_codes v_open v_stacked v_isOver v_isBehind w_46 w_42 w_45 w_40 w_43 w_41 w_44 v_packing v_packed w_48 w_47 v_spentAt v_ranChanges f_m_tape f_m_knee f_m_weight f_m_isLame f_m_loadWeight f_m_owner f_m_food f_m_miles f_m_slope f_m_clauseLetter f_m_sumFrom f_m_codeFrom f_m_codeTo f_m_code f_m_codeArg f_m_newLetter f_m_newSum f_m_newFrom f_m_newTo f_m_newCode f_m_newArg f_m_stack f_38 f_35 f_m_least f_m_packPounds f_m_packOwner f_m_room f_m_givenTo f_m_canBe f_m_setPounds f_m_plainTime f_m_muleTime f_m_planTo f_m_march f_36 f_m_ranMinutes f_m_tiredAhead zisReached_15 f_37 f_m_upTo f_m_upNext f_m_byChanges f_m_bandPaces) → va_S A s.heap H locs → lv_has ls 7 [(1, .int l_39), (0, .ref (hm 0))] → W p l e (gRm 9) s m args below meth c H locs 0 0 Q (F0 m 9 ls []) := by
    intro n
    induction n with
    | zero => intro f_35 f_36 f_37 f_38 l_39 w_40 w_41 w_42 w_43 w_44 w_45 w_46 w_47 w_48 hL9_49_0 hL9_49_1 hL9_49_2 hL9_49_3 hL9_49_4 hm; exact absurd hm (by omega)
    | succ n ih9_49 =>
      intro f_35 f_36 f_37 f_38 l_39 w_40 w_41 w_42 w_43 w_44 w_45 w_46 w_47 w_48 hL9_49_0 hL9_49_1 hL9_49_2 hL9_49_3 hL9_49_4 hmL9_49 H locs ls hP hD hS hl
      refine lv_iload_n hx hb dX10_laysBest_9 rfl (lv_at hl 0 rfl) ?_
      refine lv_if_lt (tgt := 157) hx hb dX10_laysBest_10 (by decide) (fun c_50 => ?_) (fun c_50 => ?_)
      · have gc_50 : l_39.toInt < 0 := i_lt (rfl : l_39.toInt = l_39.toInt) (by decide : (0 : Int32).toInt = 0) c_50
        exact hrt w_46 w_42 w_45 w_40 w_43 w_41 w_44 w_48 w_47 f_38 f_35 f_36 zisReached_15 f_37 ⟨(by omega), (by omega), hL9_49_0, hL9_49_1, p_20⟩ hP hD hS dX10_laysBest_157
      · have gc_50 : 0 ≤ l_39.toInt := i_nlt (rfl : l_39.toInt = l_39.toInt) (by decide : (0 : Int32).toInt = 0) c_50
        refine lv_iconst (v := 0) hx hb dX10_laysBest_13 (by decide) ?_
        refine lv_istore_n (lv' := [(2, .int 0), (1, .int l_39), (0, .ref (hm 0))]) hx hb dX10_laysBest_14 rfl hl (by decide) rfl (fun ls hl => ?_)
        have L15_79 : ∀ (n : Nat) (f_65 : Nat → Int32) (f_66 : Nat → Int32) (f_67 : Nat → Int32) (f_68 : Nat → Int32) (l_69 : Int32) (w_70 : Int32) (w_71 : Int32) (w_72 : Int32) (w_73 : Int32) (w_74 : Int32) (w_75 : Int32) (w_76 : Int32) (w_77 : Int32) (w_78 : Int32), (rg (0) 1 f_65) → (rg (0) 5 f_66) → (0 ≤ l_69.toInt ∧ l_69.toInt ≤ 7) → (0 ≤ w_76.toInt ∧ w_76.toInt ≤ 5) → (0 ≤ w_78.toInt ∧ w_78.toInt ≤ 60) → 8 - l_69.toInt < n → ∀ (H : Heap) (locs : List Loc) (ls : Array Slot), va_P D vwCl (wMD cy hm v_taped v_walkers v_loads v_pieces v_changeCosts v_planned v_isMarch v_clauseMany v_place v_end v_bad v_clauses v_codes v_open v_stacked v_isOver v_isBehind w_76 w_72 w_75 w_70 w_73 w_71 w_74 v_packing v_packed w_78 w_77 v_spentAt v_ranChanges f_m_tape f_m_knee f_m_weight f_m_isLame f_m_loadWeight f_m_owner f_m_food f_m_miles f_m_slope f_m_clauseLetter f_m_sumFrom f_m_codeFrom f_m_codeTo f_m_code f_m_codeArg f_m_newLetter f_m_newSum f_m_newFrom f_m_newTo f_m_newCode f_m_newArg f_m_stack f_68 f_65 f_m_least f_m_packPounds f_m_packOwner f_m_room f_m_givenTo f_m_canBe f_m_setPounds f_m_plainTime f_m_muleTime f_m_planTo f_m_march f_66 f_m_ranMinutes f_m_tiredAhead zisReached_15 f_67 f_m_upTo f_m_upNext f_m_byChanges f_m_bandPaces) H → va_D A (wMD cy hm v_taped v_walkers v_loads v_pieces v_changeCosts v_planned v_isMarch v_clauseMany v_place v_end v_bad v_clauses v_codes v_open v_stacked v_isOver v_isBehind w_76 w_72 w_75 w_70 w_73 w_71 w_74 v_packing v_packed w_78 w_77 v_spentAt v_ranChanges f_m_tape f_m_knee f_m_weight f_m_isLame f_m_loadWeight f_m_owner f_m_food f_m_miles f_m_slope f_m_clauseLetter f_m_sumFrom f_m_codeFrom f_m_codeTo f_m_code f_m_codeArg f_m_newLetter f_m_newSum f_m_newFrom f_m_newTo f_m_newCode f_m_newArg f_m_stack f_68 f_65 f_m_least f_m_packPounds f_m_packOwner f_m_room f_m_givenTo f_m_canBe f_m_setPounds f_m_plainTime f_m_muleTime f_m_planTo f_m_march f_66 f_m_ranMinutes f_m_tiredAhead zisReached_15 f_67 f_m_upTo f_m_upNext f_m_byChanges f_m_bandPaces) → va_S A s.heap H locs → lv_has ls 7 [(2, .int l_69), (1, .int l_39), (0, .ref (hm 0))] → W p l e (gRm 9) s m args below meth c H locs 0 0 Q (F0 m 15 ls []) := by
          intro n
          induction n with
          | zero => intro f_65 f_66 f_67 f_68 l_69 w_70 w_71 w_72 w_73 w_74 w_75 w_76 w_77 w_78 hL15_79_0 hL15_79_1 hL15_79_2 hL15_79_3 hL15_79_4 hm; exact absurd hm (by omega)
          | succ n ih15_79 =>
            intro f_65 f_66 f_67 f_68 l_69 w_70 w_71 w_72 w_73 w_74 w_75 w_76 w_77 w_78 hL15_79_0 hL15_79_1 hL15_79_2 hL15_79_3 hL15_79_4 hmL15_79 H locs ls hP hD hS hl
            refine lv_iload_n hx hb dX10_laysBest_15 rfl (lv_at hl 0 rfl) ?_
            refine lv_bipush (v := 6) hx hb dX10_laysBest_16 (by decide) ?_
            refine lv_icmp_gt (tgt := 151) hx hb dX10_laysBest_18 (by decide) (fun c_80 => ?_) (fun c_80 => ?_)
            · have gc_80 : 6 < l_69.toInt := i_lt (by decide : (6 : Int32).toInt = 6) (rfl : l_69.toInt = l_69.toInt) c_80
              obtain ⟨n_81, en_81⟩ : ∃ y : Int32, y = l_39 + (-1) := ⟨_, rfl⟩
              have tn_81 : n_81.toInt = l_39.toInt + (-1) := i_add en_81 (rfl : l_39.toInt = l_39.toInt) (by decide : ((-1) : Int32).toInt = (-1)) (by omega) (by omega)
              refine lv_iinc (v := n_81) (lv' := [(1, .int n_81), (2, .int l_69), (0, .ref (hm 0))]) hx hb dX10_laysBest_151 hl (k := 1) rfl (by rw [en_81]; rfl) (by decide) rfl (fun ls hl => ?_)
              refine lv_goto (tgt := 9) hx hb dX10_laysBest_154 (by decide) ?_
              exact ih9_49 f_65 f_66 f_67 f_68 n_81 w_70 w_71 w_72 w_73 w_74 w_75 w_76 w_77 w_78 hL15_79_0 hL15_79_1 (by omega) (by omega) (by omega) (by omega) _ _ _ hP hD hS (lv_sub hl [0, 2] rfl)
            · have gc_80 : l_69.toInt ≤ 6 := i_nlt (by decide : (6 : Int32).toInt = 6) (rfl : l_69.toInt = l_69.toInt) c_80
              refine lv_iconst (v := 0) hx hb dX10_laysBest_21 (by decide) ?_
              refine lv_istore_n (lv' := [(3, .int 0), (2, .int l_69), (1, .int l_39), (0, .ref (hm 0))]) hx hb dX10_laysBest_22 rfl hl (by decide) rfl (fun ls hl => ?_)
              have L23_110 : ∀ (n : Nat) (f_96 : Nat → Int32) (f_97 : Nat → Int32) (f_98 : Nat → Int32) (f_99 : Nat → Int32) (l_100 : Int32) (w_101 : Int32) (w_102 : Int32) (w_103 : Int32) (w_104 : Int32) (w_105 : Int32) (w_106 : Int32) (w_107 : Int32) (w_108 : Int32) (w_109 : Int32), (rg (0) 1 f_96) → (rg (0) 5 f_97) → (0 ≤ l_100.toInt ∧ l_100.toInt ≤ 1296) → (0 ≤ w_107.toInt ∧ w_107.toInt ≤ 5) → (0 ≤ w_109.toInt ∧ w_109.toInt ≤ 60) → 1297 - l_100.toInt < n → ∀ (H : Heap) (locs : List Loc) (ls : Array Slot), va_P D vwCl (wMD cy hm v_taped v_walkers v_loads v_pieces v_changeCosts v_planned v_isMarch v_clauseMany v_place v_end v_bad v_clauses v_codes v_open v_stacked v_isOver v_isBehind w_107 w_103 w_106 w_101 w_104 w_102 w_105 v_packing v_packed w_109 w_108 v_spentAt v_ranChanges f_m_tape f_m_knee f_m_weight f_m_isLame f_m_loadWeight f_m_owner f_m_food f_m_miles f_m_slope f_m_clauseLetter f_m_sumFrom f_m_codeFrom f_m_codeTo f_m_code f_m_codeArg f_m_newLetter f_m_newSum f_m_newFrom f_m_newTo f_m_newCode f_m_newArg f_m_stack f_99 f_96 f_m_least f_m_packPounds f_m_packOwner f_m_room f_m_givenTo f_m_canBe f_m_setPounds f_m_plainTime f_m_muleTime f_m_planTo f_m_march f_97 f_m_ranMinutes f_m_tiredAhead zisReached_15 f_98 f_m_upTo f_m_upNext f_m_byChanges f_m_bandPaces) H → va_D A (wMD cy hm v_taped v_walkers v_loads v_pieces v_changeCosts v_planned v_isMarch v_clauseMany v_place v_end v_bad v_clauses v_codes v_open v_stacked v_isOver v_isBehind w_107 w_103 w_106 w_101 w_104 w_102 w_105 v_packing v_packed w_109 w_108 v_spentAt v_ranChanges f_m_tape f_m_knee f_m_weight f_m_isLame f_m_loadWeight f_m_owner f_m_food f_m_miles f_m_slope f_m_clauseLetter f_m_sumFrom f_m_codeFrom f_m_codeTo f_m_code f_m_codeArg f_m_newLetter f_m_newSum f_m_newFrom f_m_newTo f_m_newCode f_m_newArg f_m_stack f_99 f_96 f_m_least f_m_packPounds f_m_packOwner f_m_room f_m_givenTo f_m_canBe f_m_setPounds f_m_plainTime f_m_muleTime f_m_planTo f_m_march f_97 f_m_ranMinutes f_m_tiredAhead zisReached_15 f_98 f_m_upTo f_m_upNext f_m_byChanges f_m_bandPaces) → va_S A s.heap H locs → lv_has ls 7 [(3, .int l_100), (2, .int l_69), (1, .int l_39), (0, .ref (hm 0))] → W p l e (gRm 9) s m args below meth c H locs 0 0 Q (F0 m 23 ls []) := by
                intro n
                induction n with
                | zero => intro f_96 f_97 f_98 f_99 l_100 w_101 w_102 w_103 w_104 w_105 w_106 w_107 w_108 w_109 hL23_110_0 hL23_110_1 hL23_110_2 hL23_110_3 hL23_110_4 hm; exact absurd hm (by omega)
                | succ n ih23_110 =>
                  intro f_96 f_97 f_98 f_99 l_100 w_101 w_102 w_103 w_104 w_105 w_106 w_107 w_108 w_109 hL23_110_0 hL23_110_1 hL23_110_2 hL23_110_3 hL23_110_4 hmL23_110 H locs ls hP hD hS hl
                  refine lv_iload_n hx hb dX10_laysBest_23 rfl (lv_at hl 0 rfl) ?_
                  refine lv_sipush (v := 1296) hx hb dX10_laysBest_24 (by decide) ?_
                  refine lv_icmp_ge (tgt := 145) hx hb dX10_laysBest_27 (by decide) (fun c_111 => ?_) (fun c_111 => ?_)
                  · have gc_111 : 1296 ≤ l_100.toInt := i_le (by decide : (1296 : Int32).toInt = 1296) (rfl : l_100.toInt = l_100.toInt) c_111
                    obtain ⟨n_112, en_112⟩ : ∃ y : Int32, y = l_69 + 1 := ⟨_, rfl⟩
                    have tn_112 : n_112.toInt = l_69.toInt + 1 := i_add en_112 (rfl : l_69.toInt = l_69.toInt) (by decide : (1 : Int32).toInt = 1) (by omega) (by omega)
                    refine lv_iinc (v := n_112) (lv' := [(2, .int n_112), (3, .int l_100), (1, .int l_39), (0, .ref (hm 0))]) hx hb dX10_laysBest_145 hl (k := 1) rfl (by rw [en_112]; rfl) (by decide) rfl (fun ls hl => ?_)
                    refine lv_goto (tgt := 15) hx hb dX10_laysBest_148 (by decide) ?_
                    exact ih15_79 f_96 f_97 f_98 f_99 n_112 w_101 w_102 w_103 w_104 w_105 w_106 w_107 w_108 w_109 hL23_110_0 hL23_110_1 (by omega) (by omega) (by omega) (by omega) _ _ _ hP hD hS (lv_sub hl [0, 2, 3] rfl)
                  · have gc_111 : l_100.toInt < 1296 := i_nle (by decide : (1296 : Int32).toInt = 1296) (rfl : l_100.toInt = l_100.toInt) c_111
                    refine lv_iload_n hx hb dX10_laysBest_30 rfl (lv_at hl 2 rfl) ?_
                    refine lv_iload_n hx hb dX10_laysBest_31 rfl (lv_at hl 1 rfl) ?_
                    refine lv_iload_n hx hb dX10_laysBest_32 rfl (lv_at hl 0 rfl) ?_
                    refine xi hD hS hA (xS (As := [.int l_39, .int l_69, .int l_100]) (rest := []) hx hb hml hown hts hK hP hD hS hA NT_ok hN hAe hl.1 ⟨Nat.le_refl _, Nat.le_refl _⟩ (c_X10_stateOf l D cy hm v_taped v_walkers v_loads v_pieces v_changeCosts v_planned v_isMarch v_clauseMany v_place v_end v_bad v_clauses v_codes v_open v_stacked v_isOver v_isBehind w_107 w_103 w_106 w_101 w_104 w_102 w_105 v_packing v_packed w_109 w_108 v_spentAt v_ranChanges f_m_tape f_m_knee f_m_weight f_m_isLame f_m_loadWeight f_m_owner f_m_food f_m_miles f_m_slope f_m_clauseLetter f_m_sumFrom f_m_codeFrom f_m_codeTo f_m_code f_m_codeArg f_m_newLetter f_m_newSum f_m_newFrom f_m_newTo f_m_newCode f_m_newArg f_m_stack f_99 f_96 f_m_least f_m_packPounds f_m_packOwner f_m_room f_m_givenTo f_m_canBe f_m_setPounds f_m_plainTime f_m_muleTime f_m_planTo f_m_march f_97 f_m_ranMinutes f_m_tiredAhead zisReached_15 f_98 f_m_upTo f_m_upNext f_m_byChanges f_m_bandPaces H.size l_39 l_69 l_100 (by omega) (by omega) (by omega)) (gi_S lwd_1116 lwd_1117 lwd_5 lwd_1118) hd_X10_stateOf ⟨Nat.le_of_ble_eq_true rfl, Nat.le_of_ble_eq_true rfl⟩ rfl (Nat.le_of_ble_eq_true rfl) dX10_laysBest_33) (fun r_114 u_113 H locs hw hP hD hS => ?_)
                    try dsimp only at hw hP hD
                    obtain ⟨p_115, p_116⟩ := hw
                    refine lv_istore (lv' := [(4, .int r_114), (3, .int l_100), (2, .int l_69), (1, .int l_39), (0, .ref (hm 0))]) hx hb dX10_laysBest_36 hl (by decide) rfl (fun ls hl => ?_)
                    refine lv_aload_n hx hb dX10_laysBest_38 rfl (lv_at hl 4 rfl) ?_
                    refine gt_MD_MD_isReached hx hb hts hown hK hP lwd_195 dX10_laysBest_39 ?_
                    refine lv_iload hx hb dX10_laysBest_42 (lv_at hl 0 rfl) ?_
                    refine al_m_isReached hx hb hK hP p_20 (i_in (rfl : r_114.toInt = r_114.toInt) (by omega) (by omega)) dX10_laysBest_44 (fun n_117 en_117 bn_117 => ?_)
                    refine lv_if_ne (tgt := 51) hx hb dX10_laysBest_45 (by decide) (fun c_118 => ?_) (fun c_118 => ?_)
                    · have gc_118 : n_117.toInt ≠ 0 := i_ne (rfl : n_117.toInt = n_117.toInt) (by decide : (0 : Int32).toInt = 0) c_118
                      refine lv_aload_n hx hb dX10_laysBest_51 rfl (lv_at hl 4 rfl) ?_
                      refine gt_MD_MD_toEnd hx hb hts hown hK hP lwd_196 dX10_laysBest_52 ?_
                      refine lv_iload hx hb dX10_laysBest_55 (lv_at hl 0 rfl) ?_
                      refine lv_iload_n hx hb dX10_laysBest_57 rfl (lv_at hl 3 rfl) ?_
                      refine lv_aload_n hx hb dX10_laysBest_58 rfl (lv_at hl 4 rfl) ?_
                      refine gt_MD_MD_pieces hx hb hts hown hK hP lwd_265 dX10_laysBest_59 ?_
                      refine lv_icmp_ne (tgt := 69) hx hb dX10_laysBest_62 (by decide) (fun c_119 => ?_) (fun c_119 => ?_)
                      · have gc_119 : l_39.toInt ≠ v_pieces.toInt := i_ne (rfl : l_39.toInt = l_39.toInt) (rfl : v_pieces.toInt = v_pieces.toInt) c_119
                        refine lv_ldcw hx hb hown (hts _ lwd_827) dX10_laysBest_69 ?_
                        refine as_m_toEnd (x := 1000000000) hx hb hK hP hD hS (i_in (rfl : r_114.toInt = r_114.toInt) (by omega) (by omega)) dX10_laysBest_72 (fun f_120 ef_120 H locs hP hD hS => ?_)
                        refine lv_iconst (v := 0) hx hb dX10_laysBest_73 (by decide) ?_
                        refine lv_istore (lv' := [(5, .int 0), (4, .int r_114), (3, .int l_100), (2, .int l_69), (1, .int l_39), (0, .ref (hm 0))]) hx hb dX10_laysBest_74 hl (by decide) rfl (fun ls hl => ?_)
                        have L76_149 : ∀ (n : Nat) (f_135 : Nat → Int32) (f_136 : Nat → Int32) (f_137 : Nat → Int32) (f_138 : Nat → Int32) (l_139 : Int32) (w_140 : Int32) (w_141 : Int32) (w_142 : Int32) (w_143 : Int32) (w_144 : Int32) (w_145 : Int32) (w_146 : Int32) (w_147 : Int32) (w_148 : Int32), (rg (0) 1 f_135) → (rg (0) 5 f_136) → (0 ≤ l_139.toInt ∧ l_139.toInt ≤ 18) → (0 ≤ w_146.toInt ∧ w_146.toInt ≤ 5) → (0 ≤ w_148.toInt ∧ w_148.toInt ≤ 60) → 19 - l_139.toInt < n → ∀ (H : Heap) (locs : List Loc) (ls : Array Slot), va_P D vwCl (wMD cy hm v_taped v_walkers v_loads v_pieces v_changeCosts v_planned v_isMarch v_clauseMany v_place v_end v_bad v_clauses v_codes v_open v_stacked v_isOver v_isBehind w_146 w_142 w_145 w_140 w_143 w_141 w_144 v_packing v_packed w_148 w_147 v_spentAt v_ranChanges f_m_tape f_m_knee f_m_weight f_m_isLame f_m_loadWeight f_m_owner f_m_food f_m_miles f_m_slope f_m_clauseLetter f_m_sumFrom f_m_codeFrom f_m_codeTo f_m_code f_m_codeArg f_m_newLetter f_m_newSum f_m_newFrom f_m_newTo f_m_newCode f_m_newArg f_m_stack f_138 f_135 f_m_least f_m_packPounds f_m_packOwner f_m_room f_m_givenTo f_m_canBe f_m_setPounds f_m_plainTime f_m_muleTime f_m_planTo f_m_march f_136 f_m_ranMinutes f_m_tiredAhead zisReached_15 f_137 f_m_upTo f_m_upNext f_m_byChanges f_m_bandPaces) H → va_D A (wMD cy hm v_taped v_walkers v_loads v_pieces v_changeCosts v_planned v_isMarch v_clauseMany v_place v_end v_bad v_clauses v_codes v_open v_stacked v_isOver v_isBehind w_146 w_142 w_145 w_140 w_143 w_141 w_144 v_packing v_packed w_148 w_147 v_spentAt v_ranChanges f_m_tape f_m_knee f_m_weight f_m_isLame f_m_loadWeight f_m_owner f_m_food f_m_miles f_m_slope f_m_clauseLetter f_m_sumFrom f_m_codeFrom f_m_codeTo f_m_code f_m_codeArg f_m_newLetter f_m_newSum f_m_newFrom f_m_newTo f_m_newCode f_m_newArg f_m_stack f_138 f_135 f_m_least f_m_packPounds f_m_packOwner f_m_room f_m_givenTo f_m_canBe f_m_setPounds f_m_plainTime f_m_muleTime f_m_planTo f_m_march f_136 f_m_ranMinutes f_m_tiredAhead zisReached_15 f_137 f_m_upTo f_m_upNext f_m_byChanges f_m_bandPaces) → va_S A s.heap H locs → lv_has ls 7 [(5, .int l_139), (4, .int r_114), (3, .int l_100), (2, .int l_69), (1, .int l_39), (0, .ref (hm 0))] → W p l e (gRm 9) s m args below meth c H locs 0 0 Q (F0 m 76 ls []) := by
                          intro n
                          induction n with
                          | zero => intro f_135 f_136 f_137 f_138 l_139 w_140 w_141 w_142 w_143 w_144 w_145 w_146 w_147 w_148 hL76_149_0 hL76_149_1 hL76_149_2 hL76_149_3 hL76_149_4 hm; exact absurd hm (by omega)
                          | succ n ih76_149 =>
                            intro f_135 f_136 f_137 f_138 l_139 w_140 w_141 w_142 w_143 w_144 w_145 w_146 w_147 w_148 hL76_149_0 hL76_149_1 hL76_149_2 hL76_149_3 hL76_149_4 hmL76_149 H locs ls hP hD hS hl
                            refine lv_iload hx hb dX10_laysBest_76 (lv_at hl 0 rfl) ?_
                            refine lv_bipush (v := 18) hx hb dX10_laysBest_78 (by decide) ?_
                            refine lv_icmp_ge (tgt := 139) hx hb dX10_laysBest_80 (by decide) (fun c_150 => ?_) (fun c_150 => ?_)
                            · have gc_150 : 18 ≤ l_139.toInt := i_le (by decide : (18 : Int32).toInt = 18) (rfl : l_139.toInt = l_139.toInt) c_150
                              obtain ⟨n_151, en_151⟩ : ∃ y : Int32, y = l_100 + 1 := ⟨_, rfl⟩
                              have tn_151 : n_151.toInt = l_100.toInt + 1 := i_add en_151 (rfl : l_100.toInt = l_100.toInt) (by decide : (1 : Int32).toInt = 1) (by omega) (by omega)
                              refine lv_iinc (v := n_151) (lv' := [(3, .int n_151), (5, .int l_139), (4, .int r_114), (2, .int l_69), (1, .int l_39), (0, .ref (hm 0))]) hx hb dX10_laysBest_139 hl (k := 2) rfl (by rw [en_151]; rfl) (by decide) rfl (fun ls hl => ?_)
                              refine lv_goto (tgt := 23) hx hb dX10_laysBest_142 (by decide) ?_
                              exact ih23_110 f_135 f_136 f_137 f_138 n_151 w_140 w_141 w_142 w_143 w_144 w_145 w_146 w_147 w_148 hL76_149_0 hL76_149_1 (by omega) (by omega) (by omega) (by omega) _ _ _ hP hD hS (lv_sub hl [0, 3, 4, 5] rfl)
                            · have gc_150 : l_139.toInt < 18 := i_nle (by decide : (18 : Int32).toInt = 18) (rfl : l_139.toInt = l_139.toInt) c_150
                              refine lv_iload_n hx hb dX10_laysBest_83 rfl (lv_at hl 4 rfl) ?_
                              refine lv_aload_n hx hb dX10_laysBest_84 rfl (lv_at hl 5 rfl) ?_
                              refine gt_MD_MD_pieces hx hb hts hown hK hP lwd_265 dX10_laysBest_85 ?_
                              refine lv_icmp_ge (tgt := 139) hx hb dX10_laysBest_88 (by decide) (fun c_152 => ?_) (fun c_152 => ?_)
                              · have gc_152 : v_pieces.toInt ≤ l_39.toInt := i_le (rfl : v_pieces.toInt = v_pieces.toInt) (rfl : l_39.toInt = l_39.toInt) c_152
                                obtain ⟨n_153, en_153⟩ : ∃ y : Int32, y = l_100 + 1 := ⟨_, rfl⟩
                                have tn_153 : n_153.toInt = l_100.toInt + 1 := i_add en_153 (rfl : l_100.toInt = l_100.toInt) (by decide : (1 : Int32).toInt = 1) (by omega) (by omega)
                                refine lv_iinc (v := n_153) (lv' := [(3, .int n_153), (5, .int l_139), (4, .int r_114), (2, .int l_69), (1, .int l_39), (0, .ref (hm 0))]) hx hb dX10_laysBest_139 hl (k := 2) rfl (by rw [en_153]; rfl) (by decide) rfl (fun ls hl => ?_)
                                refine lv_goto (tgt := 23) hx hb dX10_laysBest_142 (by decide) ?_
                                exact ih23_110 f_135 f_136 f_137 f_138 n_153 w_140 w_141 w_142 w_143 w_144 w_145 w_146 w_147 w_148 hL76_149_0 hL76_149_1 (by omega) (by omega) (by omega) (by omega) _ _ _ hP hD hS (lv_sub hl [0, 3, 4, 5] rfl)
                              · have gc_152 : l_39.toInt < v_pieces.toInt := i_nle (rfl : v_pieces.toInt = v_pieces.toInt) (rfl : l_39.toInt = l_39.toInt) c_152
                                refine lv_aload_n hx hb dX10_laysBest_91 rfl (lv_at hl 5 rfl) ?_
                                refine lv_iload_n hx hb dX10_laysBest_92 rfl (lv_at hl 4 rfl) ?_
                                refine lv_iload_n hx hb dX10_laysBest_93 rfl (lv_at hl 3 rfl) ?_
                                refine lv_iload_n hx hb dX10_laysBest_94 rfl (lv_at hl 2 rfl) ?_
                                refine lv_iload hx hb dX10_laysBest_95 (lv_at hl 0 rfl) ?_
                                refine xi hD hS hA (xV (As := [.int l_39, .int l_69, .int l_100, .int l_139]) (rest := []) hx hb hml hown hts hK hP hD hS hA NT_ok hN hAe hl.1 ⟨Nat.le_refl _, Nat.le_refl _⟩ 0 rfl rfl rfl (c_X10_endBy l D cy hm v_taped v_walkers v_loads v_pieces v_changeCosts v_planned v_isMarch v_clauseMany v_place v_end v_bad v_clauses v_codes v_open v_stacked v_isOver v_isBehind w_146 w_142 w_145 w_140 w_143 w_141 w_144 v_packing v_packed w_148 w_147 v_spentAt v_ranChanges f_m_tape f_m_knee f_m_weight f_m_isLame f_m_loadWeight f_m_owner f_m_food f_m_miles f_m_slope f_m_clauseLetter f_m_sumFrom f_m_codeFrom f_m_codeTo f_m_code f_m_codeArg f_m_newLetter f_m_newSum f_m_newFrom f_m_newTo f_m_newCode f_m_newArg f_m_stack f_138 f_135 f_m_least f_m_packPounds f_m_packOwner f_m_room f_m_givenTo f_m_canBe f_m_setPounds f_m_plainTime f_m_muleTime f_m_planTo f_m_march f_136 f_m_ranMinutes f_m_tiredAhead zisReached_15 f_137 f_m_upTo f_m_upNext f_m_byChanges f_m_bandPaces H.size l_39 l_69 l_100 l_139 (by omega) (by omega) (by omega) (by omega) (by omega) hr_m_weight hr_m_isLame hr_m_loadWeight hr_m_food hr_m_miles hL76_149_0 hL76_149_1 (by omega) (by omega) (by omega) (by omega) hwf (by omega)) (gi_V lwd_1123 lwd_1124 lwd_1125 lwd_5 lwd_1126) ⟨rfl, hd_X10_endBy⟩ ⟨Nat.le_of_ble_eq_true rfl, Nat.le_of_ble_eq_true rfl⟩ rfl (Nat.le_of_ble_eq_true rfl) dX10_laysBest_97) (fun r_155 u_154 H locs hw hP hD hS => ?_)
                                obtain ⟨zatW_156, zatL_157, zatT_158, zatH_159, zatM_160, zatI_161, zatQ_162, zgoPace_163, zgoMinutes_164, zworth_165, zisRefused_166, ztired_167⟩ := u_154
                                try dsimp only at hw hP hD
                                obtain ⟨p_168, p_169, p_170, p_171⟩ := hw
                                refine lv_istore (lv' := [(6, .int r_155), (5, .int l_139), (4, .int r_114), (3, .int l_100), (2, .int l_69), (1, .int l_39), (0, .ref (hm 0))]) hx hb dX10_laysBest_100 hl (by decide) rfl (fun ls hl => ?_)
                                refine lv_aload_n hx hb dX10_laysBest_102 rfl (lv_at hl 6 rfl) ?_
                                refine gt_MD_MD_toEnd hx hb hts hown hK hP lwd_196 dX10_laysBest_103 ?_
                                refine lv_iload hx hb dX10_laysBest_106 (lv_at hl 2 rfl) ?_
                                refine lv_iload hx hb dX10_laysBest_108 (lv_at hl 0 rfl) ?_
                                refine lv_aload_n hx hb dX10_laysBest_110 rfl (lv_at hl 6 rfl) ?_
                                refine gt_MD_MD_toEnd hx hb hts hown hK hP lwd_196 dX10_laysBest_111 ?_
                                refine lv_iload hx hb dX10_laysBest_114 (lv_at hl 2 rfl) ?_
                                refine al_m_toEnd hx hb hK hP (i_in (rfl : r_114.toInt = r_114.toInt) (by omega) (by omega)) dX10_laysBest_116 (fun n_172 en_172 => ?_)
                                refine lv_icmp_ge (tgt := 125) hx hb dX10_laysBest_117 (by decide) (fun c_173 => ?_) (fun c_173 => ?_)
                                · have gc_173 : n_172.toInt ≤ r_155.toInt := i_le (rfl : n_172.toInt = n_172.toInt) (rfl : r_155.toInt = r_155.toInt) c_173
                                  refine lv_aload_n hx hb dX10_laysBest_125 rfl (lv_at hl 6 rfl) ?_
                                  refine gt_MD_MD_toEnd hx hb hts hown hK hP lwd_196 dX10_laysBest_126 ?_
                                  refine lv_iload hx hb dX10_laysBest_129 (lv_at hl 2 rfl) ?_
                                  refine al_m_toEnd hx hb hK hP (i_in (rfl : r_114.toInt = r_114.toInt) (by omega) (by omega)) dX10_laysBest_131 (fun n_174 en_174 => ?_)
                                  obtain rfl : n_172 = n_174 := en_172.trans en_174.symm
                                  refine as_m_toEnd (x := n_172) hx hb hK hP hD hS (i_in (rfl : r_114.toInt = r_114.toInt) (by omega) (by omega)) dX10_laysBest_132 (fun f_175 ef_175 H locs hP hD hS => ?_)
                                  obtain ⟨n_176, en_176⟩ : ∃ y : Int32, y = l_139 + 1 := ⟨_, rfl⟩
                                  have tn_176 : n_176.toInt = l_139.toInt + 1 := i_add en_176 (rfl : l_139.toInt = l_139.toInt) (by decide : (1 : Int32).toInt = 1) (by omega) (by omega)
                                  refine lv_iinc (v := n_176) (lv' := [(5, .int n_176), (6, .int r_155), (4, .int r_114), (3, .int l_100), (2, .int l_69), (1, .int l_39), (0, .ref (hm 0))]) hx hb dX10_laysBest_133 hl (k := 1) rfl (by rw [en_176]; rfl) (by decide) rfl (fun ls hl => ?_)
                                  refine lv_goto (tgt := 76) hx hb dX10_laysBest_136 (by decide) ?_
                                  exact ih76_149 zisRefused_166 ztired_167 f_175 zworth_165 n_176 zatH_159 zatI_161 zatL_157 zatM_160 zatQ_162 zatT_158 zatW_156 zgoMinutes_164 zgoPace_163 p_170 p_171 (by omega) (by omega) (by omega) (by omega) _ _ _ hP hD hS (lv_sub hl [0, 2, 3, 4, 5, 6] rfl)
                                · have gc_173 : r_155.toInt < n_172.toInt := i_nle (rfl : n_172.toInt = n_172.toInt) (rfl : r_155.toInt = r_155.toInt) c_173
                                  refine lv_iload hx hb dX10_laysBest_120 (lv_at hl 0 rfl) ?_
                                  refine lv_goto (tgt := 132) hx hb dX10_laysBest_122 (by decide) ?_
                                  refine as_m_toEnd (x := r_155) hx hb hK hP hD hS (i_in (rfl : r_114.toInt = r_114.toInt) (by omega) (by omega)) dX10_laysBest_132 (fun f_177 ef_177 H locs hP hD hS => ?_)
                                  obtain ⟨n_178, en_178⟩ : ∃ y : Int32, y = l_139 + 1 := ⟨_, rfl⟩
                                  have tn_178 : n_178.toInt = l_139.toInt + 1 := i_add en_178 (rfl : l_139.toInt = l_139.toInt) (by decide : (1 : Int32).toInt = 1) (by omega) (by omega)
                                  refine lv_iinc (v := n_178) (lv' := [(5, .int n_178), (6, .int r_155), (4, .int r_114), (3, .int l_100), (2, .int l_69), (1, .int l_39), (0, .ref (hm 0))]) hx hb dX10_laysBest_133 hl (k := 1) rfl (by rw [en_178]; rfl) (by decide) rfl (fun ls hl => ?_)
                                  refine lv_goto (tgt := 76) hx hb dX10_laysBest_136 (by decide) ?_
                                  exact ih76_149 zisRefused_166 ztired_167 f_177 zworth_165 n_178 zatH_159 zatI_161 zatL_157 zatM_160 zatQ_162 zatT_158 zatW_156 zgoMinutes_164 zgoPace_163 p_170 p_171 (by omega) (by omega) (by omega) (by omega) _ _ _ hP hD hS (lv_sub hl [0, 2, 3, 4, 5, 6] rfl)
                        have k_179 : (0 : Int32).toInt = 0 := by decide
                        exact L76_149 8589934592 f_96 f_97 f_120 f_99 0 w_101 w_102 w_103 w_104 w_105 w_106 w_107 w_108 w_109 hL23_110_0 hL23_110_1 (by omega) (by omega) (by omega) (by omega) _ _ _ hP hD hS (lv_sub hl [0, 1, 2, 3, 4, 5] rfl)
                      · have gc_119 : l_39.toInt = v_pieces.toInt := i_eq (rfl : l_39.toInt = l_39.toInt) (rfl : v_pieces.toInt = v_pieces.toInt) c_119
                        refine lv_iconst (v := 0) hx hb dX10_laysBest_65 (by decide) ?_
                        refine lv_goto (tgt := 72) hx hb dX10_laysBest_66 (by decide) ?_
                        refine as_m_toEnd (x := 0) hx hb hK hP hD hS (i_in (rfl : r_114.toInt = r_114.toInt) (by omega) (by omega)) dX10_laysBest_72 (fun f_180 ef_180 H locs hP hD hS => ?_)
                        refine lv_iconst (v := 0) hx hb dX10_laysBest_73 (by decide) ?_
                        refine lv_istore (lv' := [(5, .int 0), (4, .int r_114), (3, .int l_100), (2, .int l_69), (1, .int l_39), (0, .ref (hm 0))]) hx hb dX10_laysBest_74 hl (by decide) rfl (fun ls hl => ?_)
                        have L76_209 : ∀ (n : Nat) (f_195 : Nat → Int32) (f_196 : Nat → Int32) (f_197 : Nat → Int32) (f_198 : Nat → Int32) (l_199 : Int32) (w_200 : Int32) (w_201 : Int32) (w_202 : Int32) (w_203 : Int32) (w_204 : Int32) (w_205 : Int32) (w_206 : Int32) (w_207 : Int32) (w_208 : Int32), (rg (0) 1 f_195) → (rg (0) 5 f_196) → (0 ≤ l_199.toInt ∧ l_199.toInt ≤ 18) → (0 ≤ w_206.toInt ∧ w_206.toInt ≤ 5) → (0 ≤ w_208.toInt ∧ w_208.toInt ≤ 60) → 19 - l_199.toInt < n → ∀ (H : Heap) (locs : List Loc) (ls : Array Slot), va_P D vwCl (wMD cy hm v_taped v_walkers v_loads v_pieces v_changeCosts v_planned v_isMarch v_clauseMany v_place v_end v_bad v_clauses v_codes v_open v_stacked v_isOver v_isBehind w_206 w_202 w_205 w_200 w_203 w_201 w_204 v_packing v_packed w_208 w_207 v_spentAt v_ranChanges f_m_tape f_m_knee f_m_weight f_m_isLame f_m_loadWeight f_m_owner f_m_food f_m_miles f_m_slope f_m_clauseLetter f_m_sumFrom f_m_codeFrom f_m_codeTo f_m_code f_m_codeArg f_m_newLetter f_m_newSum f_m_newFrom f_m_newTo f_m_newCode f_m_newArg f_m_stack f_198 f_195 f_m_least f_m_packPounds f_m_packOwner f_m_room f_m_givenTo f_m_canBe f_m_setPounds f_m_plainTime f_m_muleTime f_m_planTo f_m_march f_196 f_m_ranMinutes f_m_tiredAhead zisReached_15 f_197 f_m_upTo f_m_upNext f_m_byChanges f_m_bandPaces) H → va_D A (wMD cy hm v_taped v_walkers v_loads v_pieces v_changeCosts v_planned v_isMarch v_clauseMany v_place v_end v_bad v_clauses v_codes v_open v_stacked v_isOver v_isBehind w_206 w_202 w_205 w_200 w_203 w_201 w_204 v_packing v_packed w_208 w_207 v_spentAt v_ranChanges f_m_tape f_m_knee f_m_weight f_m_isLame f_m_loadWeight f_m_owner f_m_food f_m_miles f_m_slope f_m_clauseLetter f_m_sumFrom f_m_codeFrom f_m_codeTo f_m_code f_m_codeArg f_m_newLetter f_m_newSum f_m_newFrom f_m_newTo f_m_newCode f_m_newArg f_m_stack f_198 f_195 f_m_least f_m_packPounds f_m_packOwner f_m_room f_m_givenTo f_m_canBe f_m_setPounds f_m_plainTime f_m_muleTime f_m_planTo f_m_march f_196 f_m_ranMinutes f_m_tiredAhead zisReached_15 f_197 f_m_upTo f_m_upNext f_m_byChanges f_m_bandPaces) → va_S A s.heap H locs → lv_has ls 7 [(5, .int l_199), (4, .int r_114), (3, .int l_100), (2, .int l_69), (1, .int l_39), (0, .ref (hm 0))] → W p l e (gRm 9) s m args below meth c H locs 0 0 Q (F0 m 76 ls []) := by
                          intro n
                          induction n with
                          | zero => intro f_195 f_196 f_197 f_198 l_199 w_200 w_201 w_202 w_203 w_204 w_205 w_206 w_207 w_208 hL76_209_0 hL76_209_1 hL76_209_2 hL76_209_3 hL76_209_4 hm; exact absurd hm (by omega)
                          | succ n ih76_209 =>
                            intro f_195 f_196 f_197 f_198 l_199 w_200 w_201 w_202 w_203 w_204 w_205 w_206 w_207 w_208 hL76_209_0 hL76_209_1 hL76_209_2 hL76_209_3 hL76_209_4 hmL76_209 H locs ls hP hD hS hl
                            refine lv_iload hx hb dX10_laysBest_76 (lv_at hl 0 rfl) ?_
                            refine lv_bipush (v := 18) hx hb dX10_laysBest_78 (by decide) ?_
                            refine lv_icmp_ge (tgt := 139) hx hb dX10_laysBest_80 (by decide) (fun c_210 => ?_) (fun c_210 => ?_)
                            · have gc_210 : 18 ≤ l_199.toInt := i_le (by decide : (18 : Int32).toInt = 18) (rfl : l_199.toInt = l_199.toInt) c_210
                              obtain ⟨n_211, en_211⟩ : ∃ y : Int32, y = l_100 + 1 := ⟨_, rfl⟩
                              have tn_211 : n_211.toInt = l_100.toInt + 1 := i_add en_211 (rfl : l_100.toInt = l_100.toInt) (by decide : (1 : Int32).toInt = 1) (by omega) (by omega)
                              refine lv_iinc (v := n_211) (lv' := [(3, .int n_211), (5, .int l_199), (4, .int r_114), (2, .int l_69), (1, .int l_39), (0, .ref (hm 0))]) hx hb dX10_laysBest_139 hl (k := 2) rfl (by rw [en_211]; rfl) (by decide) rfl (fun ls hl => ?_)
                              refine lv_goto (tgt := 23) hx hb dX10_laysBest_142 (by decide) ?_
                              exact ih23_110 f_195 f_196 f_197 f_198 n_211 w_200 w_201 w_202 w_203 w_204 w_205 w_206 w_207 w_208 hL76_209_0 hL76_209_1 (by omega) (by omega) (by omega) (by omega) _ _ _ hP hD hS (lv_sub hl [0, 3, 4, 5] rfl)
                            · have gc_210 : l_199.toInt < 18 := i_nle (by decide : (18 : Int32).toInt = 18) (rfl : l_199.toInt = l_199.toInt) c_210
                              refine lv_iload_n hx hb dX10_laysBest_83 rfl (lv_at hl 4 rfl) ?_
                              refine lv_aload_n hx hb dX10_laysBest_84 rfl (lv_at hl 5 rfl) ?_
                              refine gt_MD_MD_pieces hx hb hts hown hK hP lwd_265 dX10_laysBest_85 ?_
                              refine lv_icmp_ge (tgt := 139) hx hb dX10_laysBest_88 (by decide) (fun c_212 => ?_) (fun c_212 => ?_)
                              · have gc_212 : v_pieces.toInt ≤ l_39.toInt := i_le (rfl : v_pieces.toInt = v_pieces.toInt) (rfl : l_39.toInt = l_39.toInt) c_212
                                obtain ⟨n_213, en_213⟩ : ∃ y : Int32, y = l_100 + 1 := ⟨_, rfl⟩
                                have tn_213 : n_213.toInt = l_100.toInt + 1 := i_add en_213 (rfl : l_100.toInt = l_100.toInt) (by decide : (1 : Int32).toInt = 1) (by omega) (by omega)
                                refine lv_iinc (v := n_213) (lv' := [(3, .int n_213), (5, .int l_199), (4, .int r_114), (2, .int l_69), (1, .int l_39), (0, .ref (hm 0))]) hx hb dX10_laysBest_139 hl (k := 2) rfl (by rw [en_213]; rfl) (by decide) rfl (fun ls hl => ?_)
                                refine lv_goto (tgt := 23) hx hb dX10_laysBest_142 (by decide) ?_
                                exact ih23_110 f_195 f_196 f_197 f_198 n_213 w_200 w_201 w_202 w_203 w_204 w_205 w_206 w_207 w_208 hL76_209_0 hL76_209_1 (by omega) (by omega) (by omega) (by omega) _ _ _ hP hD hS (lv_sub hl [0, 3, 4, 5] rfl)
                              · have gc_212 : l_39.toInt < v_pieces.toInt := i_nle (rfl : v_pieces.toInt = v_pieces.toInt) (rfl : l_39.toInt = l_39.toInt) c_212
                                refine lv_aload_n hx hb dX10_laysBest_91 rfl (lv_at hl 5 rfl) ?_
                                refine lv_iload_n hx hb dX10_laysBest_92 rfl (lv_at hl 4 rfl) ?_
                                refine lv_iload_n hx hb dX10_laysBest_93 rfl (lv_at hl 3 rfl) ?_
                                refine lv_iload_n hx hb dX10_laysBest_94 rfl (lv_at hl 2 rfl) ?_
                                refine lv_iload hx hb dX10_laysBest_95 (lv_at hl 0 rfl) ?_
                                refine xi hD hS hA (xV (As := [.int l_39, .int l_69, .int l_100, .int l_199]) (rest := []) hx hb hml hown hts hK hP hD hS hA NT_ok hN hAe hl.1 ⟨Nat.le_refl _, Nat.le_refl _⟩ 0 rfl rfl rfl (c_X10_endBy l D cy hm v_taped v_walkers v_loads v_pieces v_changeCosts v_planned v_isMarch v_clauseMany v_place v_end v_bad v_clauses v_codes v_open v_stacked v_isOver v_isBehind w_206 w_202 w_205 w_200 w_203 w_201 w_204 v_packing v_packed w_208 w_207 v_spentAt v_ranChanges f_m_tape f_m_knee f_m_weight f_m_isLame f_m_loadWeight f_m_owner f_m_food f_m_miles f_m_slope f_m_clauseLetter f_m_sumFrom f_m_codeFrom f_m_codeTo f_m_code f_m_codeArg f_m_newLetter f_m_newSum f_m_newFrom f_m_newTo f_m_newCode f_m_newArg f_m_stack f_198 f_195 f_m_least f_m_packPounds f_m_packOwner f_m_room f_m_givenTo f_m_canBe f_m_setPounds f_m_plainTime f_m_muleTime f_m_planTo f_m_march f_196 f_m_ranMinutes f_m_tiredAhead zisReached_15 f_197 f_m_upTo f_m_upNext f_m_byChanges f_m_bandPaces H.size l_39 l_69 l_100 l_199 (by omega) (by omega) (by omega) (by omega) (by omega) hr_m_weight hr_m_isLame hr_m_loadWeight hr_m_food hr_m_miles hL76_209_0 hL76_209_1 (by omega) (by omega) (by omega) (by omega) hwf (by omega)) (gi_V lwd_1123 lwd_1124 lwd_1125 lwd_5 lwd_1126) ⟨rfl, hd_X10_endBy⟩ ⟨Nat.le_of_ble_eq_true rfl, Nat.le_of_ble_eq_true rfl⟩ rfl (Nat.le_of_ble_eq_true rfl) dX10_laysBest_97) (fun r_215 u_214 H locs hw hP hD hS => ?_)
                                obtain ⟨zatW_216, zatL_217, zatT_218, zatH_219, zatM_220, zatI_221, zatQ_222, zgoPace_223, zgoMinutes_224, zworth_225, zisRefused_226, ztired_227⟩ := u_214
                                try dsimp only at hw hP hD
                                obtain ⟨p_228, p_229, p_230, p_231⟩ := hw
                                refine lv_istore (lv' := [(6, .int r_215), (5, .int l_199), (4, .int r_114), (3, .int l_100), (2, .int l_69), (1, .int l_39), (0, .ref (hm 0))]) hx hb dX10_laysBest_100 hl (by decide) rfl (fun ls hl => ?_)
                                refine lv_aload_n hx hb dX10_laysBest_102 rfl (lv_at hl 6 rfl) ?_
                                refine gt_MD_MD_toEnd hx hb hts hown hK hP lwd_196 dX10_laysBest_103 ?_
                                refine lv_iload hx hb dX10_laysBest_106 (lv_at hl 2 rfl) ?_
                                refine lv_iload hx hb dX10_laysBest_108 (lv_at hl 0 rfl) ?_
                                refine lv_aload_n hx hb dX10_laysBest_110 rfl (lv_at hl 6 rfl) ?_
                                refine gt_MD_MD_toEnd hx hb hts hown hK hP lwd_196 dX10_laysBest_111 ?_
                                refine lv_iload hx hb dX10_laysBest_114 (lv_at hl 2 rfl) ?_
                                refine al_m_toEnd hx hb hK hP (i_in (rfl : r_114.toInt = r_114.toInt) (by omega) (by omega)) dX10_laysBest_116 (fun n_232 en_232 => ?_)
                                refine lv_icmp_ge (tgt := 125) hx hb dX10_laysBest_117 (by decide) (fun c_233 => ?_) (fun c_233 => ?_)
                                · have gc_233 : n_232.toInt ≤ r_215.toInt := i_le (rfl : n_232.toInt = n_232.toInt) (rfl : r_215.toInt = r_215.toInt) c_233
                                  refine lv_aload_n hx hb dX10_laysBest_125 rfl (lv_at hl 6 rfl) ?_
                                  refine gt_MD_MD_toEnd hx hb hts hown hK hP lwd_196 dX10_laysBest_126 ?_
                                  refine lv_iload hx hb dX10_laysBest_129 (lv_at hl 2 rfl) ?_
                                  refine al_m_toEnd hx hb hK hP (i_in (rfl : r_114.toInt = r_114.toInt) (by omega) (by omega)) dX10_laysBest_131 (fun n_234 en_234 => ?_)
                                  obtain rfl : n_232 = n_234 := en_232.trans en_234.symm
                                  refine as_m_toEnd (x := n_232) hx hb hK hP hD hS (i_in (rfl : r_114.toInt = r_114.toInt) (by omega) (by omega)) dX10_laysBest_132 (fun f_235 ef_235 H locs hP hD hS => ?_)
                                  obtain ⟨n_236, en_236⟩ : ∃ y : Int32, y = l_199 + 1 := ⟨_, rfl⟩
                                  have tn_236 : n_236.toInt = l_199.toInt + 1 := i_add en_236 (rfl : l_199.toInt = l_199.toInt) (by decide : (1 : Int32).toInt = 1) (by omega) (by omega)
                                  refine lv_iinc (v := n_236) (lv' := [(5, .int n_236), (6, .int r_215), (4, .int r_114), (3, .int l_100), (2, .int l_69), (1, .int l_39), (0, .ref (hm 0))]) hx hb dX10_laysBest_133 hl (k := 1) rfl (by rw [en_236]; rfl) (by decide) rfl (fun ls hl => ?_)
                                  refine lv_goto (tgt := 76) hx hb dX10_laysBest_136 (by decide) ?_
                                  exact ih76_209 zisRefused_226 ztired_227 f_235 zworth_225 n_236 zatH_219 zatI_221 zatL_217 zatM_220 zatQ_222 zatT_218 zatW_216 zgoMinutes_224 zgoPace_223 p_230 p_231 (by omega) (by omega) (by omega) (by omega) _ _ _ hP hD hS (lv_sub hl [0, 2, 3, 4, 5, 6] rfl)
                                · have gc_233 : r_215.toInt < n_232.toInt := i_nle (rfl : n_232.toInt = n_232.toInt) (rfl : r_215.toInt = r_215.toInt) c_233
                                  refine lv_iload hx hb dX10_laysBest_120 (lv_at hl 0 rfl) ?_
                                  refine lv_goto (tgt := 132) hx hb dX10_laysBest_122 (by decide) ?_
                                  refine as_m_toEnd (x := r_215) hx hb hK hP hD hS (i_in (rfl : r_114.toInt = r_114.toInt) (by omega) (by omega)) dX10_laysBest_132 (fun f_237 ef_237 H locs hP hD hS => ?_)
                                  obtain ⟨n_238, en_238⟩ : ∃ y : Int32, y = l_199 + 1 := ⟨_, rfl⟩
                                  have tn_238 : n_238.toInt = l_199.toInt + 1 := i_add en_238 (rfl : l_199.toInt = l_199.toInt) (by decide : (1 : Int32).toInt = 1) (by omega) (by omega)
                                  refine lv_iinc (v := n_238) (lv' := [(5, .int n_238), (6, .int r_215), (4, .int r_114), (3, .int l_100), (2, .int l_69), (1, .int l_39), (0, .ref (hm 0))]) hx hb dX10_laysBest_133 hl (k := 1) rfl (by rw [en_238]; rfl) (by decide) rfl (fun ls hl => ?_)
                                  refine lv_goto (tgt := 76) hx hb dX10_laysBest_136 (by decide) ?_
                                  exact ih76_209 zisRefused_226 ztired_227 f_237 zworth_225 n_238 zatH_219 zatI_221 zatL_217 zatM_220 zatQ_222 zatT_218 zatW_216 zgoMinutes_224 zgoPace_223 p_230 p_231 (by omega) (by omega) (by omega) (by omega) _ _ _ hP hD hS (lv_sub hl [0, 2, 3, 4, 5, 6] rfl)
                        have k_239 : (0 : Int32).toInt = 0 := by decide
                        exact L76_209 8589934592 f_96 f_97 f_180 f_99 0 w_101 w_102 w_103 w_104 w_105 w_106 w_107 w_108 w_109 hL23_110_0 hL23_110_1 (by omega) (by omega) (by omega) (by omega) _ _ _ hP hD hS (lv_sub hl [0, 1, 2, 3, 4, 5] rfl)
                    · have gc_118 : n_117.toInt = 0 := i_eq (rfl : n_117.toInt = n_117.toInt) (by decide : (0 : Int32).toInt = 0) c_118
                      refine lv_goto (tgt := 139) hx hb dX10_laysBest_48 (by decide) ?_
                      obtain ⟨n_240, en_240⟩ : ∃ y : Int32, y = l_100 + 1 := ⟨_, rfl⟩
                      have tn_240 : n_240.toInt = l_100.toInt + 1 := i_add en_240 (rfl : l_100.toInt = l_100.toInt) (by decide : (1 : Int32).toInt = 1) (by omega) (by omega)
                      refine lv_iinc (v := n_240) (lv' := [(3, .int n_240), (4, .int r_114), (2, .int l_69), (1, .int l_39), (0, .ref (hm 0))]) hx hb dX10_laysBest_139 hl (k := 1) rfl (by rw [en_240]; rfl) (by decide) rfl (fun ls hl => ?_)
                      refine lv_goto (tgt := 23) hx hb dX10_laysBest_142 (by decide) ?_
                      exact ih23_110 f_96 f_97 f_98 f_99 n_240 w_101 w_102 w_103 w_104 w_105 w_106 w_107 w_108 w_109 hL23_110_0 hL23_110_1 (by omega) (by omega) (by omega) (by omega) _ _ _ hP hD hS (lv_sub hl [0, 2, 3, 4] rfl)
              have k_241 : (0 : Int32).toInt = 0 := by decide
              exact L23_110 8589934592 f_65 f_66 f_67 f_68 0 w_70 w_71 w_72 w_73 w_74 w_75 w_76 w_77 w_78 hL15_79_0 hL15_79_1 (by omega) (by omega) (by omega) (by omega) _ _ _ hP hD hS (lv_sub hl [0, 1, 2, 3] rfl)
        have k_242 : (0 : Int32).toInt = 0 := by decide
        exact L15_79 8589934592 f_35 f_36 f_37 f_38 0 w_40 w_41 w_42 w_43 w_44 w_45 w_46 w_47 w_48 hL9_49_0 hL9_49_1 (by omega) (by omega) (by omega) (by omega) _ _ _ hP hD hS (lv_sub hl [0, 1, 2] rfl)
  exact L9_49 8589934592 zisRefused_13 ztired_14 f_m_toEnd zworth_12 v_pieces zatH_6 zatI_8 zatL_4 zatM_7 zatQ_9 zatT_5 zatW_3 zgoMinutes_11 zgoPace_10 p_18 p_19 (by omega) (by omega) (by omega) (by omega) _ _ _ hP hD hS (lv_sub hl [0, 1] rfl)
set_option maxHeartbeats 16000000 in
set_option maxRecDepth 100000 in
theorem c_X10_goesFrom (l : Launch) (D : va_G) (cy : Nat → ClassId) (hm : Nat → Nat) (v_taped v_walkers v_loads v_pieces v_changeCosts v_planned v_isMarch v_clauseMany v_place v_end v_bad v_clauses v_codes v_open v_stacked v_isOver v_isBehind v_atW v_atL v_atT v_atH v_atM v_atI v_atQ v_packing v_packed v_goPace v_goMinutes v_spentAt v_ranChanges : Int32) (f_m_tape f_m_knee f_m_weight f_m_isLame f_m_loadWeight f_m_owner f_m_food f_m_miles f_m_slope f_m_clauseLetter f_m_sumFrom f_m_codeFrom f_m_codeTo f_m_code f_m_codeArg f_m_newLetter f_m_newSum f_m_newFrom f_m_newTo f_m_newCode f_m_newArg f_m_stack f_m_worth f_m_isRefused f_m_least f_m_packPounds f_m_packOwner f_m_room f_m_givenTo f_m_canBe f_m_setPounds f_m_plainTime f_m_muleTime f_m_planTo f_m_march f_m_tired f_m_ranMinutes f_m_tiredAhead f_m_isReached f_m_toEnd f_m_upTo f_m_upNext f_m_byChanges f_m_bandPaces : Nat → Int32) (sz : Nat) (i : Int32) (k : Int32) (t : Int32) (n1 : Int32) (hb_v_walkers : 0 ≤ v_walkers.toInt ∧ v_walkers.toInt ≤ 6) (hb_v_loads : 0 ≤ v_loads.toInt ∧ v_loads.toInt ≤ 9) (hb_v_clauseMany : 0 ≤ v_clauseMany.toInt ∧ v_clauseMany.toInt ≤ 14) (hb_v_atW : 0 ≤ v_atW.toInt ∧ v_atW.toInt ≤ 5) (hb_v_goPace : 0 ≤ v_goPace.toInt ∧ v_goPace.toInt ≤ 60) (hr_m_weight : rg (0) 250 f_m_weight) (hr_m_isLame : rg (0) 1 f_m_isLame) (hr_m_loadWeight : rg (0) 120 f_m_loadWeight) (hr_m_food : rg (0) 20 f_m_food) (hr_m_miles : rg (0) 20 f_m_miles) (hr_m_isRefused : rg (0) 1 f_m_isRefused) (hr_m_tired : rg (0) 5 f_m_tired) (ha_i : 0 ≤ i.toInt ∧ i.toInt ≤ 9) (ha_k : 0 ≤ k.toInt ∧ k.toInt ≤ 5) (ha_t : 0 ≤ t.toInt ∧ t.toInt ≤ 1295) (ha_n1 : 0 ≤ n1.toInt ∧ n1.toInt ≤ 9) (hwf : wfC v_clauseMany f_m_sumFrom f_m_codeFrom f_m_codeTo f_m_code) (hw4 : v_walkers.toInt ≤ 4) : gMv l yX10_goesFrom cX10_goesFrom 9 8 [.ref (hm 0), .int i, .int k, .int t, .int n1] D cy (wMD cy hm v_taped v_walkers v_loads v_pieces v_changeCosts v_planned v_isMarch v_clauseMany v_place v_end v_bad v_clauses v_codes v_open v_stacked v_isOver v_isBehind v_atW v_atL v_atT v_atH v_atM v_atI v_atQ v_packing v_packed v_goPace v_goMinutes v_spentAt v_ranChanges f_m_tape f_m_knee f_m_weight f_m_isLame f_m_loadWeight f_m_owner f_m_food f_m_miles f_m_slope f_m_clauseLetter f_m_sumFrom f_m_codeFrom f_m_codeTo f_m_code f_m_codeArg f_m_newLetter f_m_newSum f_m_newFrom f_m_newTo f_m_newCode f_m_newArg f_m_stack f_m_worth f_m_isRefused f_m_least f_m_packPounds f_m_packOwner f_m_room f_m_givenTo f_m_canBe f_m_setPounds f_m_plainTime f_m_muleTime f_m_planTo f_m_march f_m_tired f_m_ranMinutes f_m_tiredAhead f_m_isReached f_m_toEnd f_m_upTo f_m_upNext f_m_byChanges f_m_bandPaces) NT sz (fun (u : Int32 × Int32 × Int32 × Int32 × Int32 × Int32 × Int32 × Int32 × Int32 × (Nat → Int32) × (Nat → Int32) × (Nat → Int32) × (Nat → Int32)) => (0 ≤ (u.1).toInt ∧ (u.1).toInt ≤ 5) ∧ (0 ≤ (u.2.2.2.2.2.2.2.1).toInt ∧ (u.2.2.2.2.2.2.2.1).toInt ≤ 60) ∧ (rg (0) 1 (u.2.2.2.2.2.2.2.2.2.2.1)) ∧ (rg (0) 5 (u.2.2.2.2.2.2.2.2.2.2.2.1))) (fun u => wMD cy hm v_taped v_walkers v_loads v_pieces v_changeCosts v_planned v_isMarch v_clauseMany v_place v_end v_bad v_clauses v_codes v_open v_stacked v_isOver v_isBehind (u.1) (u.2.1) (u.2.2.1) (u.2.2.2.1) (u.2.2.2.2.1) (u.2.2.2.2.2.1) (u.2.2.2.2.2.2.1) v_packing v_packed (u.2.2.2.2.2.2.2.1) (u.2.2.2.2.2.2.2.2.1) v_spentAt v_ranChanges f_m_tape f_m_knee f_m_weight f_m_isLame f_m_loadWeight f_m_owner f_m_food f_m_miles f_m_slope f_m_clauseLetter f_m_sumFrom f_m_codeFrom f_m_codeTo f_m_code f_m_codeArg f_m_newLetter f_m_newSum f_m_newFrom f_m_newTo f_m_newCode f_m_newArg f_m_stack (u.2.2.2.2.2.2.2.2.2.1) (u.2.2.2.2.2.2.2.2.2.2.1) f_m_least f_m_packPounds f_m_packOwner f_m_room f_m_givenTo f_m_canBe f_m_setPounds f_m_plainTime f_m_muleTime f_m_planTo f_m_march (u.2.2.2.2.2.2.2.2.2.2.2.1) f_m_ranMinutes f_m_tiredAhead f_m_isReached f_m_toEnd f_m_upTo (u.2.2.2.2.2.2.2.2.2.2.2.2) f_m_byChanges f_m_bandPaces) := by
  refine gMv_in (by decide) (Nat.le_of_ble_eq_true rfl) ?_
  intro p e s m args below meth c A ls Q hx hb hml hts hown hsz hP hK hD hN hAe hA hS hl hret
  subst hsz
  have hl : lv_has ls 9 [(0, .ref (hm 0)), (1, .int i), (2, .int k), (3, .int t), (4, .int n1)] := hl
  have hrt := fun (v_atW' : Int32) (v_atL' : Int32) (v_atT' : Int32) (v_atH' : Int32) (v_atM' : Int32) (v_atI' : Int32) (v_atQ' : Int32) (v_goPace' : Int32) (v_goMinutes' : Int32) (f_m_worth' : Nat → Int32) (f_m_isRefused' : Nat → Int32) (f_m_tired' : Nat → Int32) (f_m_upNext' : Nat → Int32) (hp : (0 ≤ v_atW'.toInt ∧ v_atW'.toInt ≤ 5) ∧ (0 ≤ v_goPace'.toInt ∧ v_goPace'.toInt ≤ 60) ∧ (rg (0) 1 f_m_isRefused') ∧ (rg (0) 5 f_m_tired')) {H : Heap} {locs : List Loc} {pc : Nat} {ls : Array Slot} => hret (v_atW', v_atL', v_atT', v_atH', v_atM', v_atI', v_atQ', v_goPace', v_goMinutes', f_m_worth', f_m_isRefused', f_m_tired', f_m_upNext') (H := H) (locs := locs) (pc := pc) (ls := ls) hp
  clear hret
  refine lv_iload_n hx hb dX10_goesFrom_0 rfl (lv_at hl 1 rfl) ?_
  refine lv_if_ne (tgt := 8) hx hb dX10_goesFrom_1 (by decide) (fun c_1 => ?_) (fun c_1 => ?_)
  · have gc_1 : i.toInt ≠ 0 := i_ne (rfl : i.toInt = i.toInt) (by decide : (0 : Int32).toInt = 0) c_1
    refine lv_aload_n hx hb dX10_goesFrom_8 rfl (lv_at hl 0 rfl) ?_
    refine gt_MD_MD_upTo hx hb hts hown hK hP lwd_198 dX10_goesFrom_9 ?_
    refine lv_iload_n hx hb dX10_goesFrom_12 rfl (lv_at hl 2 rfl) ?_
    refine lv_iload_n hx hb dX10_goesFrom_13 rfl (lv_at hl 3 rfl) ?_
    refine lv_iload hx hb dX10_goesFrom_14 (lv_at hl 4 rfl) ?_
    refine xi hD hS hA (xS (As := [.int k, .int t, .int n1]) (rest := [.ref (hm 41)]) hx hb hml hown hts hK hP hD hS hA NT_ok hN hAe hl.1 ⟨Nat.le_refl _, Nat.le_refl _⟩ (c_X10_cellOf l D cy hm v_taped v_walkers v_loads v_pieces v_changeCosts v_planned v_isMarch v_clauseMany v_place v_end v_bad v_clauses v_codes v_open v_stacked v_isOver v_isBehind v_atW v_atL v_atT v_atH v_atM v_atI v_atQ v_packing v_packed v_goPace v_goMinutes v_spentAt v_ranChanges f_m_tape f_m_knee f_m_weight f_m_isLame f_m_loadWeight f_m_owner f_m_food f_m_miles f_m_slope f_m_clauseLetter f_m_sumFrom f_m_codeFrom f_m_codeTo f_m_code f_m_codeArg f_m_newLetter f_m_newSum f_m_newFrom f_m_newTo f_m_newCode f_m_newArg f_m_stack f_m_worth f_m_isRefused f_m_least f_m_packPounds f_m_packOwner f_m_room f_m_givenTo f_m_canBe f_m_setPounds f_m_plainTime f_m_muleTime f_m_planTo f_m_march f_m_tired f_m_ranMinutes f_m_tiredAhead f_m_isReached f_m_toEnd f_m_upTo f_m_upNext f_m_byChanges f_m_bandPaces s.heap.size k t n1 (by omega) (by omega) (by omega)) (gi_S lwd_1147 lwd_1148 lwd_5 lwd_1149) hd_X10_cellOf ⟨Nat.le_of_ble_eq_true rfl, Nat.le_of_ble_eq_true rfl⟩ rfl (Nat.le_of_ble_eq_true rfl) dX10_goesFrom_16) (fun r_3 u_2 H locs hw hP hD hS => ?_)
    try dsimp only at hw hP hD
    have p_4 := hw
    clear hw
    refine al_m_upTo hx hb hK hP (i_in (rfl : r_3.toInt = r_3.toInt) (by omega) (by omega)) dX10_goesFrom_19 (fun n_5 en_5 => ?_)
    refine lv_istore (lv' := [(5, .int n_5), (0, .ref (hm 0)), (1, .int i), (2, .int k), (3, .int t), (4, .int n1)]) hx hb dX10_goesFrom_20 hl (by decide) rfl (fun ls hl => ?_)
    refine lv_iconst (v := 0) hx hb dX10_goesFrom_22 (by decide) ?_
    refine lv_istore (lv' := [(6, .int 0), (5, .int n_5), (0, .ref (hm 0)), (1, .int i), (2, .int k), (3, .int t), (4, .int n1)]) hx hb dX10_goesFrom_23 hl (by decide) rfl (fun ls hl => ?_)
    have L25_34 : ∀ (n : Nat) (f_20 : Nat → Int32) (f_21 : Nat → Int32) (f_22 : Nat → Int32) (f_23 : Nat → Int32) (l_24 : Int32) (w_25 : Int32) (w_26 : Int32) (w_27 : Int32) (w_28 : Int32) (w_29 : Int32) (w_30 : Int32) (w_31 : Int32) (w_32 : Int32) (w_33 : Int32), (rg (0) 1 f_20) → (rg (0) 5 f_21) → (0 ≤ l_24.toInt ∧ l_24.toInt ≤ 18) → (0 ≤ w_31.toInt ∧ w_31.toInt ≤ 5) → (0 ≤ w_33.toInt ∧ w_33.toInt ≤ 60) → 19 - l_24.toInt < n → ∀ (H : Heap) (locs : List Loc) (ls : Array Slot), va_P D vwCl (wMD cy hm v_taped v_walkers v_loads v_pieces v_changeCosts v_planned v_isMarch v_clauseMany v_place v_end v_bad v_clauses v_codes v_open v_stacked v_isOver v_isBehind w_31 w_27 w_30 w_25 w_28 w_26 w_29 v_packing v_packed w_33 w_32 v_spentAt v_ranChanges f_m_tape f_m_knee f_m_weight f_m_isLame f_m_loadWeight f_m_owner f_m_food f_m_miles f_m_slope f_m_clauseLetter f_m_sumFrom f_m_codeFrom f_m_codeTo f_m_code f_m_codeArg f_m_newLetter f_m_newSum f_m_newFrom f_m_newTo f_m_newCode f_m_newArg f_m_stack f_23 f_20 f_m_least f_m_packPounds f_m_packOwner f_m_room f_m_givenTo f_m_canBe f_m_setPounds f_m_plainTime f_m_muleTime f_m_planTo f_m_march f_21 f_m_ranMinutes f_m_tiredAhead f_m_isReached f_m_toEnd f_m_upTo f_22 f_m_byChanges f_m_bandPaces) H → va_D A (wMD cy hm v_taped v_walkers v_loads v_pieces v_changeCosts v_planned v_isMarch v_clauseMany v_place v_end v_bad v_clauses v_codes v_open v_stacked v_isOver v_isBehind w_31 w_27 w_30 w_25 w_28 w_26 w_29 v_packing v_packed w_33 w_32 v_spentAt v_ranChanges f_m_tape f_m_knee f_m_weight f_m_isLame f_m_loadWeight f_m_owner f_m_food f_m_miles f_m_slope f_m_clauseLetter f_m_sumFrom f_m_codeFrom f_m_codeTo f_m_code f_m_codeArg f_m_newLetter f_m_newSum f_m_newFrom f_m_newTo f_m_newCode f_m_newArg f_m_stack f_23 f_20 f_m_least f_m_packPounds f_m_packOwner f_m_room f_m_givenTo f_m_canBe f_m_setPounds f_m_plainTime f_m_muleTime f_m_planTo f_m_march f_21 f_m_ranMinutes f_m_tiredAhead f_m_isReached f_m_toEnd f_m_upTo f_22 f_m_byChanges f_m_bandPaces) → va_S A s.heap H locs → lv_has ls 9 [(6, .int l_24), (5, .int n_5), (0, .ref (hm 0)), (1, .int i), (2, .int k), (3, .int t), (4, .int n1)] → W p l e (gRm 8) s m args below meth c H locs 0 0 Q (F0 m 25 ls []) := by
      intro n
      induction n with
      | zero => intro f_20 f_21 f_22 f_23 l_24 w_25 w_26 w_27 w_28 w_29 w_30 w_31 w_32 w_33 hL25_34_0 hL25_34_1 hL25_34_2 hL25_34_3 hL25_34_4 hm; exact absurd hm (by omega)
      | succ n ih25_34 =>
        intro f_20 f_21 f_22 f_23 l_24 w_25 w_26 w_27 w_28 w_29 w_30 w_31 w_32 w_33 hL25_34_0 hL25_34_1 hL25_34_2 hL25_34_3 hL25_34_4 hmL25_34 H locs ls hP hD hS hl
        refine lv_iload hx hb dX10_goesFrom_25 (lv_at hl 0 rfl) ?_
        refine lv_bipush (v := 18) hx hb dX10_goesFrom_27 (by decide) ?_
        refine lv_icmp_ge (tgt := 153) hx hb dX10_goesFrom_29 (by decide) (fun c_35 => ?_) (fun c_35 => ?_)
        · have gc_35 : 18 ≤ l_24.toInt := i_le (by decide : (18 : Int32).toInt = 18) (rfl : l_24.toInt = l_24.toInt) c_35
          exact hrt w_31 w_27 w_30 w_25 w_28 w_26 w_29 w_33 w_32 f_23 f_20 f_21 f_22 ⟨(by omega), (by omega), hL25_34_0, hL25_34_1⟩ hP hD hS dX10_goesFrom_153
        · have gc_35 : l_24.toInt < 18 := i_nle (by decide : (18 : Int32).toInt = 18) (rfl : l_24.toInt = l_24.toInt) c_35
          refine lv_iload_n hx hb dX10_goesFrom_32 rfl (lv_at hl 3 rfl) ?_
          refine lv_if_eq (tgt := 45) hx hb dX10_goesFrom_33 (by decide) (fun c_36 => ?_) (fun c_36 => ?_)
          · have gc_36 : i.toInt = 0 := i_eq (rfl : i.toInt = i.toInt) (by decide : (0 : Int32).toInt = 0) c_36
            exact absurd gc_36 (by omega)
          · have gc_36 : i.toInt ≠ 0 := i_ne (rfl : i.toInt = i.toInt) (by decide : (0 : Int32).toInt = 0) c_36
            refine lv_iload hx hb dX10_goesFrom_36 (lv_at hl 0 rfl) ?_
            refine lv_bipush (v := 6) hx hb dX10_goesFrom_38 (by decide) ?_
            refine lv_irem hx hb dX10_goesFrom_40 (by decide) ?_
            refine lv_topi (fun n_37 en_37 => ?_)
            have tn_37 : n_37.toInt = l_24.toInt % 6 := i_rem en_37 (rfl : l_24.toInt = l_24.toInt) (by decide : (6 : Int32).toInt = 6) (by omega) (by omega)
            refine lv_iload_n hx hb dX10_goesFrom_41 rfl (lv_at hl 4 rfl) ?_
            refine lv_icmp_ne (tgt := 50) hx hb dX10_goesFrom_42 (by decide) (fun c_38 => ?_) (fun c_38 => ?_)
            · have gc_38 : l_24.toInt % 6 ≠ k.toInt := i_ne tn_37 (rfl : k.toInt = k.toInt) c_38
              refine lv_iload hx hb dX10_goesFrom_50 (lv_at hl 6 rfl) ?_
              refine lv_iconst (v := 1) hx hb dX10_goesFrom_52 (by decide) ?_
              refine lv_iadd hx hb dX10_goesFrom_53 ?_
              refine lv_topi (fun n_39 en_39 => ?_)
              have tn_39 : n_39.toInt = n1.toInt + 1 := i_add en_39 (rfl : n1.toInt = n1.toInt) (by decide : (1 : Int32).toInt = 1) (by omega) (by omega)
              refine lv_istore (lv' := [(7, .int n_39), (6, .int l_24), (5, .int n_5), (0, .ref (hm 0)), (1, .int i), (2, .int k), (3, .int t), (4, .int n1)]) hx hb dX10_goesFrom_54 hl (by decide) rfl (fun ls hl => ?_)
              refine lv_aload_n hx hb dX10_goesFrom_56 rfl (lv_at hl 3 rfl) ?_
              refine lv_iload_n hx hb dX10_goesFrom_57 rfl (lv_at hl 6 rfl) ?_
              refine xv hD hS hA (xV (As := [.int t]) (rest := []) hx hb hml hown hts hK hP hD hS hA NT_ok hN hAe hl.1 ⟨Nat.le_refl _, Nat.le_refl _⟩ 0 rfl rfl rfl (c_X10_takesTired l D cy hm v_taped v_walkers v_loads v_pieces v_changeCosts v_planned v_isMarch v_clauseMany v_place v_end v_bad v_clauses v_codes v_open v_stacked v_isOver v_isBehind w_31 w_27 w_30 w_25 w_28 w_26 w_29 v_packing v_packed w_33 w_32 v_spentAt v_ranChanges f_m_tape f_m_knee f_m_weight f_m_isLame f_m_loadWeight f_m_owner f_m_food f_m_miles f_m_slope f_m_clauseLetter f_m_sumFrom f_m_codeFrom f_m_codeTo f_m_code f_m_codeArg f_m_newLetter f_m_newSum f_m_newFrom f_m_newTo f_m_newCode f_m_newArg f_m_stack f_23 f_20 f_m_least f_m_packPounds f_m_packOwner f_m_room f_m_givenTo f_m_canBe f_m_setPounds f_m_plainTime f_m_muleTime f_m_planTo f_m_march f_21 f_m_ranMinutes f_m_tiredAhead f_m_isReached f_m_toEnd f_m_upTo f_22 f_m_byChanges f_m_bandPaces H.size t hL25_34_1 (by omega)) (gi_V lwd_991 lwd_992 lwd_993 lwd_5 lwd_994) ⟨rfl, hd_X10_takesTired⟩ ⟨Nat.le_of_ble_eq_true rfl, Nat.le_of_ble_eq_true rfl⟩ rfl (Nat.le_of_ble_eq_true rfl) dX10_goesFrom_58) (fun u_40 H locs hw hP hD hS => ?_)
              obtain ⟨ztired_42, rfl⟩ : ∃ z, z = u_40 := ⟨_, rfl⟩
              try dsimp only at hw hP hD
              have p_43 := hw
              clear hw
              refine lv_aload_n hx hb dX10_goesFrom_61 rfl (lv_at hl 3 rfl) ?_
              refine lv_iload hx hb dX10_goesFrom_62 (lv_at hl 1 rfl) ?_
              refine xi hD hS hA (xV (As := [.int l_24]) (rest := []) hx hb hml hown hts hK hP hD hS hA NT_ok hN hAe hl.1 ⟨Nat.le_refl _, Nat.le_refl _⟩ 0 rfl rfl rfl (c_X10_mayAct l D cy hm v_taped v_walkers v_loads v_pieces v_changeCosts v_planned v_isMarch v_clauseMany v_place v_end v_bad v_clauses v_codes v_open v_stacked v_isOver v_isBehind w_31 w_27 w_30 w_25 w_28 w_26 w_29 v_packing v_packed w_33 w_32 v_spentAt v_ranChanges f_m_tape f_m_knee f_m_weight f_m_isLame f_m_loadWeight f_m_owner f_m_food f_m_miles f_m_slope f_m_clauseLetter f_m_sumFrom f_m_codeFrom f_m_codeTo f_m_code f_m_codeArg f_m_newLetter f_m_newSum f_m_newFrom f_m_newTo f_m_newCode f_m_newArg f_m_stack f_23 f_20 f_m_least f_m_packPounds f_m_packOwner f_m_room f_m_givenTo f_m_canBe f_m_setPounds f_m_plainTime f_m_muleTime f_m_planTo f_m_march ztired_42 f_m_ranMinutes f_m_tiredAhead f_m_isReached f_m_toEnd f_m_upTo f_22 f_m_byChanges f_m_bandPaces H.size l_24) (gi_V lwd_1119 lwd_1120 lwd_1121 lwd_5 lwd_1122) ⟨rfl, hd_X10_mayAct⟩ ⟨Nat.le_of_ble_eq_true rfl, Nat.le_of_ble_eq_true rfl⟩ rfl (Nat.le_of_ble_eq_true rfl) dX10_goesFrom_64) (fun r_45 u_44 H locs hw hP hD hS => ?_)
              try dsimp only at hw hP hD
              have p_46 := hw
              clear hw
              refine lv_if_eq (tgt := 147) hx hb dX10_goesFrom_67 (by decide) (fun c_47 => ?_) (fun c_47 => ?_)
              · have gc_47 : r_45.toInt = 0 := i_eq (rfl : r_45.toInt = r_45.toInt) (by decide : (0 : Int32).toInt = 0) c_47
                obtain ⟨n_48, en_48⟩ : ∃ y : Int32, y = l_24 + 1 := ⟨_, rfl⟩
                have tn_48 : n_48.toInt = l_24.toInt + 1 := i_add en_48 (rfl : l_24.toInt = l_24.toInt) (by decide : (1 : Int32).toInt = 1) (by omega) (by omega)
                refine lv_iinc (v := n_48) (lv' := [(6, .int n_48), (7, .int n_39), (5, .int n_5), (0, .ref (hm 0)), (1, .int i), (2, .int k), (3, .int t), (4, .int n1)]) hx hb dX10_goesFrom_147 hl (k := 1) rfl (by rw [en_48]; rfl) (by decide) rfl (fun ls hl => ?_)
                refine lv_goto (tgt := 25) hx hb dX10_goesFrom_150 (by decide) ?_
                exact ih25_34 f_20 ztired_42 f_22 f_23 n_48 w_25 w_26 w_27 w_28 w_29 w_30 w_31 w_32 w_33 hL25_34_0 p_43 (by omega) (by omega) (by omega) (by omega) _ _ _ hP hD hS (lv_sub hl [0, 2, 3, 4, 5, 6, 7] rfl)
              · have gc_47 : r_45.toInt ≠ 0 := i_ne (rfl : r_45.toInt = r_45.toInt) (by decide : (0 : Int32).toInt = 0) c_47
                refine lv_iload hx hb dX10_goesFrom_70 (lv_at hl 0 rfl) ?_
                refine lv_bipush (v := 10) hx hb dX10_goesFrom_72 (by decide) ?_
                refine lv_icmp_ge (tgt := 147) hx hb dX10_goesFrom_74 (by decide) (fun c_49 => ?_) (fun c_49 => ?_)
                · have gc_49 : 10 ≤ n1.toInt + 1 := i_le (by decide : (10 : Int32).toInt = 10) tn_39 c_49
                  obtain ⟨n_50, en_50⟩ : ∃ y : Int32, y = l_24 + 1 := ⟨_, rfl⟩
                  have tn_50 : n_50.toInt = l_24.toInt + 1 := i_add en_50 (rfl : l_24.toInt = l_24.toInt) (by decide : (1 : Int32).toInt = 1) (by omega) (by omega)
                  refine lv_iinc (v := n_50) (lv' := [(6, .int n_50), (7, .int n_39), (5, .int n_5), (0, .ref (hm 0)), (1, .int i), (2, .int k), (3, .int t), (4, .int n1)]) hx hb dX10_goesFrom_147 hl (k := 1) rfl (by rw [en_50]; rfl) (by decide) rfl (fun ls hl => ?_)
                  refine lv_goto (tgt := 25) hx hb dX10_goesFrom_150 (by decide) ?_
                  exact ih25_34 f_20 ztired_42 f_22 f_23 n_50 w_25 w_26 w_27 w_28 w_29 w_30 w_31 w_32 w_33 hL25_34_0 p_43 (by omega) (by omega) (by omega) (by omega) _ _ _ hP hD hS (lv_sub hl [0, 2, 3, 4, 5, 6, 7] rfl)
                · have gc_49 : n1.toInt + 1 < 10 := i_nle (by decide : (10 : Int32).toInt = 10) tn_39 c_49
                  refine lv_aload_n hx hb dX10_goesFrom_77 rfl (lv_at hl 3 rfl) ?_
                  refine lv_iload_n hx hb dX10_goesFrom_78 rfl (lv_at hl 4 rfl) ?_
                  refine lv_iload hx hb dX10_goesFrom_79 (lv_at hl 1 rfl) ?_
                  refine xi hD hS hA (xV (As := [.int i, .int l_24]) (rest := []) hx hb hml hown hts hK hP hD hS hA NT_ok hN hAe hl.1 ⟨Nat.le_refl _, Nat.le_refl _⟩ 0 rfl rfl rfl (c_X10_goesOver l D cy hm v_taped v_walkers v_loads v_pieces v_changeCosts v_planned v_isMarch v_clauseMany v_place v_end v_bad v_clauses v_codes v_open v_stacked v_isOver v_isBehind w_31 w_27 w_30 w_25 w_28 w_26 w_29 v_packing v_packed w_33 w_32 v_spentAt v_ranChanges f_m_tape f_m_knee f_m_weight f_m_isLame f_m_loadWeight f_m_owner f_m_food f_m_miles f_m_slope f_m_clauseLetter f_m_sumFrom f_m_codeFrom f_m_codeTo f_m_code f_m_codeArg f_m_newLetter f_m_newSum f_m_newFrom f_m_newTo f_m_newCode f_m_newArg f_m_stack f_23 f_20 f_m_least f_m_packPounds f_m_packOwner f_m_room f_m_givenTo f_m_canBe f_m_setPounds f_m_plainTime f_m_muleTime f_m_planTo f_m_march ztired_42 f_m_ranMinutes f_m_tiredAhead f_m_isReached f_m_toEnd f_m_upTo f_22 f_m_byChanges f_m_bandPaces H.size i l_24 (by omega) (by omega) (by omega) (by omega) (by omega) hr_m_weight hr_m_isLame hr_m_loadWeight hr_m_food hr_m_miles hL25_34_0 p_43 (by omega) (by omega) hwf) (gi_V lwd_995 lwd_996 lwd_997 lwd_5 lwd_998) ⟨rfl, hd_X10_goesOver⟩ ⟨Nat.le_of_ble_eq_true rfl, Nat.le_of_ble_eq_true rfl⟩ rfl (Nat.le_of_ble_eq_true rfl) dX10_goesFrom_81) (fun r_52 u_51 H locs hw hP hD hS => ?_)
                  obtain ⟨zatW_53, zatL_54, zatT_55, zatH_56, zatM_57, zatI_58, zatQ_59, zgoPace_60, zgoMinutes_61, zworth_62, zisRefused_63, ztired_64⟩ := u_51
                  try dsimp only at hw hP hD
                  obtain ⟨p_65, p_66, p_67, p_68, p_69⟩ := hw
                  refine lv_if_ne (tgt := 90) hx hb dX10_goesFrom_84 (by decide) (fun c_70 => ?_) (fun c_70 => ?_)
                  · have gc_70 : r_52.toInt ≠ 0 := i_ne (rfl : r_52.toInt = r_52.toInt) (by decide : (0 : Int32).toInt = 0) c_70
                    refine lv_iload hx hb dX10_goesFrom_90 (lv_at hl 1 rfl) ?_
                    refine lv_bipush (v := 6) hx hb dX10_goesFrom_92 (by decide) ?_
                    refine lv_irem hx hb dX10_goesFrom_94 (by decide) ?_
                    refine lv_topi (fun n_71 en_71 => ?_)
                    have tn_71 : n_71.toInt = l_24.toInt % 6 := i_rem en_71 (rfl : l_24.toInt = l_24.toInt) (by decide : (6 : Int32).toInt = 6) (by omega) (by omega)
                    refine lv_aload_n hx hb dX10_goesFrom_95 rfl (lv_at hl 3 rfl) ?_
                    refine xi hD hS hA (xV (As := []) (rest := [.int n_71]) hx hb hml hown hts hK hP hD hS hA NT_ok hN hAe hl.1 ⟨Nat.le_refl _, Nat.le_refl _⟩ 0 rfl rfl rfl (c_X10_allTired l D cy hm v_taped v_walkers v_loads v_pieces v_changeCosts v_planned v_isMarch v_clauseMany v_place v_end v_bad v_clauses v_codes v_open v_stacked v_isOver v_isBehind zatW_53 zatL_54 zatT_55 zatH_56 zatM_57 zatI_58 zatQ_59 v_packing v_packed zgoPace_60 zgoMinutes_61 v_spentAt v_ranChanges f_m_tape f_m_knee f_m_weight f_m_isLame f_m_loadWeight f_m_owner f_m_food f_m_miles f_m_slope f_m_clauseLetter f_m_sumFrom f_m_codeFrom f_m_codeTo f_m_code f_m_codeArg f_m_newLetter f_m_newSum f_m_newFrom f_m_newTo f_m_newCode f_m_newArg f_m_stack zworth_62 zisRefused_63 f_m_least f_m_packPounds f_m_packOwner f_m_room f_m_givenTo f_m_canBe f_m_setPounds f_m_plainTime f_m_muleTime f_m_planTo f_m_march ztired_64 f_m_ranMinutes f_m_tiredAhead f_m_isReached f_m_toEnd f_m_upTo f_22 f_m_byChanges f_m_bandPaces H.size (by omega) p_69) (gi_V lwd_1016 lwd_1017 lwd_1018 lwd_5 lwd_1019) ⟨rfl, hd_X10_allTired⟩ ⟨Nat.le_of_ble_eq_true rfl, Nat.le_of_ble_eq_true rfl⟩ rfl (Nat.le_of_ble_eq_true rfl) dX10_goesFrom_96) (fun r_73 u_72 H locs hw hP hD hS => ?_)
                    try dsimp only at hw hP hD
                    obtain ⟨p_74, p_75⟩ := hw
                    refine lv_iload hx hb dX10_goesFrom_99 (lv_at hl 0 rfl) ?_
                    refine xi hD hS hA (xS (As := [.int n_71, .int r_73, .int n_39]) (rest := []) hx hb hml hown hts hK hP hD hS hA NT_ok hN hAe hl.1 ⟨Nat.le_refl _, Nat.le_refl _⟩ (c_X10_cellOf l D cy hm v_taped v_walkers v_loads v_pieces v_changeCosts v_planned v_isMarch v_clauseMany v_place v_end v_bad v_clauses v_codes v_open v_stacked v_isOver v_isBehind zatW_53 zatL_54 zatT_55 zatH_56 zatM_57 zatI_58 zatQ_59 v_packing v_packed zgoPace_60 zgoMinutes_61 v_spentAt v_ranChanges f_m_tape f_m_knee f_m_weight f_m_isLame f_m_loadWeight f_m_owner f_m_food f_m_miles f_m_slope f_m_clauseLetter f_m_sumFrom f_m_codeFrom f_m_codeTo f_m_code f_m_codeArg f_m_newLetter f_m_newSum f_m_newFrom f_m_newTo f_m_newCode f_m_newArg f_m_stack zworth_62 zisRefused_63 f_m_least f_m_packPounds f_m_packOwner f_m_room f_m_givenTo f_m_canBe f_m_setPounds f_m_plainTime f_m_muleTime f_m_planTo f_m_march ztired_64 f_m_ranMinutes f_m_tiredAhead f_m_isReached f_m_toEnd f_m_upTo f_22 f_m_byChanges f_m_bandPaces H.size n_71 r_73 n_39 (by omega) (by omega) (by omega)) (gi_S lwd_1147 lwd_1148 lwd_5 lwd_1149) hd_X10_cellOf ⟨Nat.le_of_ble_eq_true rfl, Nat.le_of_ble_eq_true rfl⟩ rfl (Nat.le_of_ble_eq_true rfl) dX10_goesFrom_101) (fun r_77 u_76 H locs hw hP hD hS => ?_)
                    try dsimp only at hw hP hD
                    have p_78 := hw
                    clear hw
                    refine lv_istore (lv' := [(8, .int r_77), (7, .int n_39), (6, .int l_24), (5, .int n_5), (0, .ref (hm 0)), (1, .int i), (2, .int k), (3, .int t), (4, .int n1)]) hx hb dX10_goesFrom_104 hl (by decide) rfl (fun ls hl => ?_)
                    refine lv_aload_n hx hb dX10_goesFrom_106 rfl (lv_at hl 4 rfl) ?_
                    refine gt_MD_MD_upNext hx hb hts hown hK hP lwd_199 dX10_goesFrom_107 ?_
                    refine lv_iload hx hb dX10_goesFrom_110 (lv_at hl 0 rfl) ?_
                    refine lv_iload hx hb dX10_goesFrom_112 (lv_at hl 3 rfl) ?_
                    refine lv_aload_n hx hb dX10_goesFrom_114 rfl (lv_at hl 4 rfl) ?_
                    refine gt_MD_MD_goMinutes hx hb hts hown hK hP lwd_990 dX10_goesFrom_115 ?_
                    refine lv_iadd hx hb dX10_goesFrom_118 ?_
                    refine lv_topi (fun n_79 en_79 => ?_)
                    refine lv_aload_n hx hb dX10_goesFrom_119 rfl (lv_at hl 4 rfl) ?_
                    refine gt_MD_MD_upNext hx hb hts hown hK hP lwd_199 dX10_goesFrom_120 ?_
                    refine lv_iload hx hb dX10_goesFrom_123 (lv_at hl 0 rfl) ?_
                    refine al_m_upNext hx hb hK hP (i_in (rfl : r_77.toInt = r_77.toInt) (by omega) (by omega)) dX10_goesFrom_125 (fun n_80 en_80 => ?_)
                    refine lv_icmp_ge (tgt := 139) hx hb dX10_goesFrom_126 (by decide) (fun c_81 => ?_) (fun c_81 => ?_)
                    · have gc_81 : n_80.toInt ≤ n_79.toInt := i_le (rfl : n_80.toInt = n_80.toInt) (rfl : n_79.toInt = n_79.toInt) c_81
                      refine lv_aload_n hx hb dX10_goesFrom_139 rfl (lv_at hl 4 rfl) ?_
                      refine gt_MD_MD_upNext hx hb hts hown hK hP lwd_199 dX10_goesFrom_140 ?_
                      refine lv_iload hx hb dX10_goesFrom_143 (lv_at hl 0 rfl) ?_
                      refine al_m_upNext hx hb hK hP (i_in (rfl : r_77.toInt = r_77.toInt) (by omega) (by omega)) dX10_goesFrom_145 (fun n_82 en_82 => ?_)
                      obtain rfl : n_80 = n_82 := en_80.trans en_82.symm
                      refine as_m_upNext (x := n_80) hx hb hK hP hD hS (i_in (rfl : r_77.toInt = r_77.toInt) (by omega) (by omega)) dX10_goesFrom_146 (fun f_83 ef_83 H locs hP hD hS => ?_)
                      obtain ⟨n_84, en_84⟩ : ∃ y : Int32, y = l_24 + 1 := ⟨_, rfl⟩
                      have tn_84 : n_84.toInt = l_24.toInt + 1 := i_add en_84 (rfl : l_24.toInt = l_24.toInt) (by decide : (1 : Int32).toInt = 1) (by omega) (by omega)
                      refine lv_iinc (v := n_84) (lv' := [(6, .int n_84), (8, .int r_77), (7, .int n_39), (5, .int n_5), (0, .ref (hm 0)), (1, .int i), (2, .int k), (3, .int t), (4, .int n1)]) hx hb dX10_goesFrom_147 hl (k := 2) rfl (by rw [en_84]; rfl) (by decide) rfl (fun ls hl => ?_)
                      refine lv_goto (tgt := 25) hx hb dX10_goesFrom_150 (by decide) ?_
                      exact ih25_34 zisRefused_63 ztired_64 f_83 zworth_62 n_84 zatH_56 zatI_58 zatL_54 zatM_57 zatQ_59 zatT_55 zatW_53 zgoMinutes_61 zgoPace_60 p_68 p_69 (by omega) (by omega) (by omega) (by omega) _ _ _ hP hD hS (lv_sub hl [0, 3, 4, 5, 6, 7, 8] rfl)
                    · have gc_81 : n_79.toInt < n_80.toInt := i_nle (rfl : n_80.toInt = n_80.toInt) (rfl : n_79.toInt = n_79.toInt) c_81
                      refine lv_iload hx hb dX10_goesFrom_129 (lv_at hl 3 rfl) ?_
                      refine lv_aload_n hx hb dX10_goesFrom_131 rfl (lv_at hl 4 rfl) ?_
                      refine gt_MD_MD_goMinutes hx hb hts hown hK hP lwd_990 dX10_goesFrom_132 ?_
                      refine lv_iadd hx hb dX10_goesFrom_135 ?_
                      refine lv_topi (fun n_85 en_85 => ?_)
                      obtain rfl : n_79 = n_85 := en_79.trans en_85.symm
                      refine lv_goto (tgt := 146) hx hb dX10_goesFrom_136 (by decide) ?_
                      refine as_m_upNext (x := n_79) hx hb hK hP hD hS (i_in (rfl : r_77.toInt = r_77.toInt) (by omega) (by omega)) dX10_goesFrom_146 (fun f_86 ef_86 H locs hP hD hS => ?_)
                      obtain ⟨n_87, en_87⟩ : ∃ y : Int32, y = l_24 + 1 := ⟨_, rfl⟩
                      have tn_87 : n_87.toInt = l_24.toInt + 1 := i_add en_87 (rfl : l_24.toInt = l_24.toInt) (by decide : (1 : Int32).toInt = 1) (by omega) (by omega)
                      refine lv_iinc (v := n_87) (lv' := [(6, .int n_87), (8, .int r_77), (7, .int n_39), (5, .int n_5), (0, .ref (hm 0)), (1, .int i), (2, .int k), (3, .int t), (4, .int n1)]) hx hb dX10_goesFrom_147 hl (k := 2) rfl (by rw [en_87]; rfl) (by decide) rfl (fun ls hl => ?_)
                      refine lv_goto (tgt := 25) hx hb dX10_goesFrom_150 (by decide) ?_
                      exact ih25_34 zisRefused_63 ztired_64 f_86 zworth_62 n_87 zatH_56 zatI_58 zatL_54 zatM_57 zatQ_59 zatT_55 zatW_53 zgoMinutes_61 zgoPace_60 p_68 p_69 (by omega) (by omega) (by omega) (by omega) _ _ _ hP hD hS (lv_sub hl [0, 3, 4, 5, 6, 7, 8] rfl)
                  · have gc_70 : r_52.toInt = 0 := i_eq (rfl : r_52.toInt = r_52.toInt) (by decide : (0 : Int32).toInt = 0) c_70
                    refine lv_goto (tgt := 147) hx hb dX10_goesFrom_87 (by decide) ?_
                    obtain ⟨n_88, en_88⟩ : ∃ y : Int32, y = l_24 + 1 := ⟨_, rfl⟩
                    have tn_88 : n_88.toInt = l_24.toInt + 1 := i_add en_88 (rfl : l_24.toInt = l_24.toInt) (by decide : (1 : Int32).toInt = 1) (by omega) (by omega)
                    refine lv_iinc (v := n_88) (lv' := [(6, .int n_88), (7, .int n_39), (5, .int n_5), (0, .ref (hm 0)), (1, .int i), (2, .int k), (3, .int t), (4, .int n1)]) hx hb dX10_goesFrom_147 hl (k := 1) rfl (by rw [en_88]; rfl) (by decide) rfl (fun ls hl => ?_)
                    refine lv_goto (tgt := 25) hx hb dX10_goesFrom_150 (by decide) ?_
                    exact ih25_34 zisRefused_63 ztired_64 f_22 zworth_62 n_88 zatH_56 zatI_58 zatL_54 zatM_57 zatQ_59 zatT_55 zatW_53 zgoMinutes_61 zgoPace_60 p_68 p_69 (by omega) (by omega) (by omega) (by omega) _ _ _ hP hD hS (lv_sub hl [0, 2, 3, 4, 5, 6, 7] rfl)
            · have gc_38 : l_24.toInt % 6 = k.toInt := i_eq tn_37 (rfl : k.toInt = k.toInt) c_38
              refine lv_iload hx hb dX10_goesFrom_45 (lv_at hl 6 rfl) ?_
              refine lv_goto (tgt := 54) hx hb dX10_goesFrom_47 (by decide) ?_
              refine lv_istore (lv' := [(7, .int n1), (6, .int l_24), (5, .int n_5), (0, .ref (hm 0)), (1, .int i), (2, .int k), (3, .int t), (4, .int n1)]) hx hb dX10_goesFrom_54 hl (by decide) rfl (fun ls hl => ?_)
              refine lv_aload_n hx hb dX10_goesFrom_56 rfl (lv_at hl 3 rfl) ?_
              refine lv_iload_n hx hb dX10_goesFrom_57 rfl (lv_at hl 6 rfl) ?_
              refine xv hD hS hA (xV (As := [.int t]) (rest := []) hx hb hml hown hts hK hP hD hS hA NT_ok hN hAe hl.1 ⟨Nat.le_refl _, Nat.le_refl _⟩ 0 rfl rfl rfl (c_X10_takesTired l D cy hm v_taped v_walkers v_loads v_pieces v_changeCosts v_planned v_isMarch v_clauseMany v_place v_end v_bad v_clauses v_codes v_open v_stacked v_isOver v_isBehind w_31 w_27 w_30 w_25 w_28 w_26 w_29 v_packing v_packed w_33 w_32 v_spentAt v_ranChanges f_m_tape f_m_knee f_m_weight f_m_isLame f_m_loadWeight f_m_owner f_m_food f_m_miles f_m_slope f_m_clauseLetter f_m_sumFrom f_m_codeFrom f_m_codeTo f_m_code f_m_codeArg f_m_newLetter f_m_newSum f_m_newFrom f_m_newTo f_m_newCode f_m_newArg f_m_stack f_23 f_20 f_m_least f_m_packPounds f_m_packOwner f_m_room f_m_givenTo f_m_canBe f_m_setPounds f_m_plainTime f_m_muleTime f_m_planTo f_m_march f_21 f_m_ranMinutes f_m_tiredAhead f_m_isReached f_m_toEnd f_m_upTo f_22 f_m_byChanges f_m_bandPaces H.size t hL25_34_1 (by omega)) (gi_V lwd_991 lwd_992 lwd_993 lwd_5 lwd_994) ⟨rfl, hd_X10_takesTired⟩ ⟨Nat.le_of_ble_eq_true rfl, Nat.le_of_ble_eq_true rfl⟩ rfl (Nat.le_of_ble_eq_true rfl) dX10_goesFrom_58) (fun u_89 H locs hw hP hD hS => ?_)
              obtain ⟨ztired_91, rfl⟩ : ∃ z, z = u_89 := ⟨_, rfl⟩
              try dsimp only at hw hP hD
              have p_92 := hw
              clear hw
              refine lv_aload_n hx hb dX10_goesFrom_61 rfl (lv_at hl 3 rfl) ?_
              refine lv_iload hx hb dX10_goesFrom_62 (lv_at hl 1 rfl) ?_
              refine xi hD hS hA (xV (As := [.int l_24]) (rest := []) hx hb hml hown hts hK hP hD hS hA NT_ok hN hAe hl.1 ⟨Nat.le_refl _, Nat.le_refl _⟩ 0 rfl rfl rfl (c_X10_mayAct l D cy hm v_taped v_walkers v_loads v_pieces v_changeCosts v_planned v_isMarch v_clauseMany v_place v_end v_bad v_clauses v_codes v_open v_stacked v_isOver v_isBehind w_31 w_27 w_30 w_25 w_28 w_26 w_29 v_packing v_packed w_33 w_32 v_spentAt v_ranChanges f_m_tape f_m_knee f_m_weight f_m_isLame f_m_loadWeight f_m_owner f_m_food f_m_miles f_m_slope f_m_clauseLetter f_m_sumFrom f_m_codeFrom f_m_codeTo f_m_code f_m_codeArg f_m_newLetter f_m_newSum f_m_newFrom f_m_newTo f_m_newCode f_m_newArg f_m_stack f_23 f_20 f_m_least f_m_packPounds f_m_packOwner f_m_room f_m_givenTo f_m_canBe f_m_setPounds f_m_plainTime f_m_muleTime f_m_planTo f_m_march ztired_91 f_m_ranMinutes f_m_tiredAhead f_m_isReached f_m_toEnd f_m_upTo f_22 f_m_byChanges f_m_bandPaces H.size l_24) (gi_V lwd_1119 lwd_1120 lwd_1121 lwd_5 lwd_1122) ⟨rfl, hd_X10_mayAct⟩ ⟨Nat.le_of_ble_eq_true rfl, Nat.le_of_ble_eq_true rfl⟩ rfl (Nat.le_of_ble_eq_true rfl) dX10_goesFrom_64) (fun r_94 u_93 H locs hw hP hD hS => ?_)
              try dsimp only at hw hP hD
              have p_95 := hw
              clear hw
              refine lv_if_eq (tgt := 147) hx hb dX10_goesFrom_67 (by decide) (fun c_96 => ?_) (fun c_96 => ?_)
              · have gc_96 : r_94.toInt = 0 := i_eq (rfl : r_94.toInt = r_94.toInt) (by decide : (0 : Int32).toInt = 0) c_96
                obtain ⟨n_97, en_97⟩ : ∃ y : Int32, y = l_24 + 1 := ⟨_, rfl⟩
                have tn_97 : n_97.toInt = l_24.toInt + 1 := i_add en_97 (rfl : l_24.toInt = l_24.toInt) (by decide : (1 : Int32).toInt = 1) (by omega) (by omega)
                refine lv_iinc (v := n_97) (lv' := [(6, .int n_97), (7, .int n1), (5, .int n_5), (0, .ref (hm 0)), (1, .int i), (2, .int k), (3, .int t), (4, .int n1)]) hx hb dX10_goesFrom_147 hl (k := 1) rfl (by rw [en_97]; rfl) (by decide) rfl (fun ls hl => ?_)
                refine lv_goto (tgt := 25) hx hb dX10_goesFrom_150 (by decide) ?_
                exact ih25_34 f_20 ztired_91 f_22 f_23 n_97 w_25 w_26 w_27 w_28 w_29 w_30 w_31 w_32 w_33 hL25_34_0 p_92 (by omega) (by omega) (by omega) (by omega) _ _ _ hP hD hS (lv_sub hl [0, 2, 3, 4, 5, 6, 7] rfl)
              · have gc_96 : r_94.toInt ≠ 0 := i_ne (rfl : r_94.toInt = r_94.toInt) (by decide : (0 : Int32).toInt = 0) c_96
                refine lv_iload hx hb dX10_goesFrom_70 (lv_at hl 0 rfl) ?_
                refine lv_bipush (v := 10) hx hb dX10_goesFrom_72 (by decide) ?_
                refine lv_icmp_ge (tgt := 147) hx hb dX10_goesFrom_74 (by decide) (fun c_98 => ?_) (fun c_98 => ?_)
                · have gc_98 : 10 ≤ n1.toInt := i_le (by decide : (10 : Int32).toInt = 10) (rfl : n1.toInt = n1.toInt) c_98
                  exact absurd gc_98 (by omega)
                · have gc_98 : n1.toInt < 10 := i_nle (by decide : (10 : Int32).toInt = 10) (rfl : n1.toInt = n1.toInt) c_98
                  refine lv_aload_n hx hb dX10_goesFrom_77 rfl (lv_at hl 3 rfl) ?_
                  refine lv_iload_n hx hb dX10_goesFrom_78 rfl (lv_at hl 4 rfl) ?_
                  refine lv_iload hx hb dX10_goesFrom_79 (lv_at hl 1 rfl) ?_
                  refine xi hD hS hA (xV (As := [.int i, .int l_24]) (rest := []) hx hb hml hown hts hK hP hD hS hA NT_ok hN hAe hl.1 ⟨Nat.le_refl _, Nat.le_refl _⟩ 0 rfl rfl rfl (c_X10_goesOver l D cy hm v_taped v_walkers v_loads v_pieces v_changeCosts v_planned v_isMarch v_clauseMany v_place v_end v_bad v_clauses v_codes v_open v_stacked v_isOver v_isBehind w_31 w_27 w_30 w_25 w_28 w_26 w_29 v_packing v_packed w_33 w_32 v_spentAt v_ranChanges f_m_tape f_m_knee f_m_weight f_m_isLame f_m_loadWeight f_m_owner f_m_food f_m_miles f_m_slope f_m_clauseLetter f_m_sumFrom f_m_codeFrom f_m_codeTo f_m_code f_m_codeArg f_m_newLetter f_m_newSum f_m_newFrom f_m_newTo f_m_newCode f_m_newArg f_m_stack f_23 f_20 f_m_least f_m_packPounds f_m_packOwner f_m_room f_m_givenTo f_m_canBe f_m_setPounds f_m_plainTime f_m_muleTime f_m_planTo f_m_march ztired_91 f_m_ranMinutes f_m_tiredAhead f_m_isReached f_m_toEnd f_m_upTo f_22 f_m_byChanges f_m_bandPaces H.size i l_24 (by omega) (by omega) (by omega) (by omega) (by omega) hr_m_weight hr_m_isLame hr_m_loadWeight hr_m_food hr_m_miles hL25_34_0 p_92 (by omega) (by omega) hwf) (gi_V lwd_995 lwd_996 lwd_997 lwd_5 lwd_998) ⟨rfl, hd_X10_goesOver⟩ ⟨Nat.le_of_ble_eq_true rfl, Nat.le_of_ble_eq_true rfl⟩ rfl (Nat.le_of_ble_eq_true rfl) dX10_goesFrom_81) (fun r_100 u_99 H locs hw hP hD hS => ?_)
                  obtain ⟨zatW_101, zatL_102, zatT_103, zatH_104, zatM_105, zatI_106, zatQ_107, zgoPace_108, zgoMinutes_109, zworth_110, zisRefused_111, ztired_112⟩ := u_99
                  try dsimp only at hw hP hD
                  obtain ⟨p_113, p_114, p_115, p_116, p_117⟩ := hw
                  refine lv_if_ne (tgt := 90) hx hb dX10_goesFrom_84 (by decide) (fun c_118 => ?_) (fun c_118 => ?_)
                  · have gc_118 : r_100.toInt ≠ 0 := i_ne (rfl : r_100.toInt = r_100.toInt) (by decide : (0 : Int32).toInt = 0) c_118
                    refine lv_iload hx hb dX10_goesFrom_90 (lv_at hl 1 rfl) ?_
                    refine lv_bipush (v := 6) hx hb dX10_goesFrom_92 (by decide) ?_
                    refine lv_irem hx hb dX10_goesFrom_94 (by decide) ?_
                    refine lv_topi (fun n_119 en_119 => ?_)
                    have tn_119 : n_119.toInt = l_24.toInt % 6 := i_rem en_119 (rfl : l_24.toInt = l_24.toInt) (by decide : (6 : Int32).toInt = 6) (by omega) (by omega)
                    refine lv_aload_n hx hb dX10_goesFrom_95 rfl (lv_at hl 3 rfl) ?_
                    refine xi hD hS hA (xV (As := []) (rest := [.int n_119]) hx hb hml hown hts hK hP hD hS hA NT_ok hN hAe hl.1 ⟨Nat.le_refl _, Nat.le_refl _⟩ 0 rfl rfl rfl (c_X10_allTired l D cy hm v_taped v_walkers v_loads v_pieces v_changeCosts v_planned v_isMarch v_clauseMany v_place v_end v_bad v_clauses v_codes v_open v_stacked v_isOver v_isBehind zatW_101 zatL_102 zatT_103 zatH_104 zatM_105 zatI_106 zatQ_107 v_packing v_packed zgoPace_108 zgoMinutes_109 v_spentAt v_ranChanges f_m_tape f_m_knee f_m_weight f_m_isLame f_m_loadWeight f_m_owner f_m_food f_m_miles f_m_slope f_m_clauseLetter f_m_sumFrom f_m_codeFrom f_m_codeTo f_m_code f_m_codeArg f_m_newLetter f_m_newSum f_m_newFrom f_m_newTo f_m_newCode f_m_newArg f_m_stack zworth_110 zisRefused_111 f_m_least f_m_packPounds f_m_packOwner f_m_room f_m_givenTo f_m_canBe f_m_setPounds f_m_plainTime f_m_muleTime f_m_planTo f_m_march ztired_112 f_m_ranMinutes f_m_tiredAhead f_m_isReached f_m_toEnd f_m_upTo f_22 f_m_byChanges f_m_bandPaces H.size (by omega) p_117) (gi_V lwd_1016 lwd_1017 lwd_1018 lwd_5 lwd_1019) ⟨rfl, hd_X10_allTired⟩ ⟨Nat.le_of_ble_eq_true rfl, Nat.le_of_ble_eq_true rfl⟩ rfl (Nat.le_of_ble_eq_true rfl) dX10_goesFrom_96) (fun r_121 u_120 H locs hw hP hD hS => ?_)
                    try dsimp only at hw hP hD
                    obtain ⟨p_122, p_123⟩ := hw
                    refine lv_iload hx hb dX10_goesFrom_99 (lv_at hl 0 rfl) ?_
                    refine xi hD hS hA (xS (As := [.int n_119, .int r_121, .int n1]) (rest := []) hx hb hml hown hts hK hP hD hS hA NT_ok hN hAe hl.1 ⟨Nat.le_refl _, Nat.le_refl _⟩ (c_X10_cellOf l D cy hm v_taped v_walkers v_loads v_pieces v_changeCosts v_planned v_isMarch v_clauseMany v_place v_end v_bad v_clauses v_codes v_open v_stacked v_isOver v_isBehind zatW_101 zatL_102 zatT_103 zatH_104 zatM_105 zatI_106 zatQ_107 v_packing v_packed zgoPace_108 zgoMinutes_109 v_spentAt v_ranChanges f_m_tape f_m_knee f_m_weight f_m_isLame f_m_loadWeight f_m_owner f_m_food f_m_miles f_m_slope f_m_clauseLetter f_m_sumFrom f_m_codeFrom f_m_codeTo f_m_code f_m_codeArg f_m_newLetter f_m_newSum f_m_newFrom f_m_newTo f_m_newCode f_m_newArg f_m_stack zworth_110 zisRefused_111 f_m_least f_m_packPounds f_m_packOwner f_m_room f_m_givenTo f_m_canBe f_m_setPounds f_m_plainTime f_m_muleTime f_m_planTo f_m_march ztired_112 f_m_ranMinutes f_m_tiredAhead f_m_isReached f_m_toEnd f_m_upTo f_22 f_m_byChanges f_m_bandPaces H.size n_119 r_121 n1 (by omega) (by omega) (by omega)) (gi_S lwd_1147 lwd_1148 lwd_5 lwd_1149) hd_X10_cellOf ⟨Nat.le_of_ble_eq_true rfl, Nat.le_of_ble_eq_true rfl⟩ rfl (Nat.le_of_ble_eq_true rfl) dX10_goesFrom_101) (fun r_125 u_124 H locs hw hP hD hS => ?_)
                    try dsimp only at hw hP hD
                    have p_126 := hw
                    clear hw
                    refine lv_istore (lv' := [(8, .int r_125), (7, .int n1), (6, .int l_24), (5, .int n_5), (0, .ref (hm 0)), (1, .int i), (2, .int k), (3, .int t), (4, .int n1)]) hx hb dX10_goesFrom_104 hl (by decide) rfl (fun ls hl => ?_)
                    refine lv_aload_n hx hb dX10_goesFrom_106 rfl (lv_at hl 4 rfl) ?_
                    refine gt_MD_MD_upNext hx hb hts hown hK hP lwd_199 dX10_goesFrom_107 ?_
                    refine lv_iload hx hb dX10_goesFrom_110 (lv_at hl 0 rfl) ?_
                    refine lv_iload hx hb dX10_goesFrom_112 (lv_at hl 3 rfl) ?_
                    refine lv_aload_n hx hb dX10_goesFrom_114 rfl (lv_at hl 4 rfl) ?_
                    refine gt_MD_MD_goMinutes hx hb hts hown hK hP lwd_990 dX10_goesFrom_115 ?_
                    refine lv_iadd hx hb dX10_goesFrom_118 ?_
                    refine lv_topi (fun n_127 en_127 => ?_)
                    refine lv_aload_n hx hb dX10_goesFrom_119 rfl (lv_at hl 4 rfl) ?_
                    refine gt_MD_MD_upNext hx hb hts hown hK hP lwd_199 dX10_goesFrom_120 ?_
                    refine lv_iload hx hb dX10_goesFrom_123 (lv_at hl 0 rfl) ?_
                    refine al_m_upNext hx hb hK hP (i_in (rfl : r_125.toInt = r_125.toInt) (by omega) (by omega)) dX10_goesFrom_125 (fun n_128 en_128 => ?_)
                    refine lv_icmp_ge (tgt := 139) hx hb dX10_goesFrom_126 (by decide) (fun c_129 => ?_) (fun c_129 => ?_)
                    · have gc_129 : n_128.toInt ≤ n_127.toInt := i_le (rfl : n_128.toInt = n_128.toInt) (rfl : n_127.toInt = n_127.toInt) c_129
                      refine lv_aload_n hx hb dX10_goesFrom_139 rfl (lv_at hl 4 rfl) ?_
                      refine gt_MD_MD_upNext hx hb hts hown hK hP lwd_199 dX10_goesFrom_140 ?_
                      refine lv_iload hx hb dX10_goesFrom_143 (lv_at hl 0 rfl) ?_
                      refine al_m_upNext hx hb hK hP (i_in (rfl : r_125.toInt = r_125.toInt) (by omega) (by omega)) dX10_goesFrom_145 (fun n_130 en_130 => ?_)
                      obtain rfl : n_128 = n_130 := en_128.trans en_130.symm
                      refine as_m_upNext (x := n_128) hx hb hK hP hD hS (i_in (rfl : r_125.toInt = r_125.toInt) (by omega) (by omega)) dX10_goesFrom_146 (fun f_131 ef_131 H locs hP hD hS => ?_)
                      obtain ⟨n_132, en_132⟩ : ∃ y : Int32, y = l_24 + 1 := ⟨_, rfl⟩
                      have tn_132 : n_132.toInt = l_24.toInt + 1 := i_add en_132 (rfl : l_24.toInt = l_24.toInt) (by decide : (1 : Int32).toInt = 1) (by omega) (by omega)
                      refine lv_iinc (v := n_132) (lv' := [(6, .int n_132), (8, .int r_125), (7, .int n1), (5, .int n_5), (0, .ref (hm 0)), (1, .int i), (2, .int k), (3, .int t), (4, .int n1)]) hx hb dX10_goesFrom_147 hl (k := 2) rfl (by rw [en_132]; rfl) (by decide) rfl (fun ls hl => ?_)
                      refine lv_goto (tgt := 25) hx hb dX10_goesFrom_150 (by decide) ?_
                      exact ih25_34 zisRefused_111 ztired_112 f_131 zworth_110 n_132 zatH_104 zatI_106 zatL_102 zatM_105 zatQ_107 zatT_103 zatW_101 zgoMinutes_109 zgoPace_108 p_116 p_117 (by omega) (by omega) (by omega) (by omega) _ _ _ hP hD hS (lv_sub hl [0, 3, 4, 5, 6, 7, 8] rfl)
                    · have gc_129 : n_127.toInt < n_128.toInt := i_nle (rfl : n_128.toInt = n_128.toInt) (rfl : n_127.toInt = n_127.toInt) c_129
                      refine lv_iload hx hb dX10_goesFrom_129 (lv_at hl 3 rfl) ?_
                      refine lv_aload_n hx hb dX10_goesFrom_131 rfl (lv_at hl 4 rfl) ?_
                      refine gt_MD_MD_goMinutes hx hb hts hown hK hP lwd_990 dX10_goesFrom_132 ?_
                      refine lv_iadd hx hb dX10_goesFrom_135 ?_
                      refine lv_topi (fun n_133 en_133 => ?_)
                      obtain rfl : n_127 = n_133 := en_127.trans en_133.symm
                      refine lv_goto (tgt := 146) hx hb dX10_goesFrom_136 (by decide) ?_
                      refine as_m_upNext (x := n_127) hx hb hK hP hD hS (i_in (rfl : r_125.toInt = r_125.toInt) (by omega) (by omega)) dX10_goesFrom_146 (fun f_134 ef_134 H locs hP hD hS => ?_)
                      obtain ⟨n_135, en_135⟩ : ∃ y : Int32, y = l_24 + 1 := ⟨_, rfl⟩
                      have tn_135 : n_135.toInt = l_24.toInt + 1 := i_add en_135 (rfl : l_24.toInt = l_24.toInt) (by decide : (1 : Int32).toInt = 1) (by omega) (by omega)
                      refine lv_iinc (v := n_135) (lv' := [(6, .int n_135), (8, .int r_125), (7, .int n1), (5, .int n_5), (0, .ref (hm 0)), (1, .int i), (2, .int k), (3, .int t), (4, .int n1)]) hx hb dX10_goesFrom_147 hl (k := 2) rfl (by rw [en_135]; rfl) (by decide) rfl (fun ls hl => ?_)
                      refine lv_goto (tgt := 25) hx hb dX10_goesFrom_150 (by decide) ?_
                      exact ih25_34 zisRefused_111 ztired_112 f_134 zworth_110 n_135 zatH_104 zatI_106 zatL_102 zatM_105 zatQ_107 zatT_103 zatW_101 zgoMinutes_109 zgoPace_108 p_116 p_117 (by omega) (by omega) (by omega) (by omega) _ _ _ hP hD hS (lv_sub hl [0, 3, 4, 5, 6, 7, 8] rfl)
                  · have gc_118 : r_100.toInt = 0 := i_eq (rfl : r_100.toInt = r_100.toInt) (by decide : (0 : Int32).toInt = 0) c_118
                    refine lv_goto (tgt := 147) hx hb dX10_goesFrom_87 (by decide) ?_
                    obtain ⟨n_136, en_136⟩ : ∃ y : Int32, y = l_24 + 1 := ⟨_, rfl⟩
                    have tn_136 : n_136.toInt = l_24.toInt + 1 := i_add en_136 (rfl : l_24.toInt = l_24.toInt) (by decide : (1 : Int32).toInt = 1) (by omega) (by omega)
                    refine lv_iinc (v := n_136) (lv' := [(6, .int n_136), (7, .int n1), (5, .int n_5), (0, .ref (hm 0)), (1, .int i), (2, .int k), (3, .int t), (4, .int n1)]) hx hb dX10_goesFrom_147 hl (k := 1) rfl (by rw [en_136]; rfl) (by decide) rfl (fun ls hl => ?_)
                    refine lv_goto (tgt := 25) hx hb dX10_goesFrom_150 (by decide) ?_
                    exact ih25_34 zisRefused_111 ztired_112 f_22 zworth_110 n_136 zatH_104 zatI_106 zatL_102 zatM_105 zatQ_107 zatT_103 zatW_101 zgoMinutes_109 zgoPace_108 p_116 p_117 (by omega) (by omega) (by omega) (by omega) _ _ _ hP hD hS (lv_sub hl [0, 2, 3, 4, 5, 6, 7] rfl)
    have k_137 : (0 : Int32).toInt = 0 := by decide
    exact L25_34 8589934592 f_m_isRefused f_m_tired f_m_upNext f_m_worth 0 v_atH v_atI v_atL v_atM v_atQ v_atT v_atW v_goMinutes v_goPace hr_m_isRefused hr_m_tired (by omega) (by omega) (by omega) (by omega) _ _ _ hP hD hS (lv_sub hl [0, 1, 2, 3, 4, 5, 6] rfl)
  · have gc_1 : i.toInt = 0 := i_eq (rfl : i.toInt = i.toInt) (by decide : (0 : Int32).toInt = 0) c_1
    refine lv_iconst (v := 0) hx hb dX10_goesFrom_4 (by decide) ?_
    refine lv_goto (tgt := 20) hx hb dX10_goesFrom_5 (by decide) ?_
    refine lv_istore (lv' := [(5, .int 0), (0, .ref (hm 0)), (1, .int i), (2, .int k), (3, .int t), (4, .int n1)]) hx hb dX10_goesFrom_20 hl (by decide) rfl (fun ls hl => ?_)
    refine lv_iconst (v := 0) hx hb dX10_goesFrom_22 (by decide) ?_
    refine lv_istore (lv' := [(6, .int 0), (5, .int 0), (0, .ref (hm 0)), (1, .int i), (2, .int k), (3, .int t), (4, .int n1)]) hx hb dX10_goesFrom_23 hl (by decide) rfl (fun ls hl => ?_)
    have L25_166 : ∀ (n : Nat) (f_152 : Nat → Int32) (f_153 : Nat → Int32) (f_154 : Nat → Int32) (f_155 : Nat → Int32) (l_156 : Int32) (w_157 : Int32) (w_158 : Int32) (w_159 : Int32) (w_160 : Int32) (w_161 : Int32) (w_162 : Int32) (w_163 : Int32) (w_164 : Int32) (w_165 : Int32), (rg (0) 1 f_152) → (rg (0) 5 f_153) → (0 ≤ l_156.toInt ∧ l_156.toInt ≤ 18) → (0 ≤ w_163.toInt ∧ w_163.toInt ≤ 5) → (0 ≤ w_165.toInt ∧ w_165.toInt ≤ 60) → 19 - l_156.toInt < n → ∀ (H : Heap) (locs : List Loc) (ls : Array Slot), va_P D vwCl (wMD cy hm v_taped v_walkers v_loads v_pieces v_changeCosts v_planned v_isMarch v_clauseMany v_place v_end v_bad v_clauses v_codes v_open v_stacked v_isOver v_isBehind w_163 w_159 w_162 w_157 w_160 w_158 w_161 v_packing v_packed w_165 w_164 v_spentAt v_ranChanges f_m_tape f_m_knee f_m_weight f_m_isLame f_m_loadWeight f_m_owner f_m_food f_m_miles f_m_slope f_m_clauseLetter f_m_sumFrom f_m_codeFrom f_m_codeTo f_m_code f_m_codeArg f_m_newLetter f_m_newSum f_m_newFrom f_m_newTo f_m_newCode f_m_newArg f_m_stack f_155 f_152 f_m_least f_m_packPounds f_m_packOwner f_m_room f_m_givenTo f_m_canBe f_m_setPounds f_m_plainTime f_m_muleTime f_m_planTo f_m_march f_153 f_m_ranMinutes f_m_tiredAhead f_m_isReached f_m_toEnd f_m_upTo f_154 f_m_byChanges f_m_bandPaces) H → va_D A (wMD cy hm v_taped v_walkers v_loads v_pieces v_changeCosts v_planned v_isMarch v_clauseMany v_place v_end v_bad v_clauses v_codes v_open v_stacked v_isOver v_isBehind w_163 w_159 w_162 w_157 w_160 w_158 w_161 v_packing v_packed w_165 w_164 v_spentAt v_ranChanges f_m_tape f_m_knee f_m_weight f_m_isLame f_m_loadWeight f_m_owner f_m_food f_m_miles f_m_slope f_m_clauseLetter f_m_sumFrom f_m_codeFrom f_m_codeTo f_m_code f_m_codeArg f_m_newLetter f_m_newSum f_m_newFrom f_m_newTo f_m_newCode f_m_newArg f_m_stack f_155 f_152 f_m_least f_m_packPounds f_m_packOwner f_m_room f_m_givenTo f_m_canBe f_m_setPounds f_m_plainTime f_m_muleTime f_m_planTo f_m_march f_153 f_m_ranMinutes f_m_tiredAhead f_m_isReached f_m_toEnd f_m_upTo f_154 f_m_byChanges f_m_bandPaces) → va_S A s.heap H locs → lv_has ls 9 [(6, .int l_156), (5, .int 0), (0, .ref (hm 0)), (1, .int i), (2, .int k), (3, .int t), (4, .int n1)] → W p l e (gRm 8) s m args below meth c H locs 0 0 Q (F0 m 25 ls []) := by
      intro n
      induction n with
      | zero => intro f_152 f_153 f_154 f_155 l_156 w_157 w_158 w_159 w_160 w_161 w_162 w_163 w_164 w_165 hL25_166_0 hL25_166_1 hL25_166_2 hL25_166_3 hL25_166_4 hm; exact absurd hm (by omega)
      | succ n ih25_166 =>
        intro f_152 f_153 f_154 f_155 l_156 w_157 w_158 w_159 w_160 w_161 w_162 w_163 w_164 w_165 hL25_166_0 hL25_166_1 hL25_166_2 hL25_166_3 hL25_166_4 hmL25_166 H locs ls hP hD hS hl
        refine lv_iload hx hb dX10_goesFrom_25 (lv_at hl 0 rfl) ?_
        refine lv_bipush (v := 18) hx hb dX10_goesFrom_27 (by decide) ?_
        refine lv_icmp_ge (tgt := 153) hx hb dX10_goesFrom_29 (by decide) (fun c_167 => ?_) (fun c_167 => ?_)
        · have gc_167 : 18 ≤ l_156.toInt := i_le (by decide : (18 : Int32).toInt = 18) (rfl : l_156.toInt = l_156.toInt) c_167
          exact hrt w_163 w_159 w_162 w_157 w_160 w_158 w_161 w_165 w_164 f_155 f_152 f_153 f_154 ⟨(by omega), (by omega), hL25_166_0, hL25_166_1⟩ hP hD hS dX10_goesFrom_153
        · have gc_167 : l_156.toInt < 18 := i_nle (by decide : (18 : Int32).toInt = 18) (rfl : l_156.toInt = l_156.toInt) c_167
          refine lv_iload_n hx hb dX10_goesFrom_32 rfl (lv_at hl 3 rfl) ?_
          refine lv_if_eq (tgt := 45) hx hb dX10_goesFrom_33 (by decide) (fun c_168 => ?_) (fun c_168 => ?_)
          · have gc_168 : i.toInt = 0 := i_eq (rfl : i.toInt = i.toInt) (by decide : (0 : Int32).toInt = 0) c_168
            refine lv_iload hx hb dX10_goesFrom_45 (lv_at hl 6 rfl) ?_
            refine lv_goto (tgt := 54) hx hb dX10_goesFrom_47 (by decide) ?_
            refine lv_istore (lv' := [(7, .int n1), (6, .int l_156), (5, .int 0), (0, .ref (hm 0)), (1, .int i), (2, .int k), (3, .int t), (4, .int n1)]) hx hb dX10_goesFrom_54 hl (by decide) rfl (fun ls hl => ?_)
            refine lv_aload_n hx hb dX10_goesFrom_56 rfl (lv_at hl 3 rfl) ?_
            refine lv_iload_n hx hb dX10_goesFrom_57 rfl (lv_at hl 6 rfl) ?_
            refine xv hD hS hA (xV (As := [.int t]) (rest := []) hx hb hml hown hts hK hP hD hS hA NT_ok hN hAe hl.1 ⟨Nat.le_refl _, Nat.le_refl _⟩ 0 rfl rfl rfl (c_X10_takesTired l D cy hm v_taped v_walkers v_loads v_pieces v_changeCosts v_planned v_isMarch v_clauseMany v_place v_end v_bad v_clauses v_codes v_open v_stacked v_isOver v_isBehind w_163 w_159 w_162 w_157 w_160 w_158 w_161 v_packing v_packed w_165 w_164 v_spentAt v_ranChanges f_m_tape f_m_knee f_m_weight f_m_isLame f_m_loadWeight f_m_owner f_m_food f_m_miles f_m_slope f_m_clauseLetter f_m_sumFrom f_m_codeFrom f_m_codeTo f_m_code f_m_codeArg f_m_newLetter f_m_newSum f_m_newFrom f_m_newTo f_m_newCode f_m_newArg f_m_stack f_155 f_152 f_m_least f_m_packPounds f_m_packOwner f_m_room f_m_givenTo f_m_canBe f_m_setPounds f_m_plainTime f_m_muleTime f_m_planTo f_m_march f_153 f_m_ranMinutes f_m_tiredAhead f_m_isReached f_m_toEnd f_m_upTo f_154 f_m_byChanges f_m_bandPaces H.size t hL25_166_1 (by omega)) (gi_V lwd_991 lwd_992 lwd_993 lwd_5 lwd_994) ⟨rfl, hd_X10_takesTired⟩ ⟨Nat.le_of_ble_eq_true rfl, Nat.le_of_ble_eq_true rfl⟩ rfl (Nat.le_of_ble_eq_true rfl) dX10_goesFrom_58) (fun u_169 H locs hw hP hD hS => ?_)
            obtain ⟨ztired_171, rfl⟩ : ∃ z, z = u_169 := ⟨_, rfl⟩
            try dsimp only at hw hP hD
            have p_172 := hw
            clear hw
            refine lv_aload_n hx hb dX10_goesFrom_61 rfl (lv_at hl 3 rfl) ?_
            refine lv_iload hx hb dX10_goesFrom_62 (lv_at hl 1 rfl) ?_
            refine xi hD hS hA (xV (As := [.int l_156]) (rest := []) hx hb hml hown hts hK hP hD hS hA NT_ok hN hAe hl.1 ⟨Nat.le_refl _, Nat.le_refl _⟩ 0 rfl rfl rfl (c_X10_mayAct l D cy hm v_taped v_walkers v_loads v_pieces v_changeCosts v_planned v_isMarch v_clauseMany v_place v_end v_bad v_clauses v_codes v_open v_stacked v_isOver v_isBehind w_163 w_159 w_162 w_157 w_160 w_158 w_161 v_packing v_packed w_165 w_164 v_spentAt v_ranChanges f_m_tape f_m_knee f_m_weight f_m_isLame f_m_loadWeight f_m_owner f_m_food f_m_miles f_m_slope f_m_clauseLetter f_m_sumFrom f_m_codeFrom f_m_codeTo f_m_code f_m_codeArg f_m_newLetter f_m_newSum f_m_newFrom f_m_newTo f_m_newCode f_m_newArg f_m_stack f_155 f_152 f_m_least f_m_packPounds f_m_packOwner f_m_room f_m_givenTo f_m_canBe f_m_setPounds f_m_plainTime f_m_muleTime f_m_planTo f_m_march ztired_171 f_m_ranMinutes f_m_tiredAhead f_m_isReached f_m_toEnd f_m_upTo f_154 f_m_byChanges f_m_bandPaces H.size l_156) (gi_V lwd_1119 lwd_1120 lwd_1121 lwd_5 lwd_1122) ⟨rfl, hd_X10_mayAct⟩ ⟨Nat.le_of_ble_eq_true rfl, Nat.le_of_ble_eq_true rfl⟩ rfl (Nat.le_of_ble_eq_true rfl) dX10_goesFrom_64) (fun r_174 u_173 H locs hw hP hD hS => ?_)
            try dsimp only at hw hP hD
            have p_175 := hw
            clear hw
            refine lv_if_eq (tgt := 147) hx hb dX10_goesFrom_67 (by decide) (fun c_176 => ?_) (fun c_176 => ?_)
            · have gc_176 : r_174.toInt = 0 := i_eq (rfl : r_174.toInt = r_174.toInt) (by decide : (0 : Int32).toInt = 0) c_176
              obtain ⟨n_177, en_177⟩ : ∃ y : Int32, y = l_156 + 1 := ⟨_, rfl⟩
              have tn_177 : n_177.toInt = l_156.toInt + 1 := i_add en_177 (rfl : l_156.toInt = l_156.toInt) (by decide : (1 : Int32).toInt = 1) (by omega) (by omega)
              refine lv_iinc (v := n_177) (lv' := [(6, .int n_177), (7, .int n1), (5, .int 0), (0, .ref (hm 0)), (1, .int i), (2, .int k), (3, .int t), (4, .int n1)]) hx hb dX10_goesFrom_147 hl (k := 1) rfl (by rw [en_177]; rfl) (by decide) rfl (fun ls hl => ?_)
              refine lv_goto (tgt := 25) hx hb dX10_goesFrom_150 (by decide) ?_
              exact ih25_166 f_152 ztired_171 f_154 f_155 n_177 w_157 w_158 w_159 w_160 w_161 w_162 w_163 w_164 w_165 hL25_166_0 p_172 (by omega) (by omega) (by omega) (by omega) _ _ _ hP hD hS (lv_sub hl [0, 2, 3, 4, 5, 6, 7] rfl)
            · have gc_176 : r_174.toInt ≠ 0 := i_ne (rfl : r_174.toInt = r_174.toInt) (by decide : (0 : Int32).toInt = 0) c_176
              refine lv_iload hx hb dX10_goesFrom_70 (lv_at hl 0 rfl) ?_
              refine lv_bipush (v := 10) hx hb dX10_goesFrom_72 (by decide) ?_
              refine lv_icmp_ge (tgt := 147) hx hb dX10_goesFrom_74 (by decide) (fun c_178 => ?_) (fun c_178 => ?_)
              · have gc_178 : 10 ≤ n1.toInt := i_le (by decide : (10 : Int32).toInt = 10) (rfl : n1.toInt = n1.toInt) c_178
                exact absurd gc_178 (by omega)
              · have gc_178 : n1.toInt < 10 := i_nle (by decide : (10 : Int32).toInt = 10) (rfl : n1.toInt = n1.toInt) c_178
                refine lv_aload_n hx hb dX10_goesFrom_77 rfl (lv_at hl 3 rfl) ?_
                refine lv_iload_n hx hb dX10_goesFrom_78 rfl (lv_at hl 4 rfl) ?_
                refine lv_iload hx hb dX10_goesFrom_79 (lv_at hl 1 rfl) ?_
                refine xi hD hS hA (xV (As := [.int i, .int l_156]) (rest := []) hx hb hml hown hts hK hP hD hS hA NT_ok hN hAe hl.1 ⟨Nat.le_refl _, Nat.le_refl _⟩ 0 rfl rfl rfl (c_X10_goesOver l D cy hm v_taped v_walkers v_loads v_pieces v_changeCosts v_planned v_isMarch v_clauseMany v_place v_end v_bad v_clauses v_codes v_open v_stacked v_isOver v_isBehind w_163 w_159 w_162 w_157 w_160 w_158 w_161 v_packing v_packed w_165 w_164 v_spentAt v_ranChanges f_m_tape f_m_knee f_m_weight f_m_isLame f_m_loadWeight f_m_owner f_m_food f_m_miles f_m_slope f_m_clauseLetter f_m_sumFrom f_m_codeFrom f_m_codeTo f_m_code f_m_codeArg f_m_newLetter f_m_newSum f_m_newFrom f_m_newTo f_m_newCode f_m_newArg f_m_stack f_155 f_152 f_m_least f_m_packPounds f_m_packOwner f_m_room f_m_givenTo f_m_canBe f_m_setPounds f_m_plainTime f_m_muleTime f_m_planTo f_m_march ztired_171 f_m_ranMinutes f_m_tiredAhead f_m_isReached f_m_toEnd f_m_upTo f_154 f_m_byChanges f_m_bandPaces H.size i l_156 (by omega) (by omega) (by omega) (by omega) (by omega) hr_m_weight hr_m_isLame hr_m_loadWeight hr_m_food hr_m_miles hL25_166_0 p_172 (by omega) (by omega) hwf) (gi_V lwd_995 lwd_996 lwd_997 lwd_5 lwd_998) ⟨rfl, hd_X10_goesOver⟩ ⟨Nat.le_of_ble_eq_true rfl, Nat.le_of_ble_eq_true rfl⟩ rfl (Nat.le_of_ble_eq_true rfl) dX10_goesFrom_81) (fun r_180 u_179 H locs hw hP hD hS => ?_)
                obtain ⟨zatW_181, zatL_182, zatT_183, zatH_184, zatM_185, zatI_186, zatQ_187, zgoPace_188, zgoMinutes_189, zworth_190, zisRefused_191, ztired_192⟩ := u_179
                try dsimp only at hw hP hD
                obtain ⟨p_193, p_194, p_195, p_196, p_197⟩ := hw
                refine lv_if_ne (tgt := 90) hx hb dX10_goesFrom_84 (by decide) (fun c_198 => ?_) (fun c_198 => ?_)
                · have gc_198 : r_180.toInt ≠ 0 := i_ne (rfl : r_180.toInt = r_180.toInt) (by decide : (0 : Int32).toInt = 0) c_198
                  refine lv_iload hx hb dX10_goesFrom_90 (lv_at hl 1 rfl) ?_
                  refine lv_bipush (v := 6) hx hb dX10_goesFrom_92 (by decide) ?_
                  refine lv_irem hx hb dX10_goesFrom_94 (by decide) ?_
                  refine lv_topi (fun n_199 en_199 => ?_)
                  have tn_199 : n_199.toInt = l_156.toInt % 6 := i_rem en_199 (rfl : l_156.toInt = l_156.toInt) (by decide : (6 : Int32).toInt = 6) (by omega) (by omega)
                  refine lv_aload_n hx hb dX10_goesFrom_95 rfl (lv_at hl 3 rfl) ?_
                  refine xi hD hS hA (xV (As := []) (rest := [.int n_199]) hx hb hml hown hts hK hP hD hS hA NT_ok hN hAe hl.1 ⟨Nat.le_refl _, Nat.le_refl _⟩ 0 rfl rfl rfl (c_X10_allTired l D cy hm v_taped v_walkers v_loads v_pieces v_changeCosts v_planned v_isMarch v_clauseMany v_place v_end v_bad v_clauses v_codes v_open v_stacked v_isOver v_isBehind zatW_181 zatL_182 zatT_183 zatH_184 zatM_185 zatI_186 zatQ_187 v_packing v_packed zgoPace_188 zgoMinutes_189 v_spentAt v_ranChanges f_m_tape f_m_knee f_m_weight f_m_isLame f_m_loadWeight f_m_owner f_m_food f_m_miles f_m_slope f_m_clauseLetter f_m_sumFrom f_m_codeFrom f_m_codeTo f_m_code f_m_codeArg f_m_newLetter f_m_newSum f_m_newFrom f_m_newTo f_m_newCode f_m_newArg f_m_stack zworth_190 zisRefused_191 f_m_least f_m_packPounds f_m_packOwner f_m_room f_m_givenTo f_m_canBe f_m_setPounds f_m_plainTime f_m_muleTime f_m_planTo f_m_march ztired_192 f_m_ranMinutes f_m_tiredAhead f_m_isReached f_m_toEnd f_m_upTo f_154 f_m_byChanges f_m_bandPaces H.size (by omega) p_197) (gi_V lwd_1016 lwd_1017 lwd_1018 lwd_5 lwd_1019) ⟨rfl, hd_X10_allTired⟩ ⟨Nat.le_of_ble_eq_true rfl, Nat.le_of_ble_eq_true rfl⟩ rfl (Nat.le_of_ble_eq_true rfl) dX10_goesFrom_96) (fun r_201 u_200 H locs hw hP hD hS => ?_)
                  try dsimp only at hw hP hD
                  obtain ⟨p_202, p_203⟩ := hw
                  refine lv_iload hx hb dX10_goesFrom_99 (lv_at hl 0 rfl) ?_
                  refine xi hD hS hA (xS (As := [.int n_199, .int r_201, .int n1]) (rest := []) hx hb hml hown hts hK hP hD hS hA NT_ok hN hAe hl.1 ⟨Nat.le_refl _, Nat.le_refl _⟩ (c_X10_cellOf l D cy hm v_taped v_walkers v_loads v_pieces v_changeCosts v_planned v_isMarch v_clauseMany v_place v_end v_bad v_clauses v_codes v_open v_stacked v_isOver v_isBehind zatW_181 zatL_182 zatT_183 zatH_184 zatM_185 zatI_186 zatQ_187 v_packing v_packed zgoPace_188 zgoMinutes_189 v_spentAt v_ranChanges f_m_tape f_m_knee f_m_weight f_m_isLame f_m_loadWeight f_m_owner f_m_food f_m_miles f_m_slope f_m_clauseLetter f_m_sumFrom f_m_codeFrom f_m_codeTo f_m_code f_m_codeArg f_m_newLetter f_m_newSum f_m_newFrom f_m_newTo f_m_newCode f_m_newArg f_m_stack zworth_190 zisRefused_191 f_m_least f_m_packPounds f_m_packOwner f_m_room f_m_givenTo f_m_canBe f_m_setPounds f_m_plainTime f_m_muleTime f_m_planTo f_m_march ztired_192 f_m_ranMinutes f_m_tiredAhead f_m_isReached f_m_toEnd f_m_upTo f_154 f_m_byChanges f_m_bandPaces H.size n_199 r_201 n1 (by omega) (by omega) (by omega)) (gi_S lwd_1147 lwd_1148 lwd_5 lwd_1149) hd_X10_cellOf ⟨Nat.le_of_ble_eq_true rfl, Nat.le_of_ble_eq_true rfl⟩ rfl (Nat.le_of_ble_eq_true rfl) dX10_goesFrom_101) (fun r_205 u_204 H locs hw hP hD hS => ?_)
                  try dsimp only at hw hP hD
                  have p_206 := hw
                  clear hw
                  refine lv_istore (lv' := [(8, .int r_205), (7, .int n1), (6, .int l_156), (5, .int 0), (0, .ref (hm 0)), (1, .int i), (2, .int k), (3, .int t), (4, .int n1)]) hx hb dX10_goesFrom_104 hl (by decide) rfl (fun ls hl => ?_)
                  refine lv_aload_n hx hb dX10_goesFrom_106 rfl (lv_at hl 4 rfl) ?_
                  refine gt_MD_MD_upNext hx hb hts hown hK hP lwd_199 dX10_goesFrom_107 ?_
                  refine lv_iload hx hb dX10_goesFrom_110 (lv_at hl 0 rfl) ?_
                  refine lv_iload hx hb dX10_goesFrom_112 (lv_at hl 3 rfl) ?_
                  refine lv_aload_n hx hb dX10_goesFrom_114 rfl (lv_at hl 4 rfl) ?_
                  refine gt_MD_MD_goMinutes hx hb hts hown hK hP lwd_990 dX10_goesFrom_115 ?_
                  refine lv_iadd hx hb dX10_goesFrom_118 ?_
                  have hb_207 := And.intro (i_bot zgoMinutes_189) (i_top zgoMinutes_189)
                  refine lv_topi (fun n_208 en_208 => ?_)
                  have tn_208 : n_208.toInt = 0 + zgoMinutes_189.toInt := i_add en_208 (by decide : (0 : Int32).toInt = 0) (rfl : zgoMinutes_189.toInt = zgoMinutes_189.toInt) (by omega) (by omega)
                  refine lv_aload_n hx hb dX10_goesFrom_119 rfl (lv_at hl 4 rfl) ?_
                  refine gt_MD_MD_upNext hx hb hts hown hK hP lwd_199 dX10_goesFrom_120 ?_
                  refine lv_iload hx hb dX10_goesFrom_123 (lv_at hl 0 rfl) ?_
                  refine al_m_upNext hx hb hK hP (i_in (rfl : r_205.toInt = r_205.toInt) (by omega) (by omega)) dX10_goesFrom_125 (fun n_209 en_209 => ?_)
                  refine lv_icmp_ge (tgt := 139) hx hb dX10_goesFrom_126 (by decide) (fun c_210 => ?_) (fun c_210 => ?_)
                  · have gc_210 : n_209.toInt ≤ 0 + zgoMinutes_189.toInt := i_le (rfl : n_209.toInt = n_209.toInt) tn_208 c_210
                    refine lv_aload_n hx hb dX10_goesFrom_139 rfl (lv_at hl 4 rfl) ?_
                    refine gt_MD_MD_upNext hx hb hts hown hK hP lwd_199 dX10_goesFrom_140 ?_
                    refine lv_iload hx hb dX10_goesFrom_143 (lv_at hl 0 rfl) ?_
                    refine al_m_upNext hx hb hK hP (i_in (rfl : r_205.toInt = r_205.toInt) (by omega) (by omega)) dX10_goesFrom_145 (fun n_211 en_211 => ?_)
                    obtain rfl : n_209 = n_211 := en_209.trans en_211.symm
                    refine as_m_upNext (x := n_209) hx hb hK hP hD hS (i_in (rfl : r_205.toInt = r_205.toInt) (by omega) (by omega)) dX10_goesFrom_146 (fun f_212 ef_212 H locs hP hD hS => ?_)
                    obtain ⟨n_213, en_213⟩ : ∃ y : Int32, y = l_156 + 1 := ⟨_, rfl⟩
                    have tn_213 : n_213.toInt = l_156.toInt + 1 := i_add en_213 (rfl : l_156.toInt = l_156.toInt) (by decide : (1 : Int32).toInt = 1) (by omega) (by omega)
                    refine lv_iinc (v := n_213) (lv' := [(6, .int n_213), (8, .int r_205), (7, .int n1), (5, .int 0), (0, .ref (hm 0)), (1, .int i), (2, .int k), (3, .int t), (4, .int n1)]) hx hb dX10_goesFrom_147 hl (k := 2) rfl (by rw [en_213]; rfl) (by decide) rfl (fun ls hl => ?_)
                    refine lv_goto (tgt := 25) hx hb dX10_goesFrom_150 (by decide) ?_
                    exact ih25_166 zisRefused_191 ztired_192 f_212 zworth_190 n_213 zatH_184 zatI_186 zatL_182 zatM_185 zatQ_187 zatT_183 zatW_181 zgoMinutes_189 zgoPace_188 p_196 p_197 (by omega) (by omega) (by omega) (by omega) _ _ _ hP hD hS (lv_sub hl [0, 3, 4, 5, 6, 7, 8] rfl)
                  · have gc_210 : 0 + zgoMinutes_189.toInt < n_209.toInt := i_nle (rfl : n_209.toInt = n_209.toInt) tn_208 c_210
                    refine lv_iload hx hb dX10_goesFrom_129 (lv_at hl 3 rfl) ?_
                    refine lv_aload_n hx hb dX10_goesFrom_131 rfl (lv_at hl 4 rfl) ?_
                    refine gt_MD_MD_goMinutes hx hb hts hown hK hP lwd_990 dX10_goesFrom_132 ?_
                    refine lv_iadd hx hb dX10_goesFrom_135 ?_
                    refine lv_topi (fun n_214 en_214 => ?_)
                    have tn_214 : n_214.toInt = 0 + zgoMinutes_189.toInt := i_add en_214 (by decide : (0 : Int32).toInt = 0) (rfl : zgoMinutes_189.toInt = zgoMinutes_189.toInt) (by omega) (by omega)
                    refine lv_goto (tgt := 146) hx hb dX10_goesFrom_136 (by decide) ?_
                    refine as_m_upNext (x := n_214) hx hb hK hP hD hS (i_in (rfl : r_205.toInt = r_205.toInt) (by omega) (by omega)) dX10_goesFrom_146 (fun f_215 ef_215 H locs hP hD hS => ?_)
                    obtain ⟨n_216, en_216⟩ : ∃ y : Int32, y = l_156 + 1 := ⟨_, rfl⟩
                    have tn_216 : n_216.toInt = l_156.toInt + 1 := i_add en_216 (rfl : l_156.toInt = l_156.toInt) (by decide : (1 : Int32).toInt = 1) (by omega) (by omega)
                    refine lv_iinc (v := n_216) (lv' := [(6, .int n_216), (8, .int r_205), (7, .int n1), (5, .int 0), (0, .ref (hm 0)), (1, .int i), (2, .int k), (3, .int t), (4, .int n1)]) hx hb dX10_goesFrom_147 hl (k := 2) rfl (by rw [en_216]; rfl) (by decide) rfl (fun ls hl => ?_)
                    refine lv_goto (tgt := 25) hx hb dX10_goesFrom_150 (by decide) ?_
                    exact ih25_166 zisRefused_191 ztired_192 f_215 zworth_190 n_216 zatH_184 zatI_186 zatL_182 zatM_185 zatQ_187 zatT_183 zatW_181 zgoMinutes_189 zgoPace_188 p_196 p_197 (by omega) (by omega) (by omega) (by omega) _ _ _ hP hD hS (lv_sub hl [0, 3, 4, 5, 6, 7, 8] rfl)
                · have gc_198 : r_180.toInt = 0 := i_eq (rfl : r_180.toInt = r_180.toInt) (by decide : (0 : Int32).toInt = 0) c_198
                  refine lv_goto (tgt := 147) hx hb dX10_goesFrom_87 (by decide) ?_
                  obtain ⟨n_217, en_217⟩ : ∃ y : Int32, y = l_156 + 1 := ⟨_, rfl⟩
                  have tn_217 : n_217.toInt = l_156.toInt + 1 := i_add en_217 (rfl : l_156.toInt = l_156.toInt) (by decide : (1 : Int32).toInt = 1) (by omega) (by omega)
                  refine lv_iinc (v := n_217) (lv' := [(6, .int n_217), (7, .int n1), (5, .int 0), (0, .ref (hm 0)), (1, .int i), (2, .int k), (3, .int t), (4, .int n1)]) hx hb dX10_goesFrom_147 hl (k := 1) rfl (by rw [en_217]; rfl) (by decide) rfl (fun ls hl => ?_)
                  refine lv_goto (tgt := 25) hx hb dX10_goesFrom_150 (by decide) ?_
                  exact ih25_166 zisRefused_191 ztired_192 f_154 zworth_190 n_217 zatH_184 zatI_186 zatL_182 zatM_185 zatQ_187 zatT_183 zatW_181 zgoMinutes_189 zgoPace_188 p_196 p_197 (by omega) (by omega) (by omega) (by omega) _ _ _ hP hD hS (lv_sub hl [0, 2, 3, 4, 5, 6, 7] rfl)
          · have gc_168 : i.toInt ≠ 0 := i_ne (rfl : i.toInt = i.toInt) (by decide : (0 : Int32).toInt = 0) c_168
            exact absurd gc_168 (by omega)
    have k_218 : (0 : Int32).toInt = 0 := by decide
    exact L25_166 8589934592 f_m_isRefused f_m_tired f_m_upNext f_m_worth 0 v_atH v_atI v_atL v_atM v_atQ v_atT v_atW v_goMinutes v_goPace hr_m_isRefused hr_m_tired (by omega) (by omega) (by omega) (by omega) _ _ _ hP hD hS (lv_sub hl [0, 1, 2, 3, 4, 5, 6] rfl)
set_option maxHeartbeats 16000000 in
set_option maxRecDepth 100000 in
theorem c_X10_laysChanges (l : Launch) (D : va_G) (cy : Nat → ClassId) (hm : Nat → Nat) (v_taped v_walkers v_loads v_pieces v_changeCosts v_planned v_isMarch v_clauseMany v_place v_end v_bad v_clauses v_codes v_open v_stacked v_isOver v_isBehind v_atW v_atL v_atT v_atH v_atM v_atI v_atQ v_packing v_packed v_goPace v_goMinutes v_spentAt v_ranChanges : Int32) (f_m_tape f_m_knee f_m_weight f_m_isLame f_m_loadWeight f_m_owner f_m_food f_m_miles f_m_slope f_m_clauseLetter f_m_sumFrom f_m_codeFrom f_m_codeTo f_m_code f_m_codeArg f_m_newLetter f_m_newSum f_m_newFrom f_m_newTo f_m_newCode f_m_newArg f_m_stack f_m_worth f_m_isRefused f_m_least f_m_packPounds f_m_packOwner f_m_room f_m_givenTo f_m_canBe f_m_setPounds f_m_plainTime f_m_muleTime f_m_planTo f_m_march f_m_tired f_m_ranMinutes f_m_tiredAhead f_m_isReached f_m_toEnd f_m_upTo f_m_upNext f_m_byChanges f_m_bandPaces : Nat → Int32) (sz : Nat) (hb_v_walkers : 0 ≤ v_walkers.toInt ∧ v_walkers.toInt ≤ 6) (hb_v_loads : 0 ≤ v_loads.toInt ∧ v_loads.toInt ≤ 9) (hb_v_pieces : 0 ≤ v_pieces.toInt ∧ v_pieces.toInt ≤ 10) (hb_v_clauseMany : 0 ≤ v_clauseMany.toInt ∧ v_clauseMany.toInt ≤ 14) (hb_v_atW : 0 ≤ v_atW.toInt ∧ v_atW.toInt ≤ 5) (hb_v_goPace : 0 ≤ v_goPace.toInt ∧ v_goPace.toInt ≤ 60) (hr_m_weight : rg (0) 250 f_m_weight) (hr_m_isLame : rg (0) 1 f_m_isLame) (hr_m_loadWeight : rg (0) 120 f_m_loadWeight) (hr_m_food : rg (0) 20 f_m_food) (hr_m_miles : rg (0) 20 f_m_miles) (hr_m_isRefused : rg (0) 1 f_m_isRefused) (hr_m_tired : rg (0) 5 f_m_tired) (hwf : wfC v_clauseMany f_m_sumFrom f_m_codeFrom f_m_codeTo f_m_code) (hw4 : v_walkers.toInt ≤ 4) : gMv l yX10_laysChanges cX10_laysChanges 3 9 [.ref (hm 0)] D cy (wMD cy hm v_taped v_walkers v_loads v_pieces v_changeCosts v_planned v_isMarch v_clauseMany v_place v_end v_bad v_clauses v_codes v_open v_stacked v_isOver v_isBehind v_atW v_atL v_atT v_atH v_atM v_atI v_atQ v_packing v_packed v_goPace v_goMinutes v_spentAt v_ranChanges f_m_tape f_m_knee f_m_weight f_m_isLame f_m_loadWeight f_m_owner f_m_food f_m_miles f_m_slope f_m_clauseLetter f_m_sumFrom f_m_codeFrom f_m_codeTo f_m_code f_m_codeArg f_m_newLetter f_m_newSum f_m_newFrom f_m_newTo f_m_newCode f_m_newArg f_m_stack f_m_worth f_m_isRefused f_m_least f_m_packPounds f_m_packOwner f_m_room f_m_givenTo f_m_canBe f_m_setPounds f_m_plainTime f_m_muleTime f_m_planTo f_m_march f_m_tired f_m_ranMinutes f_m_tiredAhead f_m_isReached f_m_toEnd f_m_upTo f_m_upNext f_m_byChanges f_m_bandPaces) NT sz (fun (u : Int32 × Int32 × Int32 × Int32 × Int32 × Int32 × Int32 × Int32 × Int32 × (Nat → Int32) × (Nat → Int32) × (Nat → Int32) × (Nat → Int32) × (Nat → Int32) × (Nat → Int32)) => (0 ≤ (u.1).toInt ∧ (u.1).toInt ≤ 5) ∧ (0 ≤ (u.2.2.2.2.2.2.2.1).toInt ∧ (u.2.2.2.2.2.2.2.1).toInt ≤ 60) ∧ (rg (0) 1 (u.2.2.2.2.2.2.2.2.2.2.1)) ∧ (rg (0) 5 (u.2.2.2.2.2.2.2.2.2.2.2.1))) (fun u => wMD cy hm v_taped v_walkers v_loads v_pieces v_changeCosts v_planned v_isMarch v_clauseMany v_place v_end v_bad v_clauses v_codes v_open v_stacked v_isOver v_isBehind (u.1) (u.2.1) (u.2.2.1) (u.2.2.2.1) (u.2.2.2.2.1) (u.2.2.2.2.2.1) (u.2.2.2.2.2.2.1) v_packing v_packed (u.2.2.2.2.2.2.2.1) (u.2.2.2.2.2.2.2.2.1) v_spentAt v_ranChanges f_m_tape f_m_knee f_m_weight f_m_isLame f_m_loadWeight f_m_owner f_m_food f_m_miles f_m_slope f_m_clauseLetter f_m_sumFrom f_m_codeFrom f_m_codeTo f_m_code f_m_codeArg f_m_newLetter f_m_newSum f_m_newFrom f_m_newTo f_m_newCode f_m_newArg f_m_stack (u.2.2.2.2.2.2.2.2.2.1) (u.2.2.2.2.2.2.2.2.2.2.1) f_m_least f_m_packPounds f_m_packOwner f_m_room f_m_givenTo f_m_canBe f_m_setPounds f_m_plainTime f_m_muleTime f_m_planTo f_m_march (u.2.2.2.2.2.2.2.2.2.2.2.1) f_m_ranMinutes f_m_tiredAhead f_m_isReached f_m_toEnd (u.2.2.2.2.2.2.2.2.2.2.2.2.1) (u.2.2.2.2.2.2.2.2.2.2.2.2.2.1) (u.2.2.2.2.2.2.2.2.2.2.2.2.2.2) f_m_bandPaces) := by
  refine gMv_in (by decide) (Nat.le_of_ble_eq_true rfl) ?_
  intro p e s m args below meth c A ls Q hx hb hml hts hown hsz hP hK hD hN hAe hA hS hl hret
  subst hsz
  have hl : lv_has ls 3 [(0, .ref (hm 0))] := hl
  have hrt := fun (v_atW' : Int32) (v_atL' : Int32) (v_atT' : Int32) (v_atH' : Int32) (v_atM' : Int32) (v_atI' : Int32) (v_atQ' : Int32) (v_goPace' : Int32) (v_goMinutes' : Int32) (f_m_worth' : Nat → Int32) (f_m_isRefused' : Nat → Int32) (f_m_tired' : Nat → Int32) (f_m_upTo' : Nat → Int32) (f_m_upNext' : Nat → Int32) (f_m_byChanges' : Nat → Int32) (hp : (0 ≤ v_atW'.toInt ∧ v_atW'.toInt ≤ 5) ∧ (0 ≤ v_goPace'.toInt ∧ v_goPace'.toInt ≤ 60) ∧ (rg (0) 1 f_m_isRefused') ∧ (rg (0) 5 f_m_tired')) {H : Heap} {locs : List Loc} {pc : Nat} {ls : Array Slot} => hret (v_atW', v_atL', v_atT', v_atH', v_atM', v_atI', v_atQ', v_goPace', v_goMinutes', f_m_worth', f_m_isRefused', f_m_tired', f_m_upTo', f_m_upNext', f_m_byChanges') (H := H) (locs := locs) (pc := pc) (ls := ls) hp
  clear hret
  refine lv_iconst (v := 0) hx hb dX10_laysChanges_0 (by decide) ?_
  refine lv_istore_n (lv' := [(1, .int 0), (0, .ref (hm 0))]) hx hb dX10_laysChanges_1 rfl hl (by decide) rfl (fun ls hl => ?_)
  have L2_31 : ∀ (n : Nat) (f_16 : Nat → Int32) (f_17 : Nat → Int32) (f_18 : Nat → Int32) (f_19 : Nat → Int32) (f_20 : Nat → Int32) (l_21 : Int32) (w_22 : Int32) (w_23 : Int32) (w_24 : Int32) (w_25 : Int32) (w_26 : Int32) (w_27 : Int32) (w_28 : Int32) (w_29 : Int32) (w_30 : Int32), (rg (0) 1 f_16) → (rg (0) 5 f_17) → (0 ≤ l_21.toInt ∧ l_21.toInt ≤ 10) → (0 ≤ w_28.toInt ∧ w_28.toInt ≤ 5) → (0 ≤ w_30.toInt ∧ w_30.toInt ≤ 60) → 11 - l_21.toInt < n → ∀ (H : Heap) (locs : List Loc) (ls : Array Slot), va_P D vwCl (wMD cy hm v_taped v_walkers v_loads v_pieces v_changeCosts v_planned v_isMarch v_clauseMany v_place v_end v_bad v_clauses v_codes v_open v_stacked v_isOver v_isBehind w_28 w_24 w_27 w_22 w_25 w_23 w_26 v_packing v_packed w_30 w_29 v_spentAt v_ranChanges f_m_tape f_m_knee f_m_weight f_m_isLame f_m_loadWeight f_m_owner f_m_food f_m_miles f_m_slope f_m_clauseLetter f_m_sumFrom f_m_codeFrom f_m_codeTo f_m_code f_m_codeArg f_m_newLetter f_m_newSum f_m_newFrom f_m_newTo f_m_newCode f_m_newArg f_m_stack f_20 f_16 f_m_least f_m_packPounds f_m_packOwner f_m_room f_m_givenTo f_m_canBe f_m_setPounds f_m_plainTime f_m_muleTime f_m_planTo f_m_march f_17 f_m_ranMinutes f_m_tiredAhead f_m_isReached f_m_toEnd f_19 f_18 f_m_byChanges f_m_bandPaces) H → va_D A (wMD cy hm v_taped v_walkers v_loads v_pieces v_changeCosts v_planned v_isMarch v_clauseMany v_place v_end v_bad v_clauses v_codes v_open v_stacked v_isOver v_isBehind w_28 w_24 w_27 w_22 w_25 w_23 w_26 v_packing v_packed w_30 w_29 v_spentAt v_ranChanges f_m_tape f_m_knee f_m_weight f_m_isLame f_m_loadWeight f_m_owner f_m_food f_m_miles f_m_slope f_m_clauseLetter f_m_sumFrom f_m_codeFrom f_m_codeTo f_m_code f_m_codeArg f_m_newLetter f_m_newSum f_m_newFrom f_m_newTo f_m_newCode f_m_newArg f_m_stack f_20 f_16 f_m_least f_m_packPounds f_m_packOwner f_m_room f_m_givenTo f_m_canBe f_m_setPounds f_m_plainTime f_m_muleTime f_m_planTo f_m_march f_17 f_m_ranMinutes f_m_tiredAhead f_m_isReached f_m_toEnd f_19 f_18 f_m_byChanges f_m_bandPaces) → va_S A s.heap H locs → lv_has ls 3 [(1, .int l_21), (0, .ref (hm 0))] → W p l e (gRm 9) s m args below meth c H locs 0 0 Q (F0 m 2 ls []) := by
    intro n
    induction n with
    | zero => intro f_16 f_17 f_18 f_19 f_20 l_21 w_22 w_23 w_24 w_25 w_26 w_27 w_28 w_29 w_30 hL2_31_0 hL2_31_1 hL2_31_2 hL2_31_3 hL2_31_4 hm; exact absurd hm (by omega)
    | succ n ih2_31 =>
      intro f_16 f_17 f_18 f_19 f_20 l_21 w_22 w_23 w_24 w_25 w_26 w_27 w_28 w_29 w_30 hL2_31_0 hL2_31_1 hL2_31_2 hL2_31_3 hL2_31_4 hmL2_31 H locs ls hP hD hS hl
      refine lv_iload_n hx hb dX10_laysChanges_2 rfl (lv_at hl 0 rfl) ?_
      refine lv_aload_n hx hb dX10_laysChanges_3 rfl (lv_at hl 1 rfl) ?_
      refine gt_MD_MD_pieces hx hb hts hown hK hP lwd_265 dX10_laysChanges_4 ?_
      refine lv_icmp_ge (tgt := 132) hx hb dX10_laysChanges_7 (by decide) (fun c_32 => ?_) (fun c_32 => ?_)
      · have gc_32 : v_pieces.toInt ≤ l_21.toInt := i_le (rfl : v_pieces.toInt = v_pieces.toInt) (rfl : l_21.toInt = l_21.toInt) c_32
        refine lv_iconst (v := 0) hx hb dX10_laysChanges_132 (by decide) ?_
        refine lv_istore_n (lv' := [(1, .int 0), (0, .ref (hm 0))]) hx hb dX10_laysChanges_133 rfl hl (by decide) rfl (fun ls hl => ?_)
        have L134_37 : ∀ (n : Nat) (f_35 : Nat → Int32) (l_36 : Int32), (0 ≤ l_36.toInt ∧ l_36.toInt ≤ 10) → 11 - l_36.toInt < n → ∀ (H : Heap) (locs : List Loc) (ls : Array Slot), va_P D vwCl (wMD cy hm v_taped v_walkers v_loads v_pieces v_changeCosts v_planned v_isMarch v_clauseMany v_place v_end v_bad v_clauses v_codes v_open v_stacked v_isOver v_isBehind w_28 w_24 w_27 w_22 w_25 w_23 w_26 v_packing v_packed w_30 w_29 v_spentAt v_ranChanges f_m_tape f_m_knee f_m_weight f_m_isLame f_m_loadWeight f_m_owner f_m_food f_m_miles f_m_slope f_m_clauseLetter f_m_sumFrom f_m_codeFrom f_m_codeTo f_m_code f_m_codeArg f_m_newLetter f_m_newSum f_m_newFrom f_m_newTo f_m_newCode f_m_newArg f_m_stack f_20 f_16 f_m_least f_m_packPounds f_m_packOwner f_m_room f_m_givenTo f_m_canBe f_m_setPounds f_m_plainTime f_m_muleTime f_m_planTo f_m_march f_17 f_m_ranMinutes f_m_tiredAhead f_m_isReached f_m_toEnd f_19 f_18 f_35 f_m_bandPaces) H → va_D A (wMD cy hm v_taped v_walkers v_loads v_pieces v_changeCosts v_planned v_isMarch v_clauseMany v_place v_end v_bad v_clauses v_codes v_open v_stacked v_isOver v_isBehind w_28 w_24 w_27 w_22 w_25 w_23 w_26 v_packing v_packed w_30 w_29 v_spentAt v_ranChanges f_m_tape f_m_knee f_m_weight f_m_isLame f_m_loadWeight f_m_owner f_m_food f_m_miles f_m_slope f_m_clauseLetter f_m_sumFrom f_m_codeFrom f_m_codeTo f_m_code f_m_codeArg f_m_newLetter f_m_newSum f_m_newFrom f_m_newTo f_m_newCode f_m_newArg f_m_stack f_20 f_16 f_m_least f_m_packPounds f_m_packOwner f_m_room f_m_givenTo f_m_canBe f_m_setPounds f_m_plainTime f_m_muleTime f_m_planTo f_m_march f_17 f_m_ranMinutes f_m_tiredAhead f_m_isReached f_m_toEnd f_19 f_18 f_35 f_m_bandPaces) → va_S A s.heap H locs → lv_has ls 3 [(1, .int l_36), (0, .ref (hm 0))] → W p l e (gRm 9) s m args below meth c H locs 0 0 Q (F0 m 134 ls []) := by
          intro n
          induction n with
          | zero => intro f_35 l_36 hL134_37_0 hm; exact absurd hm (by omega)
          | succ n ih134_37 =>
            intro f_35 l_36 hL134_37_0 hmL134_37 H locs ls hP hD hS hl
            refine lv_iload_n hx hb dX10_laysChanges_134 rfl (lv_at hl 0 rfl) ?_
            refine lv_bipush (v := 10) hx hb dX10_laysChanges_135 (by decide) ?_
            refine lv_icmp_ge (tgt := 155) hx hb dX10_laysChanges_137 (by decide) (fun c_38 => ?_) (fun c_38 => ?_)
            · have gc_38 : 10 ≤ l_36.toInt := i_le (by decide : (10 : Int32).toInt = 10) (rfl : l_36.toInt = l_36.toInt) c_38
              refine lv_iconst (v := 0) hx hb dX10_laysChanges_155 (by decide) ?_
              refine lv_istore_n (lv' := [(1, .int 0), (0, .ref (hm 0))]) hx hb dX10_laysChanges_156 rfl hl (by decide) rfl (fun ls hl => ?_)
              have L157_43 : ∀ (n : Nat) (f_41 : Nat → Int32) (l_42 : Int32), (0 ≤ l_42.toInt ∧ l_42.toInt ≤ 77760) → 77761 - l_42.toInt < n → ∀ (H : Heap) (locs : List Loc) (ls : Array Slot), va_P D vwCl (wMD cy hm v_taped v_walkers v_loads v_pieces v_changeCosts v_planned v_isMarch v_clauseMany v_place v_end v_bad v_clauses v_codes v_open v_stacked v_isOver v_isBehind w_28 w_24 w_27 w_22 w_25 w_23 w_26 v_packing v_packed w_30 w_29 v_spentAt v_ranChanges f_m_tape f_m_knee f_m_weight f_m_isLame f_m_loadWeight f_m_owner f_m_food f_m_miles f_m_slope f_m_clauseLetter f_m_sumFrom f_m_codeFrom f_m_codeTo f_m_code f_m_codeArg f_m_newLetter f_m_newSum f_m_newFrom f_m_newTo f_m_newCode f_m_newArg f_m_stack f_20 f_16 f_m_least f_m_packPounds f_m_packOwner f_m_room f_m_givenTo f_m_canBe f_m_setPounds f_m_plainTime f_m_muleTime f_m_planTo f_m_march f_17 f_m_ranMinutes f_m_tiredAhead f_m_isReached f_m_toEnd f_19 f_18 f_41 f_m_bandPaces) H → va_D A (wMD cy hm v_taped v_walkers v_loads v_pieces v_changeCosts v_planned v_isMarch v_clauseMany v_place v_end v_bad v_clauses v_codes v_open v_stacked v_isOver v_isBehind w_28 w_24 w_27 w_22 w_25 w_23 w_26 v_packing v_packed w_30 w_29 v_spentAt v_ranChanges f_m_tape f_m_knee f_m_weight f_m_isLame f_m_loadWeight f_m_owner f_m_food f_m_miles f_m_slope f_m_clauseLetter f_m_sumFrom f_m_codeFrom f_m_codeTo f_m_code f_m_codeArg f_m_newLetter f_m_newSum f_m_newFrom f_m_newTo f_m_newCode f_m_newArg f_m_stack f_20 f_16 f_m_least f_m_packPounds f_m_packOwner f_m_room f_m_givenTo f_m_canBe f_m_setPounds f_m_plainTime f_m_muleTime f_m_planTo f_m_march f_17 f_m_ranMinutes f_m_tiredAhead f_m_isReached f_m_toEnd f_19 f_18 f_41 f_m_bandPaces) → va_S A s.heap H locs → lv_has ls 3 [(1, .int l_42), (0, .ref (hm 0))] → W p l e (gRm 9) s m args below meth c H locs 0 0 Q (F0 m 157 ls []) := by
                intro n
                induction n with
                | zero => intro f_41 l_42 hL157_43_0 hm; exact absurd hm (by omega)
                | succ n ih157_43 =>
                  intro f_41 l_42 hL157_43_0 hmL157_43 H locs ls hP hD hS hl
                  refine lv_iload_n hx hb dX10_laysChanges_157 rfl (lv_at hl 0 rfl) ?_
                  refine lv_ldc hx hb hown (hts _ lwd_197) dX10_laysChanges_158 ?_
                  refine lv_icmp_ge (tgt := 214) hx hb dX10_laysChanges_160 (by decide) (fun c_44 => ?_) (fun c_44 => ?_)
                  · have gc_44 : 77760 ≤ l_42.toInt := i_le (by decide : (77760 : Int32).toInt = 77760) (rfl : l_42.toInt = l_42.toInt) c_44
                    exact hrt w_28 w_24 w_27 w_22 w_25 w_23 w_26 w_30 w_29 f_20 f_16 f_17 f_19 f_18 f_41 ⟨(by omega), (by omega), hL2_31_0, hL2_31_1⟩ hP hD hS dX10_laysChanges_214
                  · have gc_44 : l_42.toInt < 77760 := i_nle (by decide : (77760 : Int32).toInt = 77760) (rfl : l_42.toInt = l_42.toInt) c_44
                    refine lv_aload_n hx hb dX10_laysChanges_163 rfl (lv_at hl 1 rfl) ?_
                    refine gt_MD_MD_byChanges hx hb hts hown hK hP lwd_200 dX10_laysChanges_164 ?_
                    refine lv_iload_n hx hb dX10_laysChanges_167 rfl (lv_at hl 0 rfl) ?_
                    refine lv_bipush (v := 10) hx hb dX10_laysChanges_168 (by decide) ?_
                    refine lv_irem hx hb dX10_laysChanges_170 (by decide) ?_
                    refine lv_topi (fun n_45 en_45 => ?_)
                    have tn_45 : n_45.toInt = l_42.toInt % 10 := i_rem en_45 (rfl : l_42.toInt = l_42.toInt) (by decide : (10 : Int32).toInt = 10) (by omega) (by omega)
                    refine lv_aload_n hx hb dX10_laysChanges_171 rfl (lv_at hl 1 rfl) ?_
                    refine gt_MD_MD_upTo hx hb hts hown hK hP lwd_198 dX10_laysChanges_172 ?_
                    refine lv_iload_n hx hb dX10_laysChanges_175 rfl (lv_at hl 0 rfl) ?_
                    refine al_m_upTo hx hb hK hP (i_in (rfl : l_42.toInt = l_42.toInt) (by omega) (by omega)) dX10_laysChanges_176 (fun n_46 en_46 => ?_)
                    refine lv_aload_n hx hb dX10_laysChanges_177 rfl (lv_at hl 1 rfl) ?_
                    refine gt_MD_MD_byChanges hx hb hts hown hK hP lwd_200 dX10_laysChanges_178 ?_
                    refine lv_iload_n hx hb dX10_laysChanges_181 rfl (lv_at hl 0 rfl) ?_
                    refine lv_bipush (v := 10) hx hb dX10_laysChanges_182 (by decide) ?_
                    refine lv_irem hx hb dX10_laysChanges_184 (by decide) ?_
                    refine lv_topi (fun n_47 en_47 => ?_)
                    have tn_47 : n_47.toInt = l_42.toInt % 10 := i_rem en_47 (rfl : l_42.toInt = l_42.toInt) (by decide : (10 : Int32).toInt = 10) (by omega) (by omega)
                    refine al_m_byChanges hx hb hK hP (i_in tn_47 (by omega) (by omega)) dX10_laysChanges_185 (fun n_48 en_48 => ?_)
                    refine lv_icmp_ge (tgt := 198) hx hb dX10_laysChanges_186 (by decide) (fun c_49 => ?_) (fun c_49 => ?_)
                    · have gc_49 : n_48.toInt ≤ n_46.toInt := i_le (rfl : n_48.toInt = n_48.toInt) (rfl : n_46.toInt = n_46.toInt) c_49
                      refine lv_aload_n hx hb dX10_laysChanges_198 rfl (lv_at hl 1 rfl) ?_
                      refine gt_MD_MD_byChanges hx hb hts hown hK hP lwd_200 dX10_laysChanges_199 ?_
                      refine lv_iload_n hx hb dX10_laysChanges_202 rfl (lv_at hl 0 rfl) ?_
                      refine lv_bipush (v := 10) hx hb dX10_laysChanges_203 (by decide) ?_
                      refine lv_irem hx hb dX10_laysChanges_205 (by decide) ?_
                      refine lv_topi (fun n_50 en_50 => ?_)
                      have tn_50 : n_50.toInt = l_42.toInt % 10 := i_rem en_50 (rfl : l_42.toInt = l_42.toInt) (by decide : (10 : Int32).toInt = 10) (by omega) (by omega)
                      refine al_m_byChanges hx hb hK hP (i_in tn_50 (by omega) (by omega)) dX10_laysChanges_206 (fun n_51 en_51 => ?_)
                      refine as_m_byChanges (x := n_51) hx hb hK hP hD hS (i_in tn_45 (by omega) (by omega)) dX10_laysChanges_207 (fun f_52 ef_52 H locs hP hD hS => ?_)
                      obtain ⟨n_53, en_53⟩ : ∃ y : Int32, y = l_42 + 1 := ⟨_, rfl⟩
                      have tn_53 : n_53.toInt = l_42.toInt + 1 := i_add en_53 (rfl : l_42.toInt = l_42.toInt) (by decide : (1 : Int32).toInt = 1) (by omega) (by omega)
                      refine lv_iinc (v := n_53) (lv' := [(1, .int n_53), (0, .ref (hm 0))]) hx hb dX10_laysChanges_208 hl (k := 0) rfl (by rw [en_53]; rfl) (by decide) rfl (fun ls hl => ?_)
                      refine lv_goto (tgt := 157) hx hb dX10_laysChanges_211 (by decide) ?_
                      exact ih157_43 f_52 n_53 (by omega) (by omega) _ _ _ hP hD hS (lv_sub hl [0, 1] rfl)
                    · have gc_49 : n_46.toInt < n_48.toInt := i_nle (rfl : n_48.toInt = n_48.toInt) (rfl : n_46.toInt = n_46.toInt) c_49
                      refine lv_aload_n hx hb dX10_laysChanges_189 rfl (lv_at hl 1 rfl) ?_
                      refine gt_MD_MD_upTo hx hb hts hown hK hP lwd_198 dX10_laysChanges_190 ?_
                      refine lv_iload_n hx hb dX10_laysChanges_193 rfl (lv_at hl 0 rfl) ?_
                      refine al_m_upTo hx hb hK hP (i_in (rfl : l_42.toInt = l_42.toInt) (by omega) (by omega)) dX10_laysChanges_194 (fun n_54 en_54 => ?_)
                      obtain rfl : n_46 = n_54 := en_46.trans en_54.symm
                      refine lv_goto (tgt := 207) hx hb dX10_laysChanges_195 (by decide) ?_
                      refine as_m_byChanges (x := n_46) hx hb hK hP hD hS (i_in tn_45 (by omega) (by omega)) dX10_laysChanges_207 (fun f_55 ef_55 H locs hP hD hS => ?_)
                      obtain ⟨n_56, en_56⟩ : ∃ y : Int32, y = l_42 + 1 := ⟨_, rfl⟩
                      have tn_56 : n_56.toInt = l_42.toInt + 1 := i_add en_56 (rfl : l_42.toInt = l_42.toInt) (by decide : (1 : Int32).toInt = 1) (by omega) (by omega)
                      refine lv_iinc (v := n_56) (lv' := [(1, .int n_56), (0, .ref (hm 0))]) hx hb dX10_laysChanges_208 hl (k := 0) rfl (by rw [en_56]; rfl) (by decide) rfl (fun ls hl => ?_)
                      refine lv_goto (tgt := 157) hx hb dX10_laysChanges_211 (by decide) ?_
                      exact ih157_43 f_55 n_56 (by omega) (by omega) _ _ _ hP hD hS (lv_sub hl [0, 1] rfl)
              have k_57 : (0 : Int32).toInt = 0 := by decide
              exact L157_43 8589934592 f_35 0 (by omega) (by omega) _ _ _ hP hD hS (lv_sub hl [0, 1] rfl)
            · have gc_38 : l_36.toInt < 10 := i_nle (by decide : (10 : Int32).toInt = 10) (rfl : l_36.toInt = l_36.toInt) c_38
              refine lv_aload_n hx hb dX10_laysChanges_140 rfl (lv_at hl 1 rfl) ?_
              refine gt_MD_MD_byChanges hx hb hts hown hK hP lwd_200 dX10_laysChanges_141 ?_
              refine lv_iload_n hx hb dX10_laysChanges_144 rfl (lv_at hl 0 rfl) ?_
              refine lv_ldcw hx hb hown (hts _ lwd_827) dX10_laysChanges_145 ?_
              refine as_m_byChanges (x := 1000000000) hx hb hK hP hD hS (i_in (rfl : l_36.toInt = l_36.toInt) (by omega) (by omega)) dX10_laysChanges_148 (fun f_58 ef_58 H locs hP hD hS => ?_)
              obtain ⟨n_59, en_59⟩ : ∃ y : Int32, y = l_36 + 1 := ⟨_, rfl⟩
              have tn_59 : n_59.toInt = l_36.toInt + 1 := i_add en_59 (rfl : l_36.toInt = l_36.toInt) (by decide : (1 : Int32).toInt = 1) (by omega) (by omega)
              refine lv_iinc (v := n_59) (lv' := [(1, .int n_59), (0, .ref (hm 0))]) hx hb dX10_laysChanges_149 hl (k := 0) rfl (by rw [en_59]; rfl) (by decide) rfl (fun ls hl => ?_)
              refine lv_goto (tgt := 134) hx hb dX10_laysChanges_152 (by decide) ?_
              exact ih134_37 f_58 n_59 (by omega) (by omega) _ _ _ hP hD hS (lv_sub hl [0, 1] rfl)
        have k_60 : (0 : Int32).toInt = 0 := by decide
        exact L134_37 8589934592 f_m_byChanges 0 (by omega) (by omega) _ _ _ hP hD hS (lv_sub hl [0, 1] rfl)
      · have gc_32 : l_21.toInt < v_pieces.toInt := i_nle (rfl : v_pieces.toInt = v_pieces.toInt) (rfl : l_21.toInt = l_21.toInt) c_32
        refine lv_iconst (v := 0) hx hb dX10_laysChanges_10 (by decide) ?_
        refine lv_istore_n (lv' := [(2, .int 0), (1, .int l_21), (0, .ref (hm 0))]) hx hb dX10_laysChanges_11 rfl hl (by decide) rfl (fun ls hl => ?_)
        have L12_65 : ∀ (n : Nat) (f_63 : Nat → Int32) (l_64 : Int32), (0 ≤ l_64.toInt ∧ l_64.toInt ≤ 77760) → 77761 - l_64.toInt < n → ∀ (H : Heap) (locs : List Loc) (ls : Array Slot), va_P D vwCl (wMD cy hm v_taped v_walkers v_loads v_pieces v_changeCosts v_planned v_isMarch v_clauseMany v_place v_end v_bad v_clauses v_codes v_open v_stacked v_isOver v_isBehind w_28 w_24 w_27 w_22 w_25 w_23 w_26 v_packing v_packed w_30 w_29 v_spentAt v_ranChanges f_m_tape f_m_knee f_m_weight f_m_isLame f_m_loadWeight f_m_owner f_m_food f_m_miles f_m_slope f_m_clauseLetter f_m_sumFrom f_m_codeFrom f_m_codeTo f_m_code f_m_codeArg f_m_newLetter f_m_newSum f_m_newFrom f_m_newTo f_m_newCode f_m_newArg f_m_stack f_20 f_16 f_m_least f_m_packPounds f_m_packOwner f_m_room f_m_givenTo f_m_canBe f_m_setPounds f_m_plainTime f_m_muleTime f_m_planTo f_m_march f_17 f_m_ranMinutes f_m_tiredAhead f_m_isReached f_m_toEnd f_19 f_63 f_m_byChanges f_m_bandPaces) H → va_D A (wMD cy hm v_taped v_walkers v_loads v_pieces v_changeCosts v_planned v_isMarch v_clauseMany v_place v_end v_bad v_clauses v_codes v_open v_stacked v_isOver v_isBehind w_28 w_24 w_27 w_22 w_25 w_23 w_26 v_packing v_packed w_30 w_29 v_spentAt v_ranChanges f_m_tape f_m_knee f_m_weight f_m_isLame f_m_loadWeight f_m_owner f_m_food f_m_miles f_m_slope f_m_clauseLetter f_m_sumFrom f_m_codeFrom f_m_codeTo f_m_code f_m_codeArg f_m_newLetter f_m_newSum f_m_newFrom f_m_newTo f_m_newCode f_m_newArg f_m_stack f_20 f_16 f_m_least f_m_packPounds f_m_packOwner f_m_room f_m_givenTo f_m_canBe f_m_setPounds f_m_plainTime f_m_muleTime f_m_planTo f_m_march f_17 f_m_ranMinutes f_m_tiredAhead f_m_isReached f_m_toEnd f_19 f_63 f_m_byChanges f_m_bandPaces) → va_S A s.heap H locs → lv_has ls 3 [(2, .int l_64), (1, .int l_21), (0, .ref (hm 0))] → W p l e (gRm 9) s m args below meth c H locs 0 0 Q (F0 m 12 ls []) := by
          intro n
          induction n with
          | zero => intro f_63 l_64 hL12_65_0 hm; exact absurd hm (by omega)
          | succ n ih12_65 =>
            intro f_63 l_64 hL12_65_0 hmL12_65 H locs ls hP hD hS hl
            refine lv_iload_n hx hb dX10_laysChanges_12 rfl (lv_at hl 0 rfl) ?_
            refine lv_ldc hx hb hown (hts _ lwd_197) dX10_laysChanges_13 ?_
            refine lv_icmp_ge (tgt := 33) hx hb dX10_laysChanges_15 (by decide) (fun c_66 => ?_) (fun c_66 => ?_)
            · have gc_66 : 77760 ≤ l_64.toInt := i_le (by decide : (77760 : Int32).toInt = 77760) (rfl : l_64.toInt = l_64.toInt) c_66
              refine lv_iload_n hx hb dX10_laysChanges_33 rfl (lv_at hl 1 rfl) ?_
              refine lv_if_ne (tgt := 45) hx hb dX10_laysChanges_34 (by decide) (fun c_67 => ?_) (fun c_67 => ?_)
              · have gc_67 : l_21.toInt ≠ 0 := i_ne (rfl : l_21.toInt = l_21.toInt) (by decide : (0 : Int32).toInt = 0) c_67
                refine lv_iconst (v := 0) hx hb dX10_laysChanges_45 (by decide) ?_
                refine lv_istore_n (lv' := [(2, .int 0), (1, .int l_21), (0, .ref (hm 0))]) hx hb dX10_laysChanges_46 rfl hl (by decide) rfl (fun ls hl => ?_)
                have L47_96 : ∀ (n : Nat) (f_82 : Nat → Int32) (f_83 : Nat → Int32) (f_84 : Nat → Int32) (f_85 : Nat → Int32) (l_86 : Int32) (w_87 : Int32) (w_88 : Int32) (w_89 : Int32) (w_90 : Int32) (w_91 : Int32) (w_92 : Int32) (w_93 : Int32) (w_94 : Int32) (w_95 : Int32), (rg (0) 1 f_82) → (rg (0) 5 f_83) → (0 ≤ l_86.toInt ∧ l_86.toInt ≤ 77760) → (0 ≤ w_93.toInt ∧ w_93.toInt ≤ 5) → (0 ≤ w_95.toInt ∧ w_95.toInt ≤ 60) → 77761 - l_86.toInt < n → ∀ (H : Heap) (locs : List Loc) (ls : Array Slot), va_P D vwCl (wMD cy hm v_taped v_walkers v_loads v_pieces v_changeCosts v_planned v_isMarch v_clauseMany v_place v_end v_bad v_clauses v_codes v_open v_stacked v_isOver v_isBehind w_93 w_89 w_92 w_87 w_90 w_88 w_91 v_packing v_packed w_95 w_94 v_spentAt v_ranChanges f_m_tape f_m_knee f_m_weight f_m_isLame f_m_loadWeight f_m_owner f_m_food f_m_miles f_m_slope f_m_clauseLetter f_m_sumFrom f_m_codeFrom f_m_codeTo f_m_code f_m_codeArg f_m_newLetter f_m_newSum f_m_newFrom f_m_newTo f_m_newCode f_m_newArg f_m_stack f_85 f_82 f_m_least f_m_packPounds f_m_packOwner f_m_room f_m_givenTo f_m_canBe f_m_setPounds f_m_plainTime f_m_muleTime f_m_planTo f_m_march f_83 f_m_ranMinutes f_m_tiredAhead f_m_isReached f_m_toEnd f_19 f_84 f_m_byChanges f_m_bandPaces) H → va_D A (wMD cy hm v_taped v_walkers v_loads v_pieces v_changeCosts v_planned v_isMarch v_clauseMany v_place v_end v_bad v_clauses v_codes v_open v_stacked v_isOver v_isBehind w_93 w_89 w_92 w_87 w_90 w_88 w_91 v_packing v_packed w_95 w_94 v_spentAt v_ranChanges f_m_tape f_m_knee f_m_weight f_m_isLame f_m_loadWeight f_m_owner f_m_food f_m_miles f_m_slope f_m_clauseLetter f_m_sumFrom f_m_codeFrom f_m_codeTo f_m_code f_m_codeArg f_m_newLetter f_m_newSum f_m_newFrom f_m_newTo f_m_newCode f_m_newArg f_m_stack f_85 f_82 f_m_least f_m_packPounds f_m_packOwner f_m_room f_m_givenTo f_m_canBe f_m_setPounds f_m_plainTime f_m_muleTime f_m_planTo f_m_march f_83 f_m_ranMinutes f_m_tiredAhead f_m_isReached f_m_toEnd f_19 f_84 f_m_byChanges f_m_bandPaces) → va_S A s.heap H locs → lv_has ls 3 [(2, .int l_86), (1, .int l_21), (0, .ref (hm 0))] → W p l e (gRm 9) s m args below meth c H locs 0 0 Q (F0 m 47 ls []) := by
                  intro n
                  induction n with
                  | zero => intro f_82 f_83 f_84 f_85 l_86 w_87 w_88 w_89 w_90 w_91 w_92 w_93 w_94 w_95 hL47_96_0 hL47_96_1 hL47_96_2 hL47_96_3 hL47_96_4 hm; exact absurd hm (by omega)
                  | succ n ih47_96 =>
                    intro f_82 f_83 f_84 f_85 l_86 w_87 w_88 w_89 w_90 w_91 w_92 w_93 w_94 w_95 hL47_96_0 hL47_96_1 hL47_96_2 hL47_96_3 hL47_96_4 hmL47_96 H locs ls hP hD hS hl
                    refine lv_iload_n hx hb dX10_laysChanges_47 rfl (lv_at hl 0 rfl) ?_
                    refine lv_ldc hx hb hown (hts _ lwd_197) dX10_laysChanges_48 ?_
                    refine lv_icmp_ge (tgt := 100) hx hb dX10_laysChanges_50 (by decide) (fun c_97 => ?_) (fun c_97 => ?_)
                    · have gc_97 : 77760 ≤ l_86.toInt := i_le (by decide : (77760 : Int32).toInt = 77760) (rfl : l_86.toInt = l_86.toInt) c_97
                      refine lv_iconst (v := 0) hx hb dX10_laysChanges_100 (by decide) ?_
                      refine lv_istore_n (lv' := [(2, .int 0), (1, .int l_21), (0, .ref (hm 0))]) hx hb dX10_laysChanges_101 rfl hl (by decide) rfl (fun ls hl => ?_)
                      have L102_102 : ∀ (n : Nat) (f_100 : Nat → Int32) (l_101 : Int32), (0 ≤ l_101.toInt ∧ l_101.toInt ≤ 77760) → 77761 - l_101.toInt < n → ∀ (H : Heap) (locs : List Loc) (ls : Array Slot), va_P D vwCl (wMD cy hm v_taped v_walkers v_loads v_pieces v_changeCosts v_planned v_isMarch v_clauseMany v_place v_end v_bad v_clauses v_codes v_open v_stacked v_isOver v_isBehind w_93 w_89 w_92 w_87 w_90 w_88 w_91 v_packing v_packed w_95 w_94 v_spentAt v_ranChanges f_m_tape f_m_knee f_m_weight f_m_isLame f_m_loadWeight f_m_owner f_m_food f_m_miles f_m_slope f_m_clauseLetter f_m_sumFrom f_m_codeFrom f_m_codeTo f_m_code f_m_codeArg f_m_newLetter f_m_newSum f_m_newFrom f_m_newTo f_m_newCode f_m_newArg f_m_stack f_85 f_82 f_m_least f_m_packPounds f_m_packOwner f_m_room f_m_givenTo f_m_canBe f_m_setPounds f_m_plainTime f_m_muleTime f_m_planTo f_m_march f_83 f_m_ranMinutes f_m_tiredAhead f_m_isReached f_m_toEnd f_100 f_84 f_m_byChanges f_m_bandPaces) H → va_D A (wMD cy hm v_taped v_walkers v_loads v_pieces v_changeCosts v_planned v_isMarch v_clauseMany v_place v_end v_bad v_clauses v_codes v_open v_stacked v_isOver v_isBehind w_93 w_89 w_92 w_87 w_90 w_88 w_91 v_packing v_packed w_95 w_94 v_spentAt v_ranChanges f_m_tape f_m_knee f_m_weight f_m_isLame f_m_loadWeight f_m_owner f_m_food f_m_miles f_m_slope f_m_clauseLetter f_m_sumFrom f_m_codeFrom f_m_codeTo f_m_code f_m_codeArg f_m_newLetter f_m_newSum f_m_newFrom f_m_newTo f_m_newCode f_m_newArg f_m_stack f_85 f_82 f_m_least f_m_packPounds f_m_packOwner f_m_room f_m_givenTo f_m_canBe f_m_setPounds f_m_plainTime f_m_muleTime f_m_planTo f_m_march f_83 f_m_ranMinutes f_m_tiredAhead f_m_isReached f_m_toEnd f_100 f_84 f_m_byChanges f_m_bandPaces) → va_S A s.heap H locs → lv_has ls 3 [(2, .int l_101), (1, .int l_21), (0, .ref (hm 0))] → W p l e (gRm 9) s m args below meth c H locs 0 0 Q (F0 m 102 ls []) := by
                        intro n
                        induction n with
                        | zero => intro f_100 l_101 hL102_102_0 hm; exact absurd hm (by omega)
                        | succ n ih102_102 =>
                          intro f_100 l_101 hL102_102_0 hmL102_102 H locs ls hP hD hS hl
                          refine lv_iload_n hx hb dX10_laysChanges_102 rfl (lv_at hl 0 rfl) ?_
                          refine lv_ldc hx hb hown (hts _ lwd_197) dX10_laysChanges_103 ?_
                          refine lv_icmp_ge (tgt := 126) hx hb dX10_laysChanges_105 (by decide) (fun c_103 => ?_) (fun c_103 => ?_)
                          · have gc_103 : 77760 ≤ l_101.toInt := i_le (by decide : (77760 : Int32).toInt = 77760) (rfl : l_101.toInt = l_101.toInt) c_103
                            obtain ⟨n_104, en_104⟩ : ∃ y : Int32, y = l_21 + 1 := ⟨_, rfl⟩
                            have tn_104 : n_104.toInt = l_21.toInt + 1 := i_add en_104 (rfl : l_21.toInt = l_21.toInt) (by decide : (1 : Int32).toInt = 1) (by omega) (by omega)
                            refine lv_iinc (v := n_104) (lv' := [(1, .int n_104), (2, .int l_101), (0, .ref (hm 0))]) hx hb dX10_laysChanges_126 hl (k := 1) rfl (by rw [en_104]; rfl) (by decide) rfl (fun ls hl => ?_)
                            refine lv_goto (tgt := 2) hx hb dX10_laysChanges_129 (by decide) ?_
                            exact ih2_31 f_82 f_83 f_84 f_100 f_85 n_104 w_87 w_88 w_89 w_90 w_91 w_92 w_93 w_94 w_95 hL47_96_0 hL47_96_1 (by omega) (by omega) (by omega) (by omega) _ _ _ hP hD hS (lv_sub hl [0, 2] rfl)
                          · have gc_103 : l_101.toInt < 77760 := i_nle (by decide : (77760 : Int32).toInt = 77760) (rfl : l_101.toInt = l_101.toInt) c_103
                            refine lv_aload_n hx hb dX10_laysChanges_108 rfl (lv_at hl 2 rfl) ?_
                            refine gt_MD_MD_upTo hx hb hts hown hK hP lwd_198 dX10_laysChanges_109 ?_
                            refine lv_iload_n hx hb dX10_laysChanges_112 rfl (lv_at hl 0 rfl) ?_
                            refine lv_aload_n hx hb dX10_laysChanges_113 rfl (lv_at hl 2 rfl) ?_
                            refine gt_MD_MD_upNext hx hb hts hown hK hP lwd_199 dX10_laysChanges_114 ?_
                            refine lv_iload_n hx hb dX10_laysChanges_117 rfl (lv_at hl 0 rfl) ?_
                            refine al_m_upNext hx hb hK hP (i_in (rfl : l_101.toInt = l_101.toInt) (by omega) (by omega)) dX10_laysChanges_118 (fun n_105 en_105 => ?_)
                            refine as_m_upTo (x := n_105) hx hb hK hP hD hS (i_in (rfl : l_101.toInt = l_101.toInt) (by omega) (by omega)) dX10_laysChanges_119 (fun f_106 ef_106 H locs hP hD hS => ?_)
                            obtain ⟨n_107, en_107⟩ : ∃ y : Int32, y = l_101 + 1 := ⟨_, rfl⟩
                            have tn_107 : n_107.toInt = l_101.toInt + 1 := i_add en_107 (rfl : l_101.toInt = l_101.toInt) (by decide : (1 : Int32).toInt = 1) (by omega) (by omega)
                            refine lv_iinc (v := n_107) (lv' := [(2, .int n_107), (1, .int l_21), (0, .ref (hm 0))]) hx hb dX10_laysChanges_120 hl (k := 0) rfl (by rw [en_107]; rfl) (by decide) rfl (fun ls hl => ?_)
                            refine lv_goto (tgt := 102) hx hb dX10_laysChanges_123 (by decide) ?_
                            exact ih102_102 f_106 n_107 (by omega) (by omega) _ _ _ hP hD hS (lv_sub hl [0, 1, 2] rfl)
                      have k_108 : (0 : Int32).toInt = 0 := by decide
                      exact L102_102 8589934592 f_19 0 (by omega) (by omega) _ _ _ hP hD hS (lv_sub hl [0, 1, 2] rfl)
                    · have gc_97 : l_86.toInt < 77760 := i_nle (by decide : (77760 : Int32).toInt = 77760) (rfl : l_86.toInt = l_86.toInt) c_97
                      refine lv_iload_n hx hb dX10_laysChanges_53 rfl (lv_at hl 1 rfl) ?_
                      refine lv_if_le (tgt := 100) hx hb dX10_laysChanges_54 (by decide) (fun c_109 => ?_) (fun c_109 => ?_)
                      · have gc_109 : l_21.toInt ≤ 0 := i_le (rfl : l_21.toInt = l_21.toInt) (by decide : (0 : Int32).toInt = 0) c_109
                        exact absurd gc_109 (by omega)
                      · have gc_109 : 0 < l_21.toInt := i_nle (rfl : l_21.toInt = l_21.toInt) (by decide : (0 : Int32).toInt = 0) c_109
                        refine lv_aload_n hx hb dX10_laysChanges_57 rfl (lv_at hl 2 rfl) ?_
                        refine gt_MD_MD_upTo hx hb hts hown hK hP lwd_198 dX10_laysChanges_58 ?_
                        refine lv_iload_n hx hb dX10_laysChanges_61 rfl (lv_at hl 0 rfl) ?_
                        refine al_m_upTo hx hb hK hP (i_in (rfl : l_86.toInt = l_86.toInt) (by omega) (by omega)) dX10_laysChanges_62 (fun n_110 en_110 => ?_)
                        refine lv_ldcw hx hb hown (hts _ lwd_827) dX10_laysChanges_63 ?_
                        refine lv_icmp_ge (tgt := 94) hx hb dX10_laysChanges_66 (by decide) (fun c_111 => ?_) (fun c_111 => ?_)
                        · have gc_111 : 1000000000 ≤ n_110.toInt := i_le (by decide : (1000000000 : Int32).toInt = 1000000000) (rfl : n_110.toInt = n_110.toInt) c_111
                          obtain ⟨n_112, en_112⟩ : ∃ y : Int32, y = l_86 + 1 := ⟨_, rfl⟩
                          have tn_112 : n_112.toInt = l_86.toInt + 1 := i_add en_112 (rfl : l_86.toInt = l_86.toInt) (by decide : (1 : Int32).toInt = 1) (by omega) (by omega)
                          refine lv_iinc (v := n_112) (lv' := [(2, .int n_112), (1, .int l_21), (0, .ref (hm 0))]) hx hb dX10_laysChanges_94 hl (k := 0) rfl (by rw [en_112]; rfl) (by decide) rfl (fun ls hl => ?_)
                          refine lv_goto (tgt := 47) hx hb dX10_laysChanges_97 (by decide) ?_
                          exact ih47_96 f_82 f_83 f_84 f_85 n_112 w_87 w_88 w_89 w_90 w_91 w_92 w_93 w_94 w_95 hL47_96_0 hL47_96_1 (by omega) (by omega) (by omega) (by omega) _ _ _ hP hD hS (lv_sub hl [0, 1, 2] rfl)
                        · have gc_111 : n_110.toInt < 1000000000 := i_nle (by decide : (1000000000 : Int32).toInt = 1000000000) (rfl : n_110.toInt = n_110.toInt) c_111
                          refine lv_aload_n hx hb dX10_laysChanges_69 rfl (lv_at hl 2 rfl) ?_
                          refine lv_iload_n hx hb dX10_laysChanges_70 rfl (lv_at hl 1 rfl) ?_
                          refine lv_iload_n hx hb dX10_laysChanges_71 rfl (lv_at hl 0 rfl) ?_
                          refine lv_bipush (v := 10) hx hb dX10_laysChanges_72 (by decide) ?_
                          refine lv_idiv hx hb dX10_laysChanges_74 (by decide) ?_
                          refine lv_topi (fun n_113 en_113 => ?_)
                          have tn_113 : n_113.toInt = l_86.toInt / 10 := i_div en_113 (rfl : l_86.toInt = l_86.toInt) (by decide : (10 : Int32).toInt = 10) (by omega) (by omega)
                          refine lv_sipush (v := 1296) hx hb dX10_laysChanges_75 (by decide) ?_
                          refine lv_idiv hx hb dX10_laysChanges_78 (by decide) ?_
                          refine lv_topi (fun n_114 en_114 => ?_)
                          have tn_114 : n_114.toInt = (l_86.toInt / 10) / 1296 := i_div en_114 tn_113 (by decide : (1296 : Int32).toInt = 1296) (by omega) (by omega)
                          refine lv_iload_n hx hb dX10_laysChanges_79 rfl (lv_at hl 0 rfl) ?_
                          refine lv_bipush (v := 10) hx hb dX10_laysChanges_80 (by decide) ?_
                          refine lv_idiv hx hb dX10_laysChanges_82 (by decide) ?_
                          refine lv_topi (fun n_115 en_115 => ?_)
                          have tn_115 : n_115.toInt = l_86.toInt / 10 := i_div en_115 (rfl : l_86.toInt = l_86.toInt) (by decide : (10 : Int32).toInt = 10) (by omega) (by omega)
                          refine lv_sipush (v := 1296) hx hb dX10_laysChanges_83 (by decide) ?_
                          refine lv_irem hx hb dX10_laysChanges_86 (by decide) ?_
                          refine lv_topi (fun n_116 en_116 => ?_)
                          have tn_116 : n_116.toInt = (l_86.toInt / 10) % 1296 := i_rem en_116 tn_115 (by decide : (1296 : Int32).toInt = 1296) (by omega) (by omega)
                          refine lv_iload_n hx hb dX10_laysChanges_87 rfl (lv_at hl 0 rfl) ?_
                          refine lv_bipush (v := 10) hx hb dX10_laysChanges_88 (by decide) ?_
                          refine lv_irem hx hb dX10_laysChanges_90 (by decide) ?_
                          refine lv_topi (fun n_117 en_117 => ?_)
                          have tn_117 : n_117.toInt = l_86.toInt % 10 := i_rem en_117 (rfl : l_86.toInt = l_86.toInt) (by decide : (10 : Int32).toInt = 10) (by omega) (by omega)
                          refine xv hD hS hA (xV (As := [.int l_21, .int n_114, .int n_116, .int n_117]) (rest := []) hx hb hml hown hts hK hP hD hS hA NT_ok hN hAe hl.1 ⟨Nat.le_refl _, Nat.le_refl _⟩ 0 rfl rfl rfl (c_X10_goesFrom l D cy hm v_taped v_walkers v_loads v_pieces v_changeCosts v_planned v_isMarch v_clauseMany v_place v_end v_bad v_clauses v_codes v_open v_stacked v_isOver v_isBehind w_93 w_89 w_92 w_87 w_90 w_88 w_91 v_packing v_packed w_95 w_94 v_spentAt v_ranChanges f_m_tape f_m_knee f_m_weight f_m_isLame f_m_loadWeight f_m_owner f_m_food f_m_miles f_m_slope f_m_clauseLetter f_m_sumFrom f_m_codeFrom f_m_codeTo f_m_code f_m_codeArg f_m_newLetter f_m_newSum f_m_newFrom f_m_newTo f_m_newCode f_m_newArg f_m_stack f_85 f_82 f_m_least f_m_packPounds f_m_packOwner f_m_room f_m_givenTo f_m_canBe f_m_setPounds f_m_plainTime f_m_muleTime f_m_planTo f_m_march f_83 f_m_ranMinutes f_m_tiredAhead f_m_isReached f_m_toEnd f_19 f_84 f_m_byChanges f_m_bandPaces H.size l_21 n_114 n_116 n_117 (by omega) (by omega) (by omega) (by omega) (by omega) hr_m_weight hr_m_isLame hr_m_loadWeight hr_m_food hr_m_miles hL47_96_0 hL47_96_1 (by omega) (by omega) (by omega) (by omega) hwf (by omega)) (gi_V lwd_1143 lwd_1144 lwd_1145 lwd_5 lwd_1146) ⟨rfl, hd_X10_goesFrom⟩ ⟨Nat.le_of_ble_eq_true rfl, Nat.le_of_ble_eq_true rfl⟩ rfl (Nat.le_of_ble_eq_true rfl) dX10_laysChanges_91) (fun u_118 H locs hw hP hD hS => ?_)
                          obtain ⟨zatW_120, zatL_121, zatT_122, zatH_123, zatM_124, zatI_125, zatQ_126, zgoPace_127, zgoMinutes_128, zworth_129, zisRefused_130, ztired_131, zupNext_132⟩ := u_118
                          try dsimp only at hw hP hD
                          obtain ⟨p_133, p_134, p_135, p_136⟩ := hw
                          obtain ⟨n_137, en_137⟩ : ∃ y : Int32, y = l_86 + 1 := ⟨_, rfl⟩
                          have tn_137 : n_137.toInt = l_86.toInt + 1 := i_add en_137 (rfl : l_86.toInt = l_86.toInt) (by decide : (1 : Int32).toInt = 1) (by omega) (by omega)
                          refine lv_iinc (v := n_137) (lv' := [(2, .int n_137), (1, .int l_21), (0, .ref (hm 0))]) hx hb dX10_laysChanges_94 hl (k := 0) rfl (by rw [en_137]; rfl) (by decide) rfl (fun ls hl => ?_)
                          refine lv_goto (tgt := 47) hx hb dX10_laysChanges_97 (by decide) ?_
                          exact ih47_96 zisRefused_130 ztired_131 zupNext_132 zworth_129 n_137 zatH_123 zatI_125 zatL_121 zatM_124 zatQ_126 zatT_122 zatW_120 zgoMinutes_128 zgoPace_127 p_135 p_136 (by omega) (by omega) (by omega) (by omega) _ _ _ hP hD hS (lv_sub hl [0, 1, 2] rfl)
                have k_138 : (0 : Int32).toInt = 0 := by decide
                exact L47_96 8589934592 f_16 f_17 f_63 f_20 0 w_22 w_23 w_24 w_25 w_26 w_27 w_28 w_29 w_30 hL2_31_0 hL2_31_1 (by omega) (by omega) (by omega) (by omega) _ _ _ hP hD hS (lv_sub hl [0, 1, 2] rfl)
              · have gc_67 : l_21.toInt = 0 := i_eq (rfl : l_21.toInt = l_21.toInt) (by decide : (0 : Int32).toInt = 0) c_67
                refine lv_aload_n hx hb dX10_laysChanges_37 rfl (lv_at hl 2 rfl) ?_
                refine lv_iconst (v := 0) hx hb dX10_laysChanges_38 (by decide) ?_
                refine lv_iconst (v := 0) hx hb dX10_laysChanges_39 (by decide) ?_
                refine lv_iconst (v := 0) hx hb dX10_laysChanges_40 (by decide) ?_
                refine lv_iconst (v := 0) hx hb dX10_laysChanges_41 (by decide) ?_
                have k_139 : (0 : Int32).toInt = 0 := by decide
                refine xv hD hS hA (xV (As := [.int 0, .int 0, .int 0, .int 0]) (rest := []) hx hb hml hown hts hK hP hD hS hA NT_ok hN hAe hl.1 ⟨Nat.le_refl _, Nat.le_refl _⟩ 0 rfl rfl rfl (c_X10_goesFrom l D cy hm v_taped v_walkers v_loads v_pieces v_changeCosts v_planned v_isMarch v_clauseMany v_place v_end v_bad v_clauses v_codes v_open v_stacked v_isOver v_isBehind w_28 w_24 w_27 w_22 w_25 w_23 w_26 v_packing v_packed w_30 w_29 v_spentAt v_ranChanges f_m_tape f_m_knee f_m_weight f_m_isLame f_m_loadWeight f_m_owner f_m_food f_m_miles f_m_slope f_m_clauseLetter f_m_sumFrom f_m_codeFrom f_m_codeTo f_m_code f_m_codeArg f_m_newLetter f_m_newSum f_m_newFrom f_m_newTo f_m_newCode f_m_newArg f_m_stack f_20 f_16 f_m_least f_m_packPounds f_m_packOwner f_m_room f_m_givenTo f_m_canBe f_m_setPounds f_m_plainTime f_m_muleTime f_m_planTo f_m_march f_17 f_m_ranMinutes f_m_tiredAhead f_m_isReached f_m_toEnd f_19 f_63 f_m_byChanges f_m_bandPaces H.size 0 0 0 0 (by omega) (by omega) (by omega) (by omega) (by omega) hr_m_weight hr_m_isLame hr_m_loadWeight hr_m_food hr_m_miles hL2_31_0 hL2_31_1 (by omega) (by omega) (by omega) (by omega) hwf (by omega)) (gi_V lwd_1143 lwd_1144 lwd_1145 lwd_5 lwd_1146) ⟨rfl, hd_X10_goesFrom⟩ ⟨Nat.le_of_ble_eq_true rfl, Nat.le_of_ble_eq_true rfl⟩ rfl (Nat.le_of_ble_eq_true rfl) dX10_laysChanges_42) (fun u_140 H locs hw hP hD hS => ?_)
                obtain ⟨zatW_142, zatL_143, zatT_144, zatH_145, zatM_146, zatI_147, zatQ_148, zgoPace_149, zgoMinutes_150, zworth_151, zisRefused_152, ztired_153, zupNext_154⟩ := u_140
                try dsimp only at hw hP hD
                obtain ⟨p_155, p_156, p_157, p_158⟩ := hw
                refine lv_iconst (v := 0) hx hb dX10_laysChanges_45 (by decide) ?_
                refine lv_istore_n (lv' := [(2, .int 0), (1, .int l_21), (0, .ref (hm 0))]) hx hb dX10_laysChanges_46 rfl hl (by decide) rfl (fun ls hl => ?_)
                have L47_159 : ∀ (n : Nat) , 77761 - 0 < n → ∀ (H : Heap) (locs : List Loc) (ls : Array Slot), va_P D vwCl (wMD cy hm v_taped v_walkers v_loads v_pieces v_changeCosts v_planned v_isMarch v_clauseMany v_place v_end v_bad v_clauses v_codes v_open v_stacked v_isOver v_isBehind zatW_142 zatL_143 zatT_144 zatH_145 zatM_146 zatI_147 zatQ_148 v_packing v_packed zgoPace_149 zgoMinutes_150 v_spentAt v_ranChanges f_m_tape f_m_knee f_m_weight f_m_isLame f_m_loadWeight f_m_owner f_m_food f_m_miles f_m_slope f_m_clauseLetter f_m_sumFrom f_m_codeFrom f_m_codeTo f_m_code f_m_codeArg f_m_newLetter f_m_newSum f_m_newFrom f_m_newTo f_m_newCode f_m_newArg f_m_stack zworth_151 zisRefused_152 f_m_least f_m_packPounds f_m_packOwner f_m_room f_m_givenTo f_m_canBe f_m_setPounds f_m_plainTime f_m_muleTime f_m_planTo f_m_march ztired_153 f_m_ranMinutes f_m_tiredAhead f_m_isReached f_m_toEnd f_19 zupNext_154 f_m_byChanges f_m_bandPaces) H → va_D A (wMD cy hm v_taped v_walkers v_loads v_pieces v_changeCosts v_planned v_isMarch v_clauseMany v_place v_end v_bad v_clauses v_codes v_open v_stacked v_isOver v_isBehind zatW_142 zatL_143 zatT_144 zatH_145 zatM_146 zatI_147 zatQ_148 v_packing v_packed zgoPace_149 zgoMinutes_150 v_spentAt v_ranChanges f_m_tape f_m_knee f_m_weight f_m_isLame f_m_loadWeight f_m_owner f_m_food f_m_miles f_m_slope f_m_clauseLetter f_m_sumFrom f_m_codeFrom f_m_codeTo f_m_code f_m_codeArg f_m_newLetter f_m_newSum f_m_newFrom f_m_newTo f_m_newCode f_m_newArg f_m_stack zworth_151 zisRefused_152 f_m_least f_m_packPounds f_m_packOwner f_m_room f_m_givenTo f_m_canBe f_m_setPounds f_m_plainTime f_m_muleTime f_m_planTo f_m_march ztired_153 f_m_ranMinutes f_m_tiredAhead f_m_isReached f_m_toEnd f_19 zupNext_154 f_m_byChanges f_m_bandPaces) → va_S A s.heap H locs → lv_has ls 3 [(2, .int 0), (1, .int l_21), (0, .ref (hm 0))] → W p l e (gRm 9) s m args below meth c H locs 0 0 Q (F0 m 47 ls []) := by
                  intro n
                  induction n with
                  | zero => intro   hm; exact absurd hm (by omega)
                  | succ n ih47_159 =>
                    intro   hmL47_159 H locs ls hP hD hS hl
                    refine lv_iload_n hx hb dX10_laysChanges_47 rfl (lv_at hl 0 rfl) ?_
                    refine lv_ldc hx hb hown (hts _ lwd_197) dX10_laysChanges_48 ?_
                    refine lv_icmp_ge (tgt := 100) hx hb dX10_laysChanges_50 (by decide) (fun c_160 => ?_) (fun c_160 => ?_)
                    · exact absurd c_160 (by decide)
                    · skip
                      refine lv_iload_n hx hb dX10_laysChanges_53 rfl (lv_at hl 1 rfl) ?_
                      refine lv_if_le (tgt := 100) hx hb dX10_laysChanges_54 (by decide) (fun c_161 => ?_) (fun c_161 => ?_)
                      · have gc_161 : l_21.toInt ≤ 0 := i_le (rfl : l_21.toInt = l_21.toInt) (by decide : (0 : Int32).toInt = 0) c_161
                        refine lv_iconst (v := 0) hx hb dX10_laysChanges_100 (by decide) ?_
                        refine lv_istore_n (lv' := [(2, .int 0), (1, .int l_21), (0, .ref (hm 0))]) hx hb dX10_laysChanges_101 rfl hl (by decide) rfl (fun ls hl => ?_)
                        have L102_166 : ∀ (n : Nat) (f_164 : Nat → Int32) (l_165 : Int32), (0 ≤ l_165.toInt ∧ l_165.toInt ≤ 77760) → 77761 - l_165.toInt < n → ∀ (H : Heap) (locs : List Loc) (ls : Array Slot), va_P D vwCl (wMD cy hm v_taped v_walkers v_loads v_pieces v_changeCosts v_planned v_isMarch v_clauseMany v_place v_end v_bad v_clauses v_codes v_open v_stacked v_isOver v_isBehind zatW_142 zatL_143 zatT_144 zatH_145 zatM_146 zatI_147 zatQ_148 v_packing v_packed zgoPace_149 zgoMinutes_150 v_spentAt v_ranChanges f_m_tape f_m_knee f_m_weight f_m_isLame f_m_loadWeight f_m_owner f_m_food f_m_miles f_m_slope f_m_clauseLetter f_m_sumFrom f_m_codeFrom f_m_codeTo f_m_code f_m_codeArg f_m_newLetter f_m_newSum f_m_newFrom f_m_newTo f_m_newCode f_m_newArg f_m_stack zworth_151 zisRefused_152 f_m_least f_m_packPounds f_m_packOwner f_m_room f_m_givenTo f_m_canBe f_m_setPounds f_m_plainTime f_m_muleTime f_m_planTo f_m_march ztired_153 f_m_ranMinutes f_m_tiredAhead f_m_isReached f_m_toEnd f_164 zupNext_154 f_m_byChanges f_m_bandPaces) H → va_D A (wMD cy hm v_taped v_walkers v_loads v_pieces v_changeCosts v_planned v_isMarch v_clauseMany v_place v_end v_bad v_clauses v_codes v_open v_stacked v_isOver v_isBehind zatW_142 zatL_143 zatT_144 zatH_145 zatM_146 zatI_147 zatQ_148 v_packing v_packed zgoPace_149 zgoMinutes_150 v_spentAt v_ranChanges f_m_tape f_m_knee f_m_weight f_m_isLame f_m_loadWeight f_m_owner f_m_food f_m_miles f_m_slope f_m_clauseLetter f_m_sumFrom f_m_codeFrom f_m_codeTo f_m_code f_m_codeArg f_m_newLetter f_m_newSum f_m_newFrom f_m_newTo f_m_newCode f_m_newArg f_m_stack zworth_151 zisRefused_152 f_m_least f_m_packPounds f_m_packOwner f_m_room f_m_givenTo f_m_canBe f_m_setPounds f_m_plainTime f_m_muleTime f_m_planTo f_m_march ztired_153 f_m_ranMinutes f_m_tiredAhead f_m_isReached f_m_toEnd f_164 zupNext_154 f_m_byChanges f_m_bandPaces) → va_S A s.heap H locs → lv_has ls 3 [(2, .int l_165), (1, .int l_21), (0, .ref (hm 0))] → W p l e (gRm 9) s m args below meth c H locs 0 0 Q (F0 m 102 ls []) := by
                          intro n
                          induction n with
                          | zero => intro f_164 l_165 hL102_166_0 hm; exact absurd hm (by omega)
                          | succ n ih102_166 =>
                            intro f_164 l_165 hL102_166_0 hmL102_166 H locs ls hP hD hS hl
                            refine lv_iload_n hx hb dX10_laysChanges_102 rfl (lv_at hl 0 rfl) ?_
                            refine lv_ldc hx hb hown (hts _ lwd_197) dX10_laysChanges_103 ?_
                            refine lv_icmp_ge (tgt := 126) hx hb dX10_laysChanges_105 (by decide) (fun c_167 => ?_) (fun c_167 => ?_)
                            · have gc_167 : 77760 ≤ l_165.toInt := i_le (by decide : (77760 : Int32).toInt = 77760) (rfl : l_165.toInt = l_165.toInt) c_167
                              obtain ⟨n_168, en_168⟩ : ∃ y : Int32, y = l_21 + 1 := ⟨_, rfl⟩
                              have tn_168 : n_168.toInt = l_21.toInt + 1 := i_add en_168 (rfl : l_21.toInt = l_21.toInt) (by decide : (1 : Int32).toInt = 1) (by omega) (by omega)
                              refine lv_iinc (v := n_168) (lv' := [(1, .int n_168), (2, .int l_165), (0, .ref (hm 0))]) hx hb dX10_laysChanges_126 hl (k := 1) rfl (by rw [en_168]; rfl) (by decide) rfl (fun ls hl => ?_)
                              refine lv_goto (tgt := 2) hx hb dX10_laysChanges_129 (by decide) ?_
                              exact ih2_31 zisRefused_152 ztired_153 zupNext_154 f_164 zworth_151 n_168 zatH_145 zatI_147 zatL_143 zatM_146 zatQ_148 zatT_144 zatW_142 zgoMinutes_150 zgoPace_149 p_157 p_158 (by omega) (by omega) (by omega) (by omega) _ _ _ hP hD hS (lv_sub hl [0, 2] rfl)
                            · have gc_167 : l_165.toInt < 77760 := i_nle (by decide : (77760 : Int32).toInt = 77760) (rfl : l_165.toInt = l_165.toInt) c_167
                              refine lv_aload_n hx hb dX10_laysChanges_108 rfl (lv_at hl 2 rfl) ?_
                              refine gt_MD_MD_upTo hx hb hts hown hK hP lwd_198 dX10_laysChanges_109 ?_
                              refine lv_iload_n hx hb dX10_laysChanges_112 rfl (lv_at hl 0 rfl) ?_
                              refine lv_aload_n hx hb dX10_laysChanges_113 rfl (lv_at hl 2 rfl) ?_
                              refine gt_MD_MD_upNext hx hb hts hown hK hP lwd_199 dX10_laysChanges_114 ?_
                              refine lv_iload_n hx hb dX10_laysChanges_117 rfl (lv_at hl 0 rfl) ?_
                              refine al_m_upNext hx hb hK hP (i_in (rfl : l_165.toInt = l_165.toInt) (by omega) (by omega)) dX10_laysChanges_118 (fun n_169 en_169 => ?_)
                              refine as_m_upTo (x := n_169) hx hb hK hP hD hS (i_in (rfl : l_165.toInt = l_165.toInt) (by omega) (by omega)) dX10_laysChanges_119 (fun f_170 ef_170 H locs hP hD hS => ?_)
                              obtain ⟨n_171, en_171⟩ : ∃ y : Int32, y = l_165 + 1 := ⟨_, rfl⟩
                              have tn_171 : n_171.toInt = l_165.toInt + 1 := i_add en_171 (rfl : l_165.toInt = l_165.toInt) (by decide : (1 : Int32).toInt = 1) (by omega) (by omega)
                              refine lv_iinc (v := n_171) (lv' := [(2, .int n_171), (1, .int l_21), (0, .ref (hm 0))]) hx hb dX10_laysChanges_120 hl (k := 0) rfl (by rw [en_171]; rfl) (by decide) rfl (fun ls hl => ?_)
                              refine lv_goto (tgt := 102) hx hb dX10_laysChanges_123 (by decide) ?_
                              exact ih102_166 f_170 n_171 (by omega) (by omega) _ _ _ hP hD hS (lv_sub hl [0, 1, 2] rfl)
                        have k_172 : (0 : Int32).toInt = 0 := by decide
                        exact L102_166 8589934592 f_19 0 (by omega) (by omega) _ _ _ hP hD hS (lv_sub hl [0, 1, 2] rfl)
                      · have gc_161 : 0 < l_21.toInt := i_nle (rfl : l_21.toInt = l_21.toInt) (by decide : (0 : Int32).toInt = 0) c_161
                        exact absurd gc_161 (by omega)
                exact L47_159 8589934592 (by omega) _ _ _ hP hD hS (lv_sub hl [0, 1, 2] rfl)
            · have gc_66 : l_64.toInt < 77760 := i_nle (by decide : (77760 : Int32).toInt = 77760) (rfl : l_64.toInt = l_64.toInt) c_66
              refine lv_aload_n hx hb dX10_laysChanges_18 rfl (lv_at hl 2 rfl) ?_
              refine gt_MD_MD_upNext hx hb hts hown hK hP lwd_199 dX10_laysChanges_19 ?_
              refine lv_iload_n hx hb dX10_laysChanges_22 rfl (lv_at hl 0 rfl) ?_
              refine lv_ldcw hx hb hown (hts _ lwd_827) dX10_laysChanges_23 ?_
              refine as_m_upNext (x := 1000000000) hx hb hK hP hD hS (i_in (rfl : l_64.toInt = l_64.toInt) (by omega) (by omega)) dX10_laysChanges_26 (fun f_173 ef_173 H locs hP hD hS => ?_)
              obtain ⟨n_174, en_174⟩ : ∃ y : Int32, y = l_64 + 1 := ⟨_, rfl⟩
              have tn_174 : n_174.toInt = l_64.toInt + 1 := i_add en_174 (rfl : l_64.toInt = l_64.toInt) (by decide : (1 : Int32).toInt = 1) (by omega) (by omega)
              refine lv_iinc (v := n_174) (lv' := [(2, .int n_174), (1, .int l_21), (0, .ref (hm 0))]) hx hb dX10_laysChanges_27 hl (k := 0) rfl (by rw [en_174]; rfl) (by decide) rfl (fun ls hl => ?_)
              refine lv_goto (tgt := 12) hx hb dX10_laysChanges_30 (by decide) ?_
              exact ih12_65 f_173 n_174 (by omega) (by omega) _ _ _ hP hD hS (lv_sub hl [0, 1, 2] rfl)
        have k_175 : (0 : Int32).toInt = 0 := by decide
        exact L12_65 8589934592 f_18 0 (by omega) (by omega) _ _ _ hP hD hS (lv_sub hl [0, 1, 2] rfl)
  have k_176 : (0 : Int32).toInt = 0 := by decide
  exact L2_31 8589934592 f_m_isRefused f_m_tired f_m_upNext f_m_upTo f_m_worth 0 v_atH v_atI v_atL v_atM v_atQ v_atT v_atW v_goMinutes v_goPace hr_m_isRefused hr_m_tired (by omega) (by omega) (by omega) (by omega) _ _ _ hP hD hS (lv_sub hl [0, 1] rfl)
set_option maxHeartbeats 16000000 in
set_option maxRecDepth 100000 in
theorem c_X10_often (l : Launch) (D : va_G) (cy : Nat → ClassId) (hm : Nat → Nat) (v_taped v_walkers v_loads v_pieces v_changeCosts v_planned v_isMarch v_clauseMany v_place v_end v_bad v_clauses v_codes v_open v_stacked v_isOver v_isBehind v_atW v_atL v_atT v_atH v_atM v_atI v_atQ v_packing v_packed v_goPace v_goMinutes v_spentAt v_ranChanges : Int32) (f_m_tape f_m_knee f_m_weight f_m_isLame f_m_loadWeight f_m_owner f_m_food f_m_miles f_m_slope f_m_clauseLetter f_m_sumFrom f_m_codeFrom f_m_codeTo f_m_code f_m_codeArg f_m_newLetter f_m_newSum f_m_newFrom f_m_newTo f_m_newCode f_m_newArg f_m_stack f_m_worth f_m_isRefused f_m_least f_m_packPounds f_m_packOwner f_m_room f_m_givenTo f_m_canBe f_m_setPounds f_m_plainTime f_m_muleTime f_m_planTo f_m_march f_m_tired f_m_ranMinutes f_m_tiredAhead f_m_isReached f_m_toEnd f_m_upTo f_m_upNext f_m_byChanges f_m_bandPaces : Nat → Int32) (sz : Nat) (n1 : Int32) (hb_v_walkers : 0 ≤ v_walkers.toInt ∧ v_walkers.toInt ≤ 6) (hb_v_loads : 0 ≤ v_loads.toInt ∧ v_loads.toInt ≤ 9) (hb_v_pieces : 0 ≤ v_pieces.toInt ∧ v_pieces.toInt ≤ 10) (hb_v_clauseMany : 0 ≤ v_clauseMany.toInt ∧ v_clauseMany.toInt ≤ 14) (hb_v_atW : 0 ≤ v_atW.toInt ∧ v_atW.toInt ≤ 5) (hb_v_goPace : 0 ≤ v_goPace.toInt ∧ v_goPace.toInt ≤ 60) (hr_m_weight : rg (0) 250 f_m_weight) (hr_m_isLame : rg (0) 1 f_m_isLame) (hr_m_loadWeight : rg (0) 120 f_m_loadWeight) (hr_m_food : rg (0) 20 f_m_food) (hr_m_miles : rg (0) 20 f_m_miles) (hr_m_isRefused : rg (0) 1 f_m_isRefused) (hr_m_tired : rg (0) 5 f_m_tired) (hwf : wfC v_clauseMany f_m_sumFrom f_m_codeFrom f_m_codeTo f_m_code) : gMi l yX10_often cX10_often 4 .int 10 [.ref (hm 0), .int n1] D cy (wMD cy hm v_taped v_walkers v_loads v_pieces v_changeCosts v_planned v_isMarch v_clauseMany v_place v_end v_bad v_clauses v_codes v_open v_stacked v_isOver v_isBehind v_atW v_atL v_atT v_atH v_atM v_atI v_atQ v_packing v_packed v_goPace v_goMinutes v_spentAt v_ranChanges f_m_tape f_m_knee f_m_weight f_m_isLame f_m_loadWeight f_m_owner f_m_food f_m_miles f_m_slope f_m_clauseLetter f_m_sumFrom f_m_codeFrom f_m_codeTo f_m_code f_m_codeArg f_m_newLetter f_m_newSum f_m_newFrom f_m_newTo f_m_newCode f_m_newArg f_m_stack f_m_worth f_m_isRefused f_m_least f_m_packPounds f_m_packOwner f_m_room f_m_givenTo f_m_canBe f_m_setPounds f_m_plainTime f_m_muleTime f_m_planTo f_m_march f_m_tired f_m_ranMinutes f_m_tiredAhead f_m_isReached f_m_toEnd f_m_upTo f_m_upNext f_m_byChanges f_m_bandPaces) NT sz (fun (r : Int32) (u : Int32 × Int32 × Int32 × Int32 × Int32 × Int32 × Int32 × Int32 × Int32 × (Nat → Int32) × (Nat → Int32) × (Nat → Int32) × (Nat → Int32) × (Nat → Int32) × (Nat → Int32)) => (0 ≤ (u.1).toInt ∧ (u.1).toInt ≤ 5) ∧ (0 ≤ (u.2.2.2.2.2.2.2.1).toInt ∧ (u.2.2.2.2.2.2.2.1).toInt ≤ 60) ∧ (rg (0) 1 (u.2.2.2.2.2.2.2.2.2.2.1)) ∧ (rg (0) 5 (u.2.2.2.2.2.2.2.2.2.2.2.1))) (fun u => wMD cy hm v_taped v_walkers v_loads v_pieces v_changeCosts v_planned v_isMarch v_clauseMany v_place v_end v_bad v_clauses v_codes v_open v_stacked v_isOver v_isBehind (u.1) (u.2.1) (u.2.2.1) (u.2.2.2.1) (u.2.2.2.2.1) (u.2.2.2.2.2.1) (u.2.2.2.2.2.2.1) v_packing v_packed (u.2.2.2.2.2.2.2.1) (u.2.2.2.2.2.2.2.2.1) v_spentAt v_ranChanges f_m_tape f_m_knee f_m_weight f_m_isLame f_m_loadWeight f_m_owner f_m_food f_m_miles f_m_slope f_m_clauseLetter f_m_sumFrom f_m_codeFrom f_m_codeTo f_m_code f_m_codeArg f_m_newLetter f_m_newSum f_m_newFrom f_m_newTo f_m_newCode f_m_newArg f_m_stack (u.2.2.2.2.2.2.2.2.2.1) (u.2.2.2.2.2.2.2.2.2.2.1) f_m_least f_m_packPounds f_m_packOwner f_m_room f_m_givenTo f_m_canBe f_m_setPounds f_m_plainTime f_m_muleTime f_m_planTo f_m_march (u.2.2.2.2.2.2.2.2.2.2.2.1) f_m_ranMinutes f_m_tiredAhead f_m_isReached f_m_toEnd (u.2.2.2.2.2.2.2.2.2.2.2.2.1) (u.2.2.2.2.2.2.2.2.2.2.2.2.2.1) (u.2.2.2.2.2.2.2.2.2.2.2.2.2.2) f_m_bandPaces) := by
  refine gMi_in (by decide) (Nat.le_of_ble_eq_true rfl) ?_
  intro p e s m args below meth c A ls Q hx hb hml hts hown hsz hP hK hD hN hAe hA hS hl hret
  subst hsz
  have hl : lv_has ls 4 [(0, .ref (hm 0)), (1, .int n1)] := hl
  have hrt := fun (r : Int32) (v_atW' : Int32) (v_atL' : Int32) (v_atT' : Int32) (v_atH' : Int32) (v_atM' : Int32) (v_atI' : Int32) (v_atQ' : Int32) (v_goPace' : Int32) (v_goMinutes' : Int32) (f_m_worth' : Nat → Int32) (f_m_isRefused' : Nat → Int32) (f_m_tired' : Nat → Int32) (f_m_upTo' : Nat → Int32) (f_m_upNext' : Nat → Int32) (f_m_byChanges' : Nat → Int32) (hp : (0 ≤ v_atW'.toInt ∧ v_atW'.toInt ≤ 5) ∧ (0 ≤ v_goPace'.toInt ∧ v_goPace'.toInt ≤ 60) ∧ (rg (0) 1 f_m_isRefused') ∧ (rg (0) 5 f_m_tired')) {H : Heap} {locs : List Loc} {pc : Nat} {ls : Array Slot} => hret r (v_atW', v_atL', v_atT', v_atH', v_atM', v_atI', v_atQ', v_goPace', v_goMinutes', f_m_worth', f_m_isRefused', f_m_tired', f_m_upTo', f_m_upNext', f_m_byChanges') (H := H) (locs := locs) (pc := pc) (ls := ls) hp
  clear hret
  refine lv_aload_n hx hb dX10_often_0 rfl (lv_at hl 0 rfl) ?_
  refine gt_MD_MD_walkers hx hb hts hown hK hP lwd_221 dX10_often_1 ?_
  refine lv_if_eq (tgt := 26) hx hb dX10_often_4 (by decide) (fun c_1 => ?_) (fun c_1 => ?_)
  · have gc_1 : v_walkers.toInt = 0 := i_eq (rfl : v_walkers.toInt = v_walkers.toInt) (by decide : (0 : Int32).toInt = 0) c_1
    refine lv_iconst (v := (-1)) hx hb dX10_often_26 (by decide) ?_
    have k_2 : ((-1) : Int32).toInt = (-1) := by decide
    exact hrt (-1) v_atW v_atL v_atT v_atH v_atM v_atI v_atQ v_goPace v_goMinutes f_m_worth f_m_isRefused f_m_tired f_m_upTo f_m_upNext f_m_byChanges ⟨(by omega), (by omega), hr_m_isRefused, hr_m_tired⟩ hP hD hS rfl dX10_often_27
  · have gc_1 : v_walkers.toInt ≠ 0 := i_ne (rfl : v_walkers.toInt = v_walkers.toInt) (by decide : (0 : Int32).toInt = 0) c_1
    refine lv_aload_n hx hb dX10_often_7 rfl (lv_at hl 0 rfl) ?_
    refine gt_MD_MD_pieces hx hb hts hown hK hP lwd_265 dX10_often_8 ?_
    refine lv_if_eq (tgt := 26) hx hb dX10_often_11 (by decide) (fun c_3 => ?_) (fun c_3 => ?_)
    · have gc_3 : v_pieces.toInt = 0 := i_eq (rfl : v_pieces.toInt = v_pieces.toInt) (by decide : (0 : Int32).toInt = 0) c_3
      refine lv_iconst (v := (-1)) hx hb dX10_often_26 (by decide) ?_
      have k_4 : ((-1) : Int32).toInt = (-1) := by decide
      exact hrt (-1) v_atW v_atL v_atT v_atH v_atM v_atI v_atQ v_goPace v_goMinutes f_m_worth f_m_isRefused f_m_tired f_m_upTo f_m_upNext f_m_byChanges ⟨(by omega), (by omega), hr_m_isRefused, hr_m_tired⟩ hP hD hS rfl dX10_often_27
    · have gc_3 : v_pieces.toInt ≠ 0 := i_ne (rfl : v_pieces.toInt = v_pieces.toInt) (by decide : (0 : Int32).toInt = 0) c_3
      refine lv_iload_n hx hb dX10_often_14 rfl (lv_at hl 1 rfl) ?_
      refine lv_i2l (v := n1.toInt64) hx hb dX10_often_15 rfl ?_
      have hl_5 : n1.toInt64.toInt = n1.toInt := i_l (rfl : n1.toInt = n1.toInt)
      refine lv_lconst (v := 0) hx hb dX10_often_16 (by decide) ?_
      refine lv_ldc2 hx hb hown (hts _ lwd_983) dX10_often_17 ?_
      have k_6 : (0 : Int64).toInt = 0 := by decide
      have k_7 : (3 : Int64).toInt = 3 := by decide
      refine xi hD hS hA (xS (As := [.long n1.toInt64, .long 0, .long 3]) (rest := []) hx hb hml hown hts hK hP hD hS hA NT_ok hN hAe hl.1 ⟨Nat.le_refl _, Nat.le_refl _⟩ (c_X10_lies l D cy hm v_taped v_walkers v_loads v_pieces v_changeCosts v_planned v_isMarch v_clauseMany v_place v_end v_bad v_clauses v_codes v_open v_stacked v_isOver v_isBehind v_atW v_atL v_atT v_atH v_atM v_atI v_atQ v_packing v_packed v_goPace v_goMinutes v_spentAt v_ranChanges f_m_tape f_m_knee f_m_weight f_m_isLame f_m_loadWeight f_m_owner f_m_food f_m_miles f_m_slope f_m_clauseLetter f_m_sumFrom f_m_codeFrom f_m_codeTo f_m_code f_m_codeArg f_m_newLetter f_m_newSum f_m_newFrom f_m_newTo f_m_newCode f_m_newArg f_m_stack f_m_worth f_m_isRefused f_m_least f_m_packPounds f_m_packOwner f_m_room f_m_givenTo f_m_canBe f_m_setPounds f_m_plainTime f_m_muleTime f_m_planTo f_m_march f_m_tired f_m_ranMinutes f_m_tiredAhead f_m_isReached f_m_toEnd f_m_upTo f_m_upNext f_m_byChanges f_m_bandPaces s.heap.size n1.toInt64 0 3) (gi_S lwd_226 lwd_227 lwd_5 lwd_228) hd_X10_lies ⟨Nat.le_of_ble_eq_true rfl, Nat.le_of_ble_eq_true rfl⟩ rfl (Nat.le_of_ble_eq_true rfl) dX10_often_20) (fun r_9 u_8 H locs hw hP hD hS => ?_)
      try dsimp only at hw hP hD
      obtain ⟨p_10, p_11⟩ := hw
      refine lv_if_ne (tgt := 28) hx hb dX10_often_23 (by decide) (fun c_12 => ?_) (fun c_12 => ?_)
      · have gc_12 : r_9.toInt ≠ 0 := i_ne (rfl : r_9.toInt = r_9.toInt) (by decide : (0 : Int32).toInt = 0) c_12
        refine lv_aload_n hx hb dX10_often_28 rfl (lv_at hl 0 rfl) ?_
        refine xi hD hS hA (xV (As := []) (rest := []) hx hb hml hown hts hK hP hD hS hA NT_ok hN hAe hl.1 ⟨Nat.le_refl _, Nat.le_refl _⟩ 0 rfl rfl rfl (c_X10_isTold l D cy hm v_taped v_walkers v_loads v_pieces v_changeCosts v_planned v_isMarch v_clauseMany v_place v_end v_bad v_clauses v_codes v_open v_stacked v_isOver v_isBehind v_atW v_atL v_atT v_atH v_atM v_atI v_atQ v_packing v_packed v_goPace v_goMinutes v_spentAt v_ranChanges f_m_tape f_m_knee f_m_weight f_m_isLame f_m_loadWeight f_m_owner f_m_food f_m_miles f_m_slope f_m_clauseLetter f_m_sumFrom f_m_codeFrom f_m_codeTo f_m_code f_m_codeArg f_m_newLetter f_m_newSum f_m_newFrom f_m_newTo f_m_newCode f_m_newArg f_m_stack f_m_worth f_m_isRefused f_m_least f_m_packPounds f_m_packOwner f_m_room f_m_givenTo f_m_canBe f_m_setPounds f_m_plainTime f_m_muleTime f_m_planTo f_m_march f_m_tired f_m_ranMinutes f_m_tiredAhead f_m_isReached f_m_toEnd f_m_upTo f_m_upNext f_m_byChanges f_m_bandPaces H.size (by omega)) (gi_V lwd_1104 lwd_1105 lwd_1106 lwd_5 lwd_1107) ⟨rfl, hd_X10_isTold⟩ ⟨Nat.le_of_ble_eq_true rfl, Nat.le_of_ble_eq_true rfl⟩ rfl (Nat.le_of_ble_eq_true rfl) dX10_often_29) (fun r_14 u_13 H locs hw hP hD hS => ?_)
        try dsimp only at hw hP hD
        obtain ⟨p_15, p_16⟩ := hw
        refine lv_if_ne (tgt := 38) hx hb dX10_often_32 (by decide) (fun c_17 => ?_) (fun c_17 => ?_)
        · have gc_17 : r_14.toInt ≠ 0 := i_ne (rfl : r_14.toInt = r_14.toInt) (by decide : (0 : Int32).toInt = 0) c_17
          refine lv_aload_n hx hb dX10_often_38 rfl (lv_at hl 0 rfl) ?_
          refine xv hD hS hA (xV (As := []) (rest := []) hx hb hml hown hts hK hP hD hS hA NT_ok hN hAe hl.1 ⟨Nat.le_refl _, Nat.le_refl _⟩ 0 rfl rfl rfl (c_X10_laysChanges l D cy hm v_taped v_walkers v_loads v_pieces v_changeCosts v_planned v_isMarch v_clauseMany v_place v_end v_bad v_clauses v_codes v_open v_stacked v_isOver v_isBehind v_atW v_atL v_atT v_atH v_atM v_atI v_atQ v_packing v_packed v_goPace v_goMinutes v_spentAt v_ranChanges f_m_tape f_m_knee f_m_weight f_m_isLame f_m_loadWeight f_m_owner f_m_food f_m_miles f_m_slope f_m_clauseLetter f_m_sumFrom f_m_codeFrom f_m_codeTo f_m_code f_m_codeArg f_m_newLetter f_m_newSum f_m_newFrom f_m_newTo f_m_newCode f_m_newArg f_m_stack f_m_worth f_m_isRefused f_m_least f_m_packPounds f_m_packOwner f_m_room f_m_givenTo f_m_canBe f_m_setPounds f_m_plainTime f_m_muleTime f_m_planTo f_m_march f_m_tired f_m_ranMinutes f_m_tiredAhead f_m_isReached f_m_toEnd f_m_upTo f_m_upNext f_m_byChanges f_m_bandPaces H.size (by omega) (by omega) (by omega) (by omega) (by omega) (by omega) hr_m_weight hr_m_isLame hr_m_loadWeight hr_m_food hr_m_miles hr_m_isRefused hr_m_tired hwf (by omega)) (gi_V lwd_1139 lwd_1140 lwd_1141 lwd_5 lwd_1142) ⟨rfl, hd_X10_laysChanges⟩ ⟨Nat.le_of_ble_eq_true rfl, Nat.le_of_ble_eq_true rfl⟩ rfl (Nat.le_of_ble_eq_true rfl) dX10_often_39) (fun u_18 H locs hw hP hD hS => ?_)
          obtain ⟨zatW_20, zatL_21, zatT_22, zatH_23, zatM_24, zatI_25, zatQ_26, zgoPace_27, zgoMinutes_28, zworth_29, zisRefused_30, ztired_31, zupTo_32, zupNext_33, zbyChanges_34⟩ := u_18
          try dsimp only at hw hP hD
          obtain ⟨p_35, p_36, p_37, p_38⟩ := hw
          refine lv_ldcw hx hb hown (hts _ lwd_827) dX10_often_42 ?_
          refine lv_istore_n (lv' := [(2, .int 1000000000), (0, .ref (hm 0)), (1, .int n1)]) hx hb dX10_often_45 rfl hl (by decide) rfl (fun ls hl => ?_)
          refine lv_iconst (v := 0) hx hb dX10_often_46 (by decide) ?_
          refine lv_istore_n (lv' := [(3, .int 0), (2, .int 1000000000), (0, .ref (hm 0)), (1, .int n1)]) hx hb dX10_often_47 rfl hl (by decide) rfl (fun ls hl => ?_)
          have L48_43 : ∀ (n : Nat) (l_41 : Int32) (l_42 : Int32), (0 ≤ l_42.toInt ∧ l_42.toInt ≤ 4) → 5 - l_42.toInt < n → ∀ (H : Heap) (locs : List Loc) (ls : Array Slot), va_P D vwCl (wMD cy hm v_taped v_walkers v_loads v_pieces v_changeCosts v_planned v_isMarch v_clauseMany v_place v_end v_bad v_clauses v_codes v_open v_stacked v_isOver v_isBehind zatW_20 zatL_21 zatT_22 zatH_23 zatM_24 zatI_25 zatQ_26 v_packing v_packed zgoPace_27 zgoMinutes_28 v_spentAt v_ranChanges f_m_tape f_m_knee f_m_weight f_m_isLame f_m_loadWeight f_m_owner f_m_food f_m_miles f_m_slope f_m_clauseLetter f_m_sumFrom f_m_codeFrom f_m_codeTo f_m_code f_m_codeArg f_m_newLetter f_m_newSum f_m_newFrom f_m_newTo f_m_newCode f_m_newArg f_m_stack zworth_29 zisRefused_30 f_m_least f_m_packPounds f_m_packOwner f_m_room f_m_givenTo f_m_canBe f_m_setPounds f_m_plainTime f_m_muleTime f_m_planTo f_m_march ztired_31 f_m_ranMinutes f_m_tiredAhead f_m_isReached f_m_toEnd zupTo_32 zupNext_33 zbyChanges_34 f_m_bandPaces) H → va_D A (wMD cy hm v_taped v_walkers v_loads v_pieces v_changeCosts v_planned v_isMarch v_clauseMany v_place v_end v_bad v_clauses v_codes v_open v_stacked v_isOver v_isBehind zatW_20 zatL_21 zatT_22 zatH_23 zatM_24 zatI_25 zatQ_26 v_packing v_packed zgoPace_27 zgoMinutes_28 v_spentAt v_ranChanges f_m_tape f_m_knee f_m_weight f_m_isLame f_m_loadWeight f_m_owner f_m_food f_m_miles f_m_slope f_m_clauseLetter f_m_sumFrom f_m_codeFrom f_m_codeTo f_m_code f_m_codeArg f_m_newLetter f_m_newSum f_m_newFrom f_m_newTo f_m_newCode f_m_newArg f_m_stack zworth_29 zisRefused_30 f_m_least f_m_packPounds f_m_packOwner f_m_room f_m_givenTo f_m_canBe f_m_setPounds f_m_plainTime f_m_muleTime f_m_planTo f_m_march ztired_31 f_m_ranMinutes f_m_tiredAhead f_m_isReached f_m_toEnd zupTo_32 zupNext_33 zbyChanges_34 f_m_bandPaces) → va_S A s.heap H locs → lv_has ls 4 [(3, .int l_42), (2, .int l_41), (0, .ref (hm 0)), (1, .int n1)] → W p l e (gRm 10) s m args below meth c H locs 0 0 Q (F0 m 48 ls []) := by
            intro n
            induction n with
            | zero => intro l_41 l_42 hL48_43_0 hm; exact absurd hm (by omega)
            | succ n ih48_43 =>
              intro l_41 l_42 hL48_43_0 hmL48_43 H locs ls hP hD hS hl
              refine lv_iload_n hx hb dX10_often_48 rfl (lv_at hl 0 rfl) ?_
              refine lv_iload_n hx hb dX10_often_49 rfl (lv_at hl 3 rfl) ?_
              refine lv_icmp_gt (tgt := 102) hx hb dX10_often_50 (by decide) (fun c_44 => ?_) (fun c_44 => ?_)
              · have gc_44 : n1.toInt < l_42.toInt := i_lt (rfl : n1.toInt = n1.toInt) (rfl : l_42.toInt = l_42.toInt) c_44
                refine lv_iload_n hx hb dX10_often_102 rfl (lv_at hl 1 rfl) ?_
                refine lv_ldcw hx hb hown (hts _ lwd_827) dX10_often_103 ?_
                refine lv_icmp_ne (tgt := 114) hx hb dX10_often_106 (by decide) (fun c_45 => ?_) (fun c_45 => ?_)
                · have gc_45 : l_41.toInt ≠ 1000000000 := i_ne (rfl : l_41.toInt = l_41.toInt) (by decide : (1000000000 : Int32).toInt = 1000000000) c_45
                  refine lv_iload_n hx hb dX10_often_114 rfl (lv_at hl 1 rfl) ?_
                  exact hrt l_41 zatW_20 zatL_21 zatT_22 zatH_23 zatM_24 zatI_25 zatQ_26 zgoPace_27 zgoMinutes_28 zworth_29 zisRefused_30 ztired_31 zupTo_32 zupNext_33 zbyChanges_34 ⟨(by omega), (by omega), p_37, p_38⟩ hP hD hS rfl dX10_often_115
                · have gc_45 : l_41.toInt = 1000000000 := i_eq (rfl : l_41.toInt = l_41.toInt) (by decide : (1000000000 : Int32).toInt = 1000000000) c_45
                  refine lv_bipush (v := (-2)) hx hb dX10_often_109 (by decide) ?_
                  refine lv_goto (tgt := 115) hx hb dX10_often_111 (by decide) ?_
                  have k_46 : ((-2) : Int32).toInt = (-2) := by decide
                  exact hrt (-2) zatW_20 zatL_21 zatT_22 zatH_23 zatM_24 zatI_25 zatQ_26 zgoPace_27 zgoMinutes_28 zworth_29 zisRefused_30 ztired_31 zupTo_32 zupNext_33 zbyChanges_34 ⟨(by omega), (by omega), p_37, p_38⟩ hP hD hS rfl dX10_often_115
              · have gc_44 : l_42.toInt ≤ n1.toInt := i_nlt (rfl : n1.toInt = n1.toInt) (rfl : l_42.toInt = l_42.toInt) c_44
                refine lv_aload_n hx hb dX10_often_53 rfl (lv_at hl 2 rfl) ?_
                refine gt_MD_MD_byChanges hx hb hts hown hK hP lwd_200 dX10_often_54 ?_
                refine lv_iload_n hx hb dX10_often_57 rfl (lv_at hl 0 rfl) ?_
                refine al_m_byChanges hx hb hK hP (i_in (rfl : l_42.toInt = l_42.toInt) (by omega) (by omega)) dX10_often_58 (fun n_47 en_47 => ?_)
                refine lv_ldcw hx hb hown (hts _ lwd_827) dX10_often_59 ?_
                refine lv_icmp_ge (tgt := 96) hx hb dX10_often_62 (by decide) (fun c_48 => ?_) (fun c_48 => ?_)
                · have gc_48 : 1000000000 ≤ n_47.toInt := i_le (by decide : (1000000000 : Int32).toInt = 1000000000) (rfl : n_47.toInt = n_47.toInt) c_48
                  obtain ⟨n_49, en_49⟩ : ∃ y : Int32, y = l_42 + 1 := ⟨_, rfl⟩
                  have tn_49 : n_49.toInt = l_42.toInt + 1 := i_add en_49 (rfl : l_42.toInt = l_42.toInt) (by decide : (1 : Int32).toInt = 1) (by omega) (by omega)
                  refine lv_iinc (v := n_49) (lv' := [(3, .int n_49), (2, .int l_41), (0, .ref (hm 0)), (1, .int n1)]) hx hb dX10_often_96 hl (k := 0) rfl (by rw [en_49]; rfl) (by decide) rfl (fun ls hl => ?_)
                  refine lv_goto (tgt := 48) hx hb dX10_often_99 (by decide) ?_
                  exact ih48_43 l_41 n_49 (by omega) (by omega) _ _ _ hP hD hS (lv_sub hl [0, 1, 2, 3] rfl)
                · have gc_48 : n_47.toInt < 1000000000 := i_nle (by decide : (1000000000 : Int32).toInt = 1000000000) (rfl : n_47.toInt = n_47.toInt) c_48
                  refine lv_aload_n hx hb dX10_often_65 rfl (lv_at hl 2 rfl) ?_
                  refine gt_MD_MD_byChanges hx hb hts hown hK hP lwd_200 dX10_often_66 ?_
                  refine lv_iload_n hx hb dX10_often_69 rfl (lv_at hl 0 rfl) ?_
                  refine al_m_byChanges hx hb hK hP (i_in (rfl : l_42.toInt = l_42.toInt) (by omega) (by omega)) dX10_often_70 (fun n_50 en_50 => ?_)
                  obtain rfl : n_47 = n_50 := en_47.trans en_50.symm
                  refine lv_iload_n hx hb dX10_often_71 rfl (lv_at hl 0 rfl) ?_
                  refine lv_aload_n hx hb dX10_often_72 rfl (lv_at hl 2 rfl) ?_
                  refine gt_MD_MD_changeCosts hx hb hts hown hK hP lwd_156 dX10_often_73 ?_
                  refine lv_imul hx hb dX10_often_76 ?_
                  refine lv_topi (fun n_51 en_51 => ?_)
                  refine lv_iadd hx hb dX10_often_77 ?_
                  refine lv_topi (fun n_52 en_52 => ?_)
                  refine lv_iload_n hx hb dX10_often_78 rfl (lv_at hl 1 rfl) ?_
                  refine lv_icmp_ge (tgt := 96) hx hb dX10_often_79 (by decide) (fun c_53 => ?_) (fun c_53 => ?_)
                  · have gc_53 : l_41.toInt ≤ n_52.toInt := i_le (rfl : l_41.toInt = l_41.toInt) (rfl : n_52.toInt = n_52.toInt) c_53
                    obtain ⟨n_54, en_54⟩ : ∃ y : Int32, y = l_42 + 1 := ⟨_, rfl⟩
                    have tn_54 : n_54.toInt = l_42.toInt + 1 := i_add en_54 (rfl : l_42.toInt = l_42.toInt) (by decide : (1 : Int32).toInt = 1) (by omega) (by omega)
                    refine lv_iinc (v := n_54) (lv' := [(3, .int n_54), (2, .int l_41), (0, .ref (hm 0)), (1, .int n1)]) hx hb dX10_often_96 hl (k := 0) rfl (by rw [en_54]; rfl) (by decide) rfl (fun ls hl => ?_)
                    refine lv_goto (tgt := 48) hx hb dX10_often_99 (by decide) ?_
                    exact ih48_43 l_41 n_54 (by omega) (by omega) _ _ _ hP hD hS (lv_sub hl [0, 1, 2, 3] rfl)
                  · have gc_53 : n_52.toInt < l_41.toInt := i_nle (rfl : l_41.toInt = l_41.toInt) (rfl : n_52.toInt = n_52.toInt) c_53
                    refine lv_aload_n hx hb dX10_often_82 rfl (lv_at hl 2 rfl) ?_
                    refine gt_MD_MD_byChanges hx hb hts hown hK hP lwd_200 dX10_often_83 ?_
                    refine lv_iload_n hx hb dX10_often_86 rfl (lv_at hl 0 rfl) ?_
                    refine al_m_byChanges hx hb hK hP (i_in (rfl : l_42.toInt = l_42.toInt) (by omega) (by omega)) dX10_often_87 (fun n_55 en_55 => ?_)
                    obtain rfl : n_47 = n_55 := en_47.trans en_55.symm
                    refine lv_iload_n hx hb dX10_often_88 rfl (lv_at hl 0 rfl) ?_
                    refine lv_aload_n hx hb dX10_often_89 rfl (lv_at hl 2 rfl) ?_
                    refine gt_MD_MD_changeCosts hx hb hts hown hK hP lwd_156 dX10_often_90 ?_
                    refine lv_imul hx hb dX10_often_93 ?_
                    refine lv_topi (fun n_56 en_56 => ?_)
                    obtain rfl : n_51 = n_56 := en_51.trans en_56.symm
                    refine lv_iadd hx hb dX10_often_94 ?_
                    refine lv_topi (fun n_57 en_57 => ?_)
                    obtain rfl : n_52 = n_57 := en_52.trans en_57.symm
                    refine lv_istore_n (lv' := [(2, .int n_52), (3, .int l_42), (0, .ref (hm 0)), (1, .int n1)]) hx hb dX10_often_95 rfl hl (by decide) rfl (fun ls hl => ?_)
                    obtain ⟨n_58, en_58⟩ : ∃ y : Int32, y = l_42 + 1 := ⟨_, rfl⟩
                    have tn_58 : n_58.toInt = l_42.toInt + 1 := i_add en_58 (rfl : l_42.toInt = l_42.toInt) (by decide : (1 : Int32).toInt = 1) (by omega) (by omega)
                    refine lv_iinc (v := n_58) (lv' := [(3, .int n_58), (2, .int n_52), (0, .ref (hm 0)), (1, .int n1)]) hx hb dX10_often_96 hl (k := 1) rfl (by rw [en_58]; rfl) (by decide) rfl (fun ls hl => ?_)
                    refine lv_goto (tgt := 48) hx hb dX10_often_99 (by decide) ?_
                    exact ih48_43 n_52 n_58 (by omega) (by omega) _ _ _ hP hD hS (lv_sub hl [0, 1, 2, 3] rfl)
          have k_59 : (1000000000 : Int32).toInt = 1000000000 := by decide
          have k_60 : (0 : Int32).toInt = 0 := by decide
          exact L48_43 8589934592 1000000000 0 (by omega) (by omega) _ _ _ hP hD hS (lv_sub hl [0, 1, 2, 3] rfl)
        · have gc_17 : r_14.toInt = 0 := i_eq (rfl : r_14.toInt = r_14.toInt) (by decide : (0 : Int32).toInt = 0) c_17
          refine lv_bipush (v := (-2)) hx hb dX10_often_35 (by decide) ?_
          have k_61 : ((-2) : Int32).toInt = (-2) := by decide
          exact hrt (-2) v_atW v_atL v_atT v_atH v_atM v_atI v_atQ v_goPace v_goMinutes f_m_worth f_m_isRefused f_m_tired f_m_upTo f_m_upNext f_m_byChanges ⟨(by omega), (by omega), hr_m_isRefused, hr_m_tired⟩ hP hD hS rfl dX10_often_37
      · have gc_12 : r_9.toInt = 0 := i_eq (rfl : r_9.toInt = r_9.toInt) (by decide : (0 : Int32).toInt = 0) c_12
        refine lv_iconst (v := (-1)) hx hb dX10_often_26 (by decide) ?_
        have k_62 : ((-1) : Int32).toInt = (-1) := by decide
        exact hrt (-1) v_atW v_atL v_atT v_atH v_atM v_atI v_atQ v_goPace v_goMinutes f_m_worth f_m_isRefused f_m_tired f_m_upTo f_m_upNext f_m_byChanges ⟨(by omega), (by omega), hr_m_isRefused, hr_m_tired⟩ hP hD hS rfl dX10_often_27
set_option maxHeartbeats 16000000 in
set_option maxRecDepth 100000 in
theorem c_X10_edge (l : Launch) (D : va_G) (cy : Nat → ClassId) (hm : Nat → Nat) (v_taped v_walkers v_loads v_pieces v_changeCosts v_planned v_isMarch v_clauseMany v_place v_end v_bad v_clauses v_codes v_open v_stacked v_isOver v_isBehind v_atW v_atL v_atT v_atH v_atM v_atI v_atQ v_packing v_packed v_goPace v_goMinutes v_spentAt v_ranChanges : Int32) (f_m_tape f_m_knee f_m_weight f_m_isLame f_m_loadWeight f_m_owner f_m_food f_m_miles f_m_slope f_m_clauseLetter f_m_sumFrom f_m_codeFrom f_m_codeTo f_m_code f_m_codeArg f_m_newLetter f_m_newSum f_m_newFrom f_m_newTo f_m_newCode f_m_newArg f_m_stack f_m_worth f_m_isRefused f_m_least f_m_packPounds f_m_packOwner f_m_room f_m_givenTo f_m_canBe f_m_setPounds f_m_plainTime f_m_muleTime f_m_planTo f_m_march f_m_tired f_m_ranMinutes f_m_tiredAhead f_m_isReached f_m_toEnd f_m_upTo f_m_upNext f_m_byChanges f_m_bandPaces : Nat → Int32) (sz : Nat) (hb_v_walkers : 0 ≤ v_walkers.toInt ∧ v_walkers.toInt ≤ 6) (hb_v_loads : 0 ≤ v_loads.toInt ∧ v_loads.toInt ≤ 9) (hb_v_pieces : 0 ≤ v_pieces.toInt ∧ v_pieces.toInt ≤ 10) (hb_v_clauseMany : 0 ≤ v_clauseMany.toInt ∧ v_clauseMany.toInt ≤ 14) (hb_v_atW : 0 ≤ v_atW.toInt ∧ v_atW.toInt ≤ 5) (hb_v_goPace : 0 ≤ v_goPace.toInt ∧ v_goPace.toInt ≤ 60) (hr_m_weight : rg (0) 250 f_m_weight) (hr_m_isLame : rg (0) 1 f_m_isLame) (hr_m_loadWeight : rg (0) 120 f_m_loadWeight) (hr_m_food : rg (0) 20 f_m_food) (hr_m_miles : rg (0) 20 f_m_miles) (hr_m_isRefused : rg (0) 1 f_m_isRefused) (hr_m_tired : rg (0) 5 f_m_tired) (hwf : wfC v_clauseMany f_m_sumFrom f_m_codeFrom f_m_codeTo f_m_code) : gMi l yX10_edge cX10_edge 4 .int 10 [.ref (hm 0)] D cy (wMD cy hm v_taped v_walkers v_loads v_pieces v_changeCosts v_planned v_isMarch v_clauseMany v_place v_end v_bad v_clauses v_codes v_open v_stacked v_isOver v_isBehind v_atW v_atL v_atT v_atH v_atM v_atI v_atQ v_packing v_packed v_goPace v_goMinutes v_spentAt v_ranChanges f_m_tape f_m_knee f_m_weight f_m_isLame f_m_loadWeight f_m_owner f_m_food f_m_miles f_m_slope f_m_clauseLetter f_m_sumFrom f_m_codeFrom f_m_codeTo f_m_code f_m_codeArg f_m_newLetter f_m_newSum f_m_newFrom f_m_newTo f_m_newCode f_m_newArg f_m_stack f_m_worth f_m_isRefused f_m_least f_m_packPounds f_m_packOwner f_m_room f_m_givenTo f_m_canBe f_m_setPounds f_m_plainTime f_m_muleTime f_m_planTo f_m_march f_m_tired f_m_ranMinutes f_m_tiredAhead f_m_isReached f_m_toEnd f_m_upTo f_m_upNext f_m_byChanges f_m_bandPaces) NT sz (fun (r : Int32) (u : Int32 × Int32 × Int32 × Int32 × Int32 × Int32 × Int32 × Int32 × Int32 × (Nat → Int32) × (Nat → Int32) × (Nat → Int32) × (Nat → Int32) × (Nat → Int32) × (Nat → Int32)) => (0 ≤ (u.1).toInt ∧ (u.1).toInt ≤ 5) ∧ (0 ≤ (u.2.2.2.2.2.2.2.1).toInt ∧ (u.2.2.2.2.2.2.2.1).toInt ≤ 60) ∧ (rg (0) 1 (u.2.2.2.2.2.2.2.2.2.2.1)) ∧ (rg (0) 5 (u.2.2.2.2.2.2.2.2.2.2.2.1))) (fun u => wMD cy hm v_taped v_walkers v_loads v_pieces v_changeCosts v_planned v_isMarch v_clauseMany v_place v_end v_bad v_clauses v_codes v_open v_stacked v_isOver v_isBehind (u.1) (u.2.1) (u.2.2.1) (u.2.2.2.1) (u.2.2.2.2.1) (u.2.2.2.2.2.1) (u.2.2.2.2.2.2.1) v_packing v_packed (u.2.2.2.2.2.2.2.1) (u.2.2.2.2.2.2.2.2.1) v_spentAt v_ranChanges f_m_tape f_m_knee f_m_weight f_m_isLame f_m_loadWeight f_m_owner f_m_food f_m_miles f_m_slope f_m_clauseLetter f_m_sumFrom f_m_codeFrom f_m_codeTo f_m_code f_m_codeArg f_m_newLetter f_m_newSum f_m_newFrom f_m_newTo f_m_newCode f_m_newArg f_m_stack (u.2.2.2.2.2.2.2.2.2.1) (u.2.2.2.2.2.2.2.2.2.2.1) f_m_least f_m_packPounds f_m_packOwner f_m_room f_m_givenTo f_m_canBe f_m_setPounds f_m_plainTime f_m_muleTime f_m_planTo f_m_march (u.2.2.2.2.2.2.2.2.2.2.2.1) f_m_ranMinutes f_m_tiredAhead f_m_isReached f_m_toEnd (u.2.2.2.2.2.2.2.2.2.2.2.2.1) (u.2.2.2.2.2.2.2.2.2.2.2.2.2.1) (u.2.2.2.2.2.2.2.2.2.2.2.2.2.2) f_m_bandPaces) := by
  refine gMi_in (by decide) (Nat.le_of_ble_eq_true rfl) ?_
  intro p e s m args below meth c A ls Q hx hb hml hts hown hsz hP hK hD hN hAe hA hS hl hret
  subst hsz
  have hl : lv_has ls 4 [(0, .ref (hm 0))] := hl
  have hrt := fun (r : Int32) (v_atW' : Int32) (v_atL' : Int32) (v_atT' : Int32) (v_atH' : Int32) (v_atM' : Int32) (v_atI' : Int32) (v_atQ' : Int32) (v_goPace' : Int32) (v_goMinutes' : Int32) (f_m_worth' : Nat → Int32) (f_m_isRefused' : Nat → Int32) (f_m_tired' : Nat → Int32) (f_m_upTo' : Nat → Int32) (f_m_upNext' : Nat → Int32) (f_m_byChanges' : Nat → Int32) (hp : (0 ≤ v_atW'.toInt ∧ v_atW'.toInt ≤ 5) ∧ (0 ≤ v_goPace'.toInt ∧ v_goPace'.toInt ≤ 60) ∧ (rg (0) 1 f_m_isRefused') ∧ (rg (0) 5 f_m_tired')) {H : Heap} {locs : List Loc} {pc : Nat} {ls : Array Slot} => hret r (v_atW', v_atL', v_atT', v_atH', v_atM', v_atI', v_atQ', v_goPace', v_goMinutes', f_m_worth', f_m_isRefused', f_m_tired', f_m_upTo', f_m_upNext', f_m_byChanges') (H := H) (locs := locs) (pc := pc) (ls := ls) hp
  clear hret
  refine lv_aload_n hx hb dX10_edge_0 rfl (lv_at hl 0 rfl) ?_
  refine gt_MD_MD_walkers hx hb hts hown hK hP lwd_221 dX10_edge_1 ?_
  refine lv_if_eq (tgt := 14) hx hb dX10_edge_4 (by decide) (fun c_1 => ?_) (fun c_1 => ?_)
  · have gc_1 : v_walkers.toInt = 0 := i_eq (rfl : v_walkers.toInt = v_walkers.toInt) (by decide : (0 : Int32).toInt = 0) c_1
    refine lv_iconst (v := (-1)) hx hb dX10_edge_14 (by decide) ?_
    have k_2 : ((-1) : Int32).toInt = (-1) := by decide
    exact hrt (-1) v_atW v_atL v_atT v_atH v_atM v_atI v_atQ v_goPace v_goMinutes f_m_worth f_m_isRefused f_m_tired f_m_upTo f_m_upNext f_m_byChanges ⟨(by omega), (by omega), hr_m_isRefused, hr_m_tired⟩ hP hD hS rfl dX10_edge_15
  · have gc_1 : v_walkers.toInt ≠ 0 := i_ne (rfl : v_walkers.toInt = v_walkers.toInt) (by decide : (0 : Int32).toInt = 0) c_1
    refine lv_aload_n hx hb dX10_edge_7 rfl (lv_at hl 0 rfl) ?_
    refine gt_MD_MD_pieces hx hb hts hown hK hP lwd_265 dX10_edge_8 ?_
    refine lv_if_ne (tgt := 16) hx hb dX10_edge_11 (by decide) (fun c_3 => ?_) (fun c_3 => ?_)
    · have gc_3 : v_pieces.toInt ≠ 0 := i_ne (rfl : v_pieces.toInt = v_pieces.toInt) (by decide : (0 : Int32).toInt = 0) c_3
      refine lv_aload_n hx hb dX10_edge_16 rfl (lv_at hl 0 rfl) ?_
      refine xi hD hS hA (xV (As := []) (rest := []) hx hb hml hown hts hK hP hD hS hA NT_ok hN hAe hl.1 ⟨Nat.le_refl _, Nat.le_refl _⟩ 0 rfl rfl rfl (c_X10_isTold l D cy hm v_taped v_walkers v_loads v_pieces v_changeCosts v_planned v_isMarch v_clauseMany v_place v_end v_bad v_clauses v_codes v_open v_stacked v_isOver v_isBehind v_atW v_atL v_atT v_atH v_atM v_atI v_atQ v_packing v_packed v_goPace v_goMinutes v_spentAt v_ranChanges f_m_tape f_m_knee f_m_weight f_m_isLame f_m_loadWeight f_m_owner f_m_food f_m_miles f_m_slope f_m_clauseLetter f_m_sumFrom f_m_codeFrom f_m_codeTo f_m_code f_m_codeArg f_m_newLetter f_m_newSum f_m_newFrom f_m_newTo f_m_newCode f_m_newArg f_m_stack f_m_worth f_m_isRefused f_m_least f_m_packPounds f_m_packOwner f_m_room f_m_givenTo f_m_canBe f_m_setPounds f_m_plainTime f_m_muleTime f_m_planTo f_m_march f_m_tired f_m_ranMinutes f_m_tiredAhead f_m_isReached f_m_toEnd f_m_upTo f_m_upNext f_m_byChanges f_m_bandPaces s.heap.size (by omega)) (gi_V lwd_1104 lwd_1105 lwd_1106 lwd_5 lwd_1107) ⟨rfl, hd_X10_isTold⟩ ⟨Nat.le_of_ble_eq_true rfl, Nat.le_of_ble_eq_true rfl⟩ rfl (Nat.le_of_ble_eq_true rfl) dX10_edge_17) (fun r_5 u_4 H locs hw hP hD hS => ?_)
      try dsimp only at hw hP hD
      obtain ⟨p_6, p_7⟩ := hw
      refine lv_if_ne (tgt := 26) hx hb dX10_edge_20 (by decide) (fun c_8 => ?_) (fun c_8 => ?_)
      · have gc_8 : r_5.toInt ≠ 0 := i_ne (rfl : r_5.toInt = r_5.toInt) (by decide : (0 : Int32).toInt = 0) c_8
        refine lv_aload_n hx hb dX10_edge_26 rfl (lv_at hl 0 rfl) ?_
        refine xv hD hS hA (xV (As := []) (rest := []) hx hb hml hown hts hK hP hD hS hA NT_ok hN hAe hl.1 ⟨Nat.le_refl _, Nat.le_refl _⟩ 0 rfl rfl rfl (c_X10_laysChanges l D cy hm v_taped v_walkers v_loads v_pieces v_changeCosts v_planned v_isMarch v_clauseMany v_place v_end v_bad v_clauses v_codes v_open v_stacked v_isOver v_isBehind v_atW v_atL v_atT v_atH v_atM v_atI v_atQ v_packing v_packed v_goPace v_goMinutes v_spentAt v_ranChanges f_m_tape f_m_knee f_m_weight f_m_isLame f_m_loadWeight f_m_owner f_m_food f_m_miles f_m_slope f_m_clauseLetter f_m_sumFrom f_m_codeFrom f_m_codeTo f_m_code f_m_codeArg f_m_newLetter f_m_newSum f_m_newFrom f_m_newTo f_m_newCode f_m_newArg f_m_stack f_m_worth f_m_isRefused f_m_least f_m_packPounds f_m_packOwner f_m_room f_m_givenTo f_m_canBe f_m_setPounds f_m_plainTime f_m_muleTime f_m_planTo f_m_march f_m_tired f_m_ranMinutes f_m_tiredAhead f_m_isReached f_m_toEnd f_m_upTo f_m_upNext f_m_byChanges f_m_bandPaces H.size (by omega) (by omega) (by omega) (by omega) (by omega) (by omega) hr_m_weight hr_m_isLame hr_m_loadWeight hr_m_food hr_m_miles hr_m_isRefused hr_m_tired hwf (by omega)) (gi_V lwd_1139 lwd_1140 lwd_1141 lwd_5 lwd_1142) ⟨rfl, hd_X10_laysChanges⟩ ⟨Nat.le_of_ble_eq_true rfl, Nat.le_of_ble_eq_true rfl⟩ rfl (Nat.le_of_ble_eq_true rfl) dX10_edge_27) (fun u_9 H locs hw hP hD hS => ?_)
        obtain ⟨zatW_11, zatL_12, zatT_13, zatH_14, zatM_15, zatI_16, zatQ_17, zgoPace_18, zgoMinutes_19, zworth_20, zisRefused_21, ztired_22, zupTo_23, zupNext_24, zbyChanges_25⟩ := u_9
        try dsimp only at hw hP hD
        obtain ⟨p_26, p_27, p_28, p_29⟩ := hw
        refine lv_aload_n hx hb dX10_edge_30 rfl (lv_at hl 0 rfl) ?_
        refine gt_MD_MD_byChanges hx hb hts hown hK hP lwd_200 dX10_edge_31 ?_
        refine lv_iconst (v := 0) hx hb dX10_edge_34 (by decide) ?_
        refine al_m_byChanges hx hb hK hP (i_in (by decide : (0 : Int32).toInt = 0) (by decide) (by decide)) dX10_edge_35 (fun n_30 en_30 => ?_)
        refine lv_ldcw hx hb hown (hts _ lwd_827) dX10_edge_36 ?_
        refine lv_icmp_ne (tgt := 45) hx hb dX10_edge_39 (by decide) (fun c_31 => ?_) (fun c_31 => ?_)
        · have gc_31 : n_30.toInt ≠ 1000000000 := i_ne (rfl : n_30.toInt = n_30.toInt) (by decide : (1000000000 : Int32).toInt = 1000000000) c_31
          refine lv_iconst (v := 0) hx hb dX10_edge_45 (by decide) ?_
          refine lv_istore_n (lv' := [(1, .int 0), (0, .ref (hm 0))]) hx hb dX10_edge_46 rfl hl (by decide) rfl (fun ls hl => ?_)
          have L47_34 : ∀ (n : Nat) (l_33 : Int32), (0 ≤ l_33.toInt ∧ l_33.toInt ≤ 121) → 122 - l_33.toInt < n → ∀ (H : Heap) (locs : List Loc) (ls : Array Slot), va_P D vwCl (wMD cy hm v_taped v_walkers v_loads v_pieces v_changeCosts v_planned v_isMarch v_clauseMany v_place v_end v_bad v_clauses v_codes v_open v_stacked v_isOver v_isBehind zatW_11 zatL_12 zatT_13 zatH_14 zatM_15 zatI_16 zatQ_17 v_packing v_packed zgoPace_18 zgoMinutes_19 v_spentAt v_ranChanges f_m_tape f_m_knee f_m_weight f_m_isLame f_m_loadWeight f_m_owner f_m_food f_m_miles f_m_slope f_m_clauseLetter f_m_sumFrom f_m_codeFrom f_m_codeTo f_m_code f_m_codeArg f_m_newLetter f_m_newSum f_m_newFrom f_m_newTo f_m_newCode f_m_newArg f_m_stack zworth_20 zisRefused_21 f_m_least f_m_packPounds f_m_packOwner f_m_room f_m_givenTo f_m_canBe f_m_setPounds f_m_plainTime f_m_muleTime f_m_planTo f_m_march ztired_22 f_m_ranMinutes f_m_tiredAhead f_m_isReached f_m_toEnd zupTo_23 zupNext_24 zbyChanges_25 f_m_bandPaces) H → va_D A (wMD cy hm v_taped v_walkers v_loads v_pieces v_changeCosts v_planned v_isMarch v_clauseMany v_place v_end v_bad v_clauses v_codes v_open v_stacked v_isOver v_isBehind zatW_11 zatL_12 zatT_13 zatH_14 zatM_15 zatI_16 zatQ_17 v_packing v_packed zgoPace_18 zgoMinutes_19 v_spentAt v_ranChanges f_m_tape f_m_knee f_m_weight f_m_isLame f_m_loadWeight f_m_owner f_m_food f_m_miles f_m_slope f_m_clauseLetter f_m_sumFrom f_m_codeFrom f_m_codeTo f_m_code f_m_codeArg f_m_newLetter f_m_newSum f_m_newFrom f_m_newTo f_m_newCode f_m_newArg f_m_stack zworth_20 zisRefused_21 f_m_least f_m_packPounds f_m_packOwner f_m_room f_m_givenTo f_m_canBe f_m_setPounds f_m_plainTime f_m_muleTime f_m_planTo f_m_march ztired_22 f_m_ranMinutes f_m_tiredAhead f_m_isReached f_m_toEnd zupTo_23 zupNext_24 zbyChanges_25 f_m_bandPaces) → va_S A s.heap H locs → lv_has ls 4 [(1, .int l_33), (0, .ref (hm 0))] → W p l e (gRm 10) s m args below meth c H locs 0 0 Q (F0 m 47 ls []) := by
            intro n
            induction n with
            | zero => intro l_33 hL47_34_0 hm; exact absurd hm (by omega)
            | succ n ih47_34 =>
              intro l_33 hL47_34_0 hmL47_34 H locs ls hP hD hS hl
              refine lv_iload_n hx hb dX10_edge_47 rfl (lv_at hl 0 rfl) ?_
              refine lv_bipush (v := 120) hx hb dX10_edge_48 (by decide) ?_
              refine lv_icmp_gt (tgt := 122) hx hb dX10_edge_50 (by decide) (fun c_35 => ?_) (fun c_35 => ?_)
              · have gc_35 : 120 < l_33.toInt := i_lt (by decide : (120 : Int32).toInt = 120) (rfl : l_33.toInt = l_33.toInt) c_35
                refine lv_bipush (v := (-2)) hx hb dX10_edge_122 (by decide) ?_
                have k_36 : ((-2) : Int32).toInt = (-2) := by decide
                exact hrt (-2) zatW_11 zatL_12 zatT_13 zatH_14 zatM_15 zatI_16 zatQ_17 zgoPace_18 zgoMinutes_19 zworth_20 zisRefused_21 ztired_22 zupTo_23 zupNext_24 zbyChanges_25 ⟨(by omega), (by omega), p_28, p_29⟩ hP hD hS rfl dX10_edge_124
              · have gc_35 : l_33.toInt ≤ 120 := i_nlt (by decide : (120 : Int32).toInt = 120) (rfl : l_33.toInt = l_33.toInt) c_35
                refine lv_iconst (v := 1) hx hb dX10_edge_53 (by decide) ?_
                refine lv_istore_n (lv' := [(2, .int 1), (1, .int l_33), (0, .ref (hm 0))]) hx hb dX10_edge_54 rfl hl (by decide) rfl (fun ls hl => ?_)
                refine lv_iconst (v := 1) hx hb dX10_edge_55 (by decide) ?_
                refine lv_istore_n (lv' := [(3, .int 1), (2, .int 1), (1, .int l_33), (0, .ref (hm 0))]) hx hb dX10_edge_56 rfl hl (by decide) rfl (fun ls hl => ?_)
                have L57_41 : ∀ (n : Nat) (l_39 : Int32) (l_40 : Int32), (1 ≤ l_40.toInt ∧ l_40.toInt ≤ 10) → 11 - l_40.toInt < n → ∀ (H : Heap) (locs : List Loc) (ls : Array Slot), va_P D vwCl (wMD cy hm v_taped v_walkers v_loads v_pieces v_changeCosts v_planned v_isMarch v_clauseMany v_place v_end v_bad v_clauses v_codes v_open v_stacked v_isOver v_isBehind zatW_11 zatL_12 zatT_13 zatH_14 zatM_15 zatI_16 zatQ_17 v_packing v_packed zgoPace_18 zgoMinutes_19 v_spentAt v_ranChanges f_m_tape f_m_knee f_m_weight f_m_isLame f_m_loadWeight f_m_owner f_m_food f_m_miles f_m_slope f_m_clauseLetter f_m_sumFrom f_m_codeFrom f_m_codeTo f_m_code f_m_codeArg f_m_newLetter f_m_newSum f_m_newFrom f_m_newTo f_m_newCode f_m_newArg f_m_stack zworth_20 zisRefused_21 f_m_least f_m_packPounds f_m_packOwner f_m_room f_m_givenTo f_m_canBe f_m_setPounds f_m_plainTime f_m_muleTime f_m_planTo f_m_march ztired_22 f_m_ranMinutes f_m_tiredAhead f_m_isReached f_m_toEnd zupTo_23 zupNext_24 zbyChanges_25 f_m_bandPaces) H → va_D A (wMD cy hm v_taped v_walkers v_loads v_pieces v_changeCosts v_planned v_isMarch v_clauseMany v_place v_end v_bad v_clauses v_codes v_open v_stacked v_isOver v_isBehind zatW_11 zatL_12 zatT_13 zatH_14 zatM_15 zatI_16 zatQ_17 v_packing v_packed zgoPace_18 zgoMinutes_19 v_spentAt v_ranChanges f_m_tape f_m_knee f_m_weight f_m_isLame f_m_loadWeight f_m_owner f_m_food f_m_miles f_m_slope f_m_clauseLetter f_m_sumFrom f_m_codeFrom f_m_codeTo f_m_code f_m_codeArg f_m_newLetter f_m_newSum f_m_newFrom f_m_newTo f_m_newCode f_m_newArg f_m_stack zworth_20 zisRefused_21 f_m_least f_m_packPounds f_m_packOwner f_m_room f_m_givenTo f_m_canBe f_m_setPounds f_m_plainTime f_m_muleTime f_m_planTo f_m_march ztired_22 f_m_ranMinutes f_m_tiredAhead f_m_isReached f_m_toEnd zupTo_23 zupNext_24 zbyChanges_25 f_m_bandPaces) → va_S A s.heap H locs → lv_has ls 4 [(3, .int l_40), (2, .int l_39), (1, .int l_33), (0, .ref (hm 0))] → W p l e (gRm 10) s m args below meth c H locs 0 0 Q (F0 m 57 ls []) := by
                  intro n
                  induction n with
                  | zero => intro l_39 l_40 hL57_41_0 hm; exact absurd hm (by omega)
                  | succ n ih57_41 =>
                    intro l_39 l_40 hL57_41_0 hmL57_41 H locs ls hP hD hS hl
                    refine lv_iload_n hx hb dX10_edge_57 rfl (lv_at hl 0 rfl) ?_
                    refine lv_bipush (v := 10) hx hb dX10_edge_58 (by decide) ?_
                    refine lv_icmp_ge (tgt := 110) hx hb dX10_edge_60 (by decide) (fun c_42 => ?_) (fun c_42 => ?_)
                    · have gc_42 : 10 ≤ l_40.toInt := i_le (by decide : (10 : Int32).toInt = 10) (rfl : l_40.toInt = l_40.toInt) c_42
                      refine lv_iload_n hx hb dX10_edge_110 rfl (lv_at hl 1 rfl) ?_
                      refine lv_if_eq (tgt := 116) hx hb dX10_edge_111 (by decide) (fun c_43 => ?_) (fun c_43 => ?_)
                      · have gc_43 : l_39.toInt = 0 := i_eq (rfl : l_39.toInt = l_39.toInt) (by decide : (0 : Int32).toInt = 0) c_43
                        obtain ⟨n_44, en_44⟩ : ∃ y : Int32, y = l_33 + 1 := ⟨_, rfl⟩
                        have tn_44 : n_44.toInt = l_33.toInt + 1 := i_add en_44 (rfl : l_33.toInt = l_33.toInt) (by decide : (1 : Int32).toInt = 1) (by omega) (by omega)
                        refine lv_iinc (v := n_44) (lv' := [(1, .int n_44), (3, .int l_40), (2, .int l_39), (0, .ref (hm 0))]) hx hb dX10_edge_116 hl (k := 2) rfl (by rw [en_44]; rfl) (by decide) rfl (fun ls hl => ?_)
                        refine lv_goto (tgt := 47) hx hb dX10_edge_119 (by decide) ?_
                        exact ih47_34 n_44 (by omega) (by omega) _ _ _ hP hD hS (lv_sub hl [0, 3] rfl)
                      · have gc_43 : l_39.toInt ≠ 0 := i_ne (rfl : l_39.toInt = l_39.toInt) (by decide : (0 : Int32).toInt = 0) c_43
                        refine lv_iload_n hx hb dX10_edge_114 rfl (lv_at hl 2 rfl) ?_
                        exact hrt l_33 zatW_11 zatL_12 zatT_13 zatH_14 zatM_15 zatI_16 zatQ_17 zgoPace_18 zgoMinutes_19 zworth_20 zisRefused_21 ztired_22 zupTo_23 zupNext_24 zbyChanges_25 ⟨(by omega), (by omega), p_28, p_29⟩ hP hD hS rfl dX10_edge_115
                    · have gc_42 : l_40.toInt < 10 := i_nle (by decide : (10 : Int32).toInt = 10) (rfl : l_40.toInt = l_40.toInt) c_42
                      refine lv_iload_n hx hb dX10_edge_63 rfl (lv_at hl 1 rfl) ?_
                      refine lv_if_eq (tgt := 102) hx hb dX10_edge_64 (by decide) (fun c_45 => ?_) (fun c_45 => ?_)
                      · have gc_45 : l_39.toInt = 0 := i_eq (rfl : l_39.toInt = l_39.toInt) (by decide : (0 : Int32).toInt = 0) c_45
                        refine lv_iconst (v := 0) hx hb dX10_edge_102 (by decide) ?_
                        refine lv_istore_n (lv' := [(2, .int 0), (3, .int l_40), (1, .int l_33), (0, .ref (hm 0))]) hx hb dX10_edge_103 rfl hl (by decide) rfl (fun ls hl => ?_)
                        obtain ⟨n_46, en_46⟩ : ∃ y : Int32, y = l_40 + 1 := ⟨_, rfl⟩
                        have tn_46 : n_46.toInt = l_40.toInt + 1 := i_add en_46 (rfl : l_40.toInt = l_40.toInt) (by decide : (1 : Int32).toInt = 1) (by omega) (by omega)
                        refine lv_iinc (v := n_46) (lv' := [(3, .int n_46), (2, .int 0), (1, .int l_33), (0, .ref (hm 0))]) hx hb dX10_edge_104 hl (k := 1) rfl (by rw [en_46]; rfl) (by decide) rfl (fun ls hl => ?_)
                        refine lv_goto (tgt := 57) hx hb dX10_edge_107 (by decide) ?_
                        have k_47 : (0 : Int32).toInt = 0 := by decide
                        exact ih57_41 0 n_46 (by omega) (by omega) _ _ _ hP hD hS (lv_sub hl [0, 1, 2, 3] rfl)
                      · have gc_45 : l_39.toInt ≠ 0 := i_ne (rfl : l_39.toInt = l_39.toInt) (by decide : (0 : Int32).toInt = 0) c_45
                        refine lv_aload_n hx hb dX10_edge_67 rfl (lv_at hl 3 rfl) ?_
                        refine gt_MD_MD_byChanges hx hb hts hown hK hP lwd_200 dX10_edge_68 ?_
                        refine lv_iload_n hx hb dX10_edge_71 rfl (lv_at hl 0 rfl) ?_
                        refine al_m_byChanges hx hb hK hP (i_in (rfl : l_40.toInt = l_40.toInt) (by omega) (by omega)) dX10_edge_72 (fun n_48 en_48 => ?_)
                        refine lv_ldcw hx hb hown (hts _ lwd_827) dX10_edge_73 ?_
                        refine lv_icmp_eq (tgt := 98) hx hb dX10_edge_76 (by decide) (fun c_49 => ?_) (fun c_49 => ?_)
                        · have gc_49 : n_48.toInt = 1000000000 := i_eq (rfl : n_48.toInt = n_48.toInt) (by decide : (1000000000 : Int32).toInt = 1000000000) c_49
                          refine lv_iconst (v := 1) hx hb dX10_edge_98 (by decide) ?_
                          refine lv_goto (tgt := 103) hx hb dX10_edge_99 (by decide) ?_
                          refine lv_istore_n (lv' := [(2, .int 1), (3, .int l_40), (1, .int l_33), (0, .ref (hm 0))]) hx hb dX10_edge_103 rfl hl (by decide) rfl (fun ls hl => ?_)
                          obtain ⟨n_50, en_50⟩ : ∃ y : Int32, y = l_40 + 1 := ⟨_, rfl⟩
                          have tn_50 : n_50.toInt = l_40.toInt + 1 := i_add en_50 (rfl : l_40.toInt = l_40.toInt) (by decide : (1 : Int32).toInt = 1) (by omega) (by omega)
                          refine lv_iinc (v := n_50) (lv' := [(3, .int n_50), (2, .int 1), (1, .int l_33), (0, .ref (hm 0))]) hx hb dX10_edge_104 hl (k := 1) rfl (by rw [en_50]; rfl) (by decide) rfl (fun ls hl => ?_)
                          refine lv_goto (tgt := 57) hx hb dX10_edge_107 (by decide) ?_
                          have k_51 : (1 : Int32).toInt = 1 := by decide
                          exact ih57_41 1 n_50 (by omega) (by omega) _ _ _ hP hD hS (lv_sub hl [0, 1, 2, 3] rfl)
                        · have gc_49 : n_48.toInt ≠ 1000000000 := i_ne (rfl : n_48.toInt = n_48.toInt) (by decide : (1000000000 : Int32).toInt = 1000000000) c_49
                          refine lv_aload_n hx hb dX10_edge_79 rfl (lv_at hl 3 rfl) ?_
                          refine gt_MD_MD_byChanges hx hb hts hown hK hP lwd_200 dX10_edge_80 ?_
                          refine lv_iload_n hx hb dX10_edge_83 rfl (lv_at hl 0 rfl) ?_
                          refine al_m_byChanges hx hb hK hP (i_in (rfl : l_40.toInt = l_40.toInt) (by omega) (by omega)) dX10_edge_84 (fun n_52 en_52 => ?_)
                          obtain rfl : n_48 = n_52 := en_48.trans en_52.symm
                          refine lv_iload_n hx hb dX10_edge_85 rfl (lv_at hl 0 rfl) ?_
                          refine lv_iload_n hx hb dX10_edge_86 rfl (lv_at hl 2 rfl) ?_
                          refine lv_imul hx hb dX10_edge_87 ?_
                          have mb_53 := mul_bd (a := l_40.toInt) (b := l_33.toInt) (A := 9) (B := 120) (by omega) (by omega) (by omega) (by omega)
                          refine lv_topi (fun n_54 en_54 => ?_)
                          have tn_54 : n_54.toInt = l_40.toInt * l_33.toInt := i_mul en_54 (rfl : l_40.toInt = l_40.toInt) (rfl : l_33.toInt = l_33.toInt) (by omega) (by omega)
                          refine lv_iadd hx hb dX10_edge_88 ?_
                          refine lv_topi (fun n_55 en_55 => ?_)
                          refine lv_aload_n hx hb dX10_edge_89 rfl (lv_at hl 3 rfl) ?_
                          refine gt_MD_MD_byChanges hx hb hts hown hK hP lwd_200 dX10_edge_90 ?_
                          refine lv_iconst (v := 0) hx hb dX10_edge_93 (by decide) ?_
                          refine al_m_byChanges hx hb hK hP (i_in (by decide : (0 : Int32).toInt = 0) (by decide) (by decide)) dX10_edge_94 (fun n_56 en_56 => ?_)
                          obtain rfl : n_30 = n_56 := en_30.trans en_56.symm
                          refine lv_icmp_lt (tgt := 102) hx hb dX10_edge_95 (by decide) (fun c_57 => ?_) (fun c_57 => ?_)
                          · have gc_57 : n_55.toInt < n_30.toInt := i_lt (rfl : n_55.toInt = n_55.toInt) (rfl : n_30.toInt = n_30.toInt) c_57
                            refine lv_iconst (v := 0) hx hb dX10_edge_102 (by decide) ?_
                            refine lv_istore_n (lv' := [(2, .int 0), (3, .int l_40), (1, .int l_33), (0, .ref (hm 0))]) hx hb dX10_edge_103 rfl hl (by decide) rfl (fun ls hl => ?_)
                            obtain ⟨n_58, en_58⟩ : ∃ y : Int32, y = l_40 + 1 := ⟨_, rfl⟩
                            have tn_58 : n_58.toInt = l_40.toInt + 1 := i_add en_58 (rfl : l_40.toInt = l_40.toInt) (by decide : (1 : Int32).toInt = 1) (by omega) (by omega)
                            refine lv_iinc (v := n_58) (lv' := [(3, .int n_58), (2, .int 0), (1, .int l_33), (0, .ref (hm 0))]) hx hb dX10_edge_104 hl (k := 1) rfl (by rw [en_58]; rfl) (by decide) rfl (fun ls hl => ?_)
                            refine lv_goto (tgt := 57) hx hb dX10_edge_107 (by decide) ?_
                            have k_59 : (0 : Int32).toInt = 0 := by decide
                            exact ih57_41 0 n_58 (by omega) (by omega) _ _ _ hP hD hS (lv_sub hl [0, 1, 2, 3] rfl)
                          · have gc_57 : n_30.toInt ≤ n_55.toInt := i_nlt (rfl : n_55.toInt = n_55.toInt) (rfl : n_30.toInt = n_30.toInt) c_57
                            refine lv_iconst (v := 1) hx hb dX10_edge_98 (by decide) ?_
                            refine lv_goto (tgt := 103) hx hb dX10_edge_99 (by decide) ?_
                            refine lv_istore_n (lv' := [(2, .int 1), (3, .int l_40), (1, .int l_33), (0, .ref (hm 0))]) hx hb dX10_edge_103 rfl hl (by decide) rfl (fun ls hl => ?_)
                            obtain ⟨n_60, en_60⟩ : ∃ y : Int32, y = l_40 + 1 := ⟨_, rfl⟩
                            have tn_60 : n_60.toInt = l_40.toInt + 1 := i_add en_60 (rfl : l_40.toInt = l_40.toInt) (by decide : (1 : Int32).toInt = 1) (by omega) (by omega)
                            refine lv_iinc (v := n_60) (lv' := [(3, .int n_60), (2, .int 1), (1, .int l_33), (0, .ref (hm 0))]) hx hb dX10_edge_104 hl (k := 1) rfl (by rw [en_60]; rfl) (by decide) rfl (fun ls hl => ?_)
                            refine lv_goto (tgt := 57) hx hb dX10_edge_107 (by decide) ?_
                            have k_61 : (1 : Int32).toInt = 1 := by decide
                            exact ih57_41 1 n_60 (by omega) (by omega) _ _ _ hP hD hS (lv_sub hl [0, 1, 2, 3] rfl)
                have k_62 : (1 : Int32).toInt = 1 := by decide
                have k_63 : (1 : Int32).toInt = 1 := by decide
                exact L57_41 8589934592 1 1 (by omega) (by omega) _ _ _ hP hD hS (lv_sub hl [0, 1, 2, 3] rfl)
          have k_64 : (0 : Int32).toInt = 0 := by decide
          exact L47_34 8589934592 0 (by omega) (by omega) _ _ _ hP hD hS (lv_sub hl [0, 1] rfl)
        · have gc_31 : n_30.toInt = 1000000000 := i_eq (rfl : n_30.toInt = n_30.toInt) (by decide : (1000000000 : Int32).toInt = 1000000000) c_31
          refine lv_bipush (v := (-2)) hx hb dX10_edge_42 (by decide) ?_
          have k_65 : ((-2) : Int32).toInt = (-2) := by decide
          exact hrt (-2) zatW_11 zatL_12 zatT_13 zatH_14 zatM_15 zatI_16 zatQ_17 zgoPace_18 zgoMinutes_19 zworth_20 zisRefused_21 ztired_22 zupTo_23 zupNext_24 zbyChanges_25 ⟨(by omega), (by omega), p_28, p_29⟩ hP hD hS rfl dX10_edge_44
      · have gc_8 : r_5.toInt = 0 := i_eq (rfl : r_5.toInt = r_5.toInt) (by decide : (0 : Int32).toInt = 0) c_8
        refine lv_bipush (v := (-2)) hx hb dX10_edge_23 (by decide) ?_
        have k_66 : ((-2) : Int32).toInt = (-2) := by decide
        exact hrt (-2) v_atW v_atL v_atT v_atH v_atM v_atI v_atQ v_goPace v_goMinutes f_m_worth f_m_isRefused f_m_tired f_m_upTo f_m_upNext f_m_byChanges ⟨(by omega), (by omega), hr_m_isRefused, hr_m_tired⟩ hP hD hS rfl dX10_edge_25
    · have gc_3 : v_pieces.toInt = 0 := i_eq (rfl : v_pieces.toInt = v_pieces.toInt) (by decide : (0 : Int32).toInt = 0) c_3
      refine lv_iconst (v := (-1)) hx hb dX10_edge_14 (by decide) ?_
      have k_67 : ((-1) : Int32).toInt = (-1) := by decide
      exact hrt (-1) v_atW v_atL v_atT v_atH v_atM v_atI v_atQ v_goPace v_goMinutes f_m_worth f_m_isRefused f_m_tired f_m_upTo f_m_upNext f_m_byChanges ⟨(by omega), (by omega), hr_m_isRefused, hr_m_tired⟩ hP hD hS rfl dX10_edge_15
set_option maxHeartbeats 16000000 in
set_option maxRecDepth 100000 in
theorem c_X10_setPace (l : Launch) (D : va_G) (cy : Nat → ClassId) (hm : Nat → Nat) (v_taped v_walkers v_loads v_pieces v_changeCosts v_planned v_isMarch v_clauseMany v_place v_end v_bad v_clauses v_codes v_open v_stacked v_isOver v_isBehind v_atW v_atL v_atT v_atH v_atM v_atI v_atQ v_packing v_packed v_goPace v_goMinutes v_spentAt v_ranChanges : Int32) (f_m_tape f_m_knee f_m_weight f_m_isLame f_m_loadWeight f_m_owner f_m_food f_m_miles f_m_slope f_m_clauseLetter f_m_sumFrom f_m_codeFrom f_m_codeTo f_m_code f_m_codeArg f_m_newLetter f_m_newSum f_m_newFrom f_m_newTo f_m_newCode f_m_newArg f_m_stack f_m_worth f_m_isRefused f_m_least f_m_packPounds f_m_packOwner f_m_room f_m_givenTo f_m_canBe f_m_setPounds f_m_plainTime f_m_muleTime f_m_planTo f_m_march f_m_tired f_m_ranMinutes f_m_tiredAhead f_m_isReached f_m_toEnd f_m_upTo f_m_upNext f_m_byChanges f_m_bandPaces : Nat → Int32) (sz : Nat) (set : Int32) (i : Int32) (tn : Int32) (hb_v_walkers : 0 ≤ v_walkers.toInt ∧ v_walkers.toInt ≤ 6) (hb_v_clauseMany : 0 ≤ v_clauseMany.toInt ∧ v_clauseMany.toInt ≤ 14) (hb_v_atW : 0 ≤ v_atW.toInt ∧ v_atW.toInt ≤ 5) (hr_m_weight : rg (0) 250 f_m_weight) (hr_m_isLame : rg (0) 1 f_m_isLame) (hr_m_miles : rg (0) 20 f_m_miles) (hr_m_isRefused : rg (0) 1 f_m_isRefused) (ha_i : 0 ≤ i.toInt ∧ i.toInt ≤ 9) (ha_tn : 0 ≤ tn.toInt ∧ tn.toInt ≤ 1) (hwf : wfC v_clauseMany f_m_sumFrom f_m_codeFrom f_m_codeTo f_m_code) : gMi l yX10_setPace cX10_setPace 7 .int 6 [.ref (hm 0), .int set, .int i, .int tn] D cy (wMD cy hm v_taped v_walkers v_loads v_pieces v_changeCosts v_planned v_isMarch v_clauseMany v_place v_end v_bad v_clauses v_codes v_open v_stacked v_isOver v_isBehind v_atW v_atL v_atT v_atH v_atM v_atI v_atQ v_packing v_packed v_goPace v_goMinutes v_spentAt v_ranChanges f_m_tape f_m_knee f_m_weight f_m_isLame f_m_loadWeight f_m_owner f_m_food f_m_miles f_m_slope f_m_clauseLetter f_m_sumFrom f_m_codeFrom f_m_codeTo f_m_code f_m_codeArg f_m_newLetter f_m_newSum f_m_newFrom f_m_newTo f_m_newCode f_m_newArg f_m_stack f_m_worth f_m_isRefused f_m_least f_m_packPounds f_m_packOwner f_m_room f_m_givenTo f_m_canBe f_m_setPounds f_m_plainTime f_m_muleTime f_m_planTo f_m_march f_m_tired f_m_ranMinutes f_m_tiredAhead f_m_isReached f_m_toEnd f_m_upTo f_m_upNext f_m_byChanges f_m_bandPaces) NT sz (fun (r : Int32) (u : Int32 × Int32 × Int32 × Int32 × Int32 × Int32 × Int32 × (Nat → Int32) × (Nat → Int32)) => (0 ≤ r.toInt ∧ r.toInt ≤ 60) ∧ (0 ≤ (u.1).toInt ∧ (u.1).toInt ≤ 5) ∧ (rg (0) 1 (u.2.2.2.2.2.2.2.2))) (fun u => wMD cy hm v_taped v_walkers v_loads v_pieces v_changeCosts v_planned v_isMarch v_clauseMany v_place v_end v_bad v_clauses v_codes v_open v_stacked v_isOver v_isBehind (u.1) (u.2.1) (u.2.2.1) (u.2.2.2.1) (u.2.2.2.2.1) (u.2.2.2.2.2.1) (u.2.2.2.2.2.2.1) v_packing v_packed v_goPace v_goMinutes v_spentAt v_ranChanges f_m_tape f_m_knee f_m_weight f_m_isLame f_m_loadWeight f_m_owner f_m_food f_m_miles f_m_slope f_m_clauseLetter f_m_sumFrom f_m_codeFrom f_m_codeTo f_m_code f_m_codeArg f_m_newLetter f_m_newSum f_m_newFrom f_m_newTo f_m_newCode f_m_newArg f_m_stack (u.2.2.2.2.2.2.2.1) (u.2.2.2.2.2.2.2.2) f_m_least f_m_packPounds f_m_packOwner f_m_room f_m_givenTo f_m_canBe f_m_setPounds f_m_plainTime f_m_muleTime f_m_planTo f_m_march f_m_tired f_m_ranMinutes f_m_tiredAhead f_m_isReached f_m_toEnd f_m_upTo f_m_upNext f_m_byChanges f_m_bandPaces) := by
  refine gMi_in (by decide) (Nat.le_of_ble_eq_true rfl) ?_
  intro p e s m args below meth c A ls Q hx hb hml hts hown hsz hP hK hD hN hAe hA hS hl hret
  subst hsz
  have hl : lv_has ls 7 [(0, .ref (hm 0)), (1, .int set), (2, .int i), (3, .int tn)] := hl
  have hrt := fun (r : Int32) (v_atW' : Int32) (v_atL' : Int32) (v_atT' : Int32) (v_atH' : Int32) (v_atM' : Int32) (v_atI' : Int32) (v_atQ' : Int32) (f_m_worth' : Nat → Int32) (f_m_isRefused' : Nat → Int32) (hp : (0 ≤ r.toInt ∧ r.toInt ≤ 60) ∧ (0 ≤ v_atW'.toInt ∧ v_atW'.toInt ≤ 5) ∧ (rg (0) 1 f_m_isRefused')) {H : Heap} {locs : List Loc} {pc : Nat} {ls : Array Slot} => hret r (v_atW', v_atL', v_atT', v_atH', v_atM', v_atI', v_atQ', f_m_worth', f_m_isRefused') (H := H) (locs := locs) (pc := pc) (ls := ls) hp
  clear hret
  refine lv_bipush (v := 60) hx hb dX10_setPace_0 (by decide) ?_
  refine lv_istore (lv' := [(4, .int 60), (0, .ref (hm 0)), (1, .int set), (2, .int i), (3, .int tn)]) hx hb dX10_setPace_2 hl (by decide) rfl (fun ls hl => ?_)
  refine lv_iconst (v := 0) hx hb dX10_setPace_4 (by decide) ?_
  refine lv_istore (lv' := [(5, .int 0), (4, .int 60), (0, .ref (hm 0)), (1, .int set), (2, .int i), (3, .int tn)]) hx hb dX10_setPace_5 hl (by decide) rfl (fun ls hl => ?_)
  have L7_23 : ∀ (n : Nat) (f_12 : Nat → Int32) (f_13 : Nat → Int32) (l_14 : Int32) (l_15 : Int32) (w_16 : Int32) (w_17 : Int32) (w_18 : Int32) (w_19 : Int32) (w_20 : Int32) (w_21 : Int32) (w_22 : Int32), (rg (0) 1 f_12) → (0 ≤ l_14.toInt ∧ l_14.toInt ≤ 60) → (0 ≤ l_15.toInt ∧ l_15.toInt ≤ 6) → (0 ≤ w_22.toInt ∧ w_22.toInt ≤ 5) → 7 - l_15.toInt < n → ∀ (H : Heap) (locs : List Loc) (ls : Array Slot), va_P D vwCl (wMD cy hm v_taped v_walkers v_loads v_pieces v_changeCosts v_planned v_isMarch v_clauseMany v_place v_end v_bad v_clauses v_codes v_open v_stacked v_isOver v_isBehind w_22 w_18 w_21 w_16 w_19 w_17 w_20 v_packing v_packed v_goPace v_goMinutes v_spentAt v_ranChanges f_m_tape f_m_knee f_m_weight f_m_isLame f_m_loadWeight f_m_owner f_m_food f_m_miles f_m_slope f_m_clauseLetter f_m_sumFrom f_m_codeFrom f_m_codeTo f_m_code f_m_codeArg f_m_newLetter f_m_newSum f_m_newFrom f_m_newTo f_m_newCode f_m_newArg f_m_stack f_13 f_12 f_m_least f_m_packPounds f_m_packOwner f_m_room f_m_givenTo f_m_canBe f_m_setPounds f_m_plainTime f_m_muleTime f_m_planTo f_m_march f_m_tired f_m_ranMinutes f_m_tiredAhead f_m_isReached f_m_toEnd f_m_upTo f_m_upNext f_m_byChanges f_m_bandPaces) H → va_D A (wMD cy hm v_taped v_walkers v_loads v_pieces v_changeCosts v_planned v_isMarch v_clauseMany v_place v_end v_bad v_clauses v_codes v_open v_stacked v_isOver v_isBehind w_22 w_18 w_21 w_16 w_19 w_17 w_20 v_packing v_packed v_goPace v_goMinutes v_spentAt v_ranChanges f_m_tape f_m_knee f_m_weight f_m_isLame f_m_loadWeight f_m_owner f_m_food f_m_miles f_m_slope f_m_clauseLetter f_m_sumFrom f_m_codeFrom f_m_codeTo f_m_code f_m_codeArg f_m_newLetter f_m_newSum f_m_newFrom f_m_newTo f_m_newCode f_m_newArg f_m_stack f_13 f_12 f_m_least f_m_packPounds f_m_packOwner f_m_room f_m_givenTo f_m_canBe f_m_setPounds f_m_plainTime f_m_muleTime f_m_planTo f_m_march f_m_tired f_m_ranMinutes f_m_tiredAhead f_m_isReached f_m_toEnd f_m_upTo f_m_upNext f_m_byChanges f_m_bandPaces) → va_S A s.heap H locs → lv_has ls 7 [(5, .int l_15), (4, .int l_14), (0, .ref (hm 0)), (1, .int set), (2, .int i), (3, .int tn)] → W p l e (gRm 6) s m args below meth c H locs 0 0 Q (F0 m 7 ls []) := by
    intro n
    induction n with
    | zero => intro f_12 f_13 l_14 l_15 w_16 w_17 w_18 w_19 w_20 w_21 w_22 hL7_23_0 hL7_23_1 hL7_23_2 hL7_23_3 hm; exact absurd hm (by omega)
    | succ n ih7_23 =>
      intro f_12 f_13 l_14 l_15 w_16 w_17 w_18 w_19 w_20 w_21 w_22 hL7_23_0 hL7_23_1 hL7_23_2 hL7_23_3 hmL7_23 H locs ls hP hD hS hl
      refine lv_iload hx hb dX10_setPace_7 (lv_at hl 0 rfl) ?_
      refine lv_aload_n hx hb dX10_setPace_9 rfl (lv_at hl 2 rfl) ?_
      refine gt_MD_MD_walkers hx hb hts hown hK hP lwd_221 dX10_setPace_10 ?_
      refine lv_icmp_ge (tgt := 62) hx hb dX10_setPace_13 (by decide) (fun c_24 => ?_) (fun c_24 => ?_)
      · have gc_24 : v_walkers.toInt ≤ l_15.toInt := i_le (rfl : v_walkers.toInt = v_walkers.toInt) (rfl : l_15.toInt = l_15.toInt) c_24
        refine lv_iload hx hb dX10_setPace_62 (lv_at hl 1 rfl) ?_
        exact hrt l_14 w_22 w_18 w_21 w_16 w_19 w_17 w_20 f_13 f_12 ⟨(by omega), (by omega), hL7_23_0⟩ hP hD hS rfl dX10_setPace_64
      · have gc_24 : l_15.toInt < v_walkers.toInt := i_nle (rfl : v_walkers.toInt = v_walkers.toInt) (rfl : l_15.toInt = l_15.toInt) c_24
        refine lv_iload_n hx hb dX10_setPace_16 rfl (lv_at hl 3 rfl) ?_
        refine lv_iload hx hb dX10_setPace_17 (lv_at hl 0 rfl) ?_
        refine xi hD hS hA (xS (As := [.int set, .int l_15]) (rest := []) hx hb hml hown hts hK hP hD hS hA NT_ok hN hAe hl.1 ⟨Nat.le_refl _, Nat.le_refl _⟩ (c_X10_has l D cy hm v_taped v_walkers v_loads v_pieces v_changeCosts v_planned v_isMarch v_clauseMany v_place v_end v_bad v_clauses v_codes v_open v_stacked v_isOver v_isBehind w_22 w_18 w_21 w_16 w_19 w_17 w_20 v_packing v_packed v_goPace v_goMinutes v_spentAt v_ranChanges f_m_tape f_m_knee f_m_weight f_m_isLame f_m_loadWeight f_m_owner f_m_food f_m_miles f_m_slope f_m_clauseLetter f_m_sumFrom f_m_codeFrom f_m_codeTo f_m_code f_m_codeArg f_m_newLetter f_m_newSum f_m_newFrom f_m_newTo f_m_newCode f_m_newArg f_m_stack f_13 f_12 f_m_least f_m_packPounds f_m_packOwner f_m_room f_m_givenTo f_m_canBe f_m_setPounds f_m_plainTime f_m_muleTime f_m_planTo f_m_march f_m_tired f_m_ranMinutes f_m_tiredAhead f_m_isReached f_m_toEnd f_m_upTo f_m_upNext f_m_byChanges f_m_bandPaces H.size set l_15) (gi_S lwd_750 lwd_751 lwd_5 lwd_752) hd_X10_has ⟨Nat.le_of_ble_eq_true rfl, Nat.le_of_ble_eq_true rfl⟩ rfl (Nat.le_of_ble_eq_true rfl) dX10_setPace_19) (fun r_26 u_25 H locs hw hP hD hS => ?_)
        try dsimp only at hw hP hD
        have p_27 := hw
        clear hw
        refine lv_if_ne (tgt := 28) hx hb dX10_setPace_22 (by decide) (fun c_28 => ?_) (fun c_28 => ?_)
        · have gc_28 : r_26.toInt ≠ 0 := i_ne (rfl : r_26.toInt = r_26.toInt) (by decide : (0 : Int32).toInt = 0) c_28
          refine lv_aload_n hx hb dX10_setPace_28 rfl (lv_at hl 2 rfl) ?_
          refine lv_iload hx hb dX10_setPace_29 (lv_at hl 0 rfl) ?_
          refine lv_iconst (v := 0) hx hb dX10_setPace_31 (by decide) ?_
          refine lv_iconst (v := 0) hx hb dX10_setPace_32 (by decide) ?_
          refine lv_iload_n hx hb dX10_setPace_33 rfl (lv_at hl 4 rfl) ?_
          refine lv_iload_n hx hb dX10_setPace_34 rfl (lv_at hl 5 rfl) ?_
          have k_29 : (0 : Int32).toInt = 0 := by decide
          refine xi hD hS hA (xV (As := [.int l_15, .int 0, .int 0, .int i, .int tn]) (rest := []) hx hb hml hown hts hK hP hD hS hA NT_ok hN hAe hl.1 ⟨Nat.le_refl _, Nat.le_refl _⟩ 0 rfl rfl rfl (c_X10_paceOf l D cy hm v_taped v_walkers v_loads v_pieces v_changeCosts v_planned v_isMarch v_clauseMany v_place v_end v_bad v_clauses v_codes v_open v_stacked v_isOver v_isBehind w_22 w_18 w_21 w_16 w_19 w_17 w_20 v_packing v_packed v_goPace v_goMinutes v_spentAt v_ranChanges f_m_tape f_m_knee f_m_weight f_m_isLame f_m_loadWeight f_m_owner f_m_food f_m_miles f_m_slope f_m_clauseLetter f_m_sumFrom f_m_codeFrom f_m_codeTo f_m_code f_m_codeArg f_m_newLetter f_m_newSum f_m_newFrom f_m_newTo f_m_newCode f_m_newArg f_m_stack f_13 f_12 f_m_least f_m_packPounds f_m_packOwner f_m_room f_m_givenTo f_m_canBe f_m_setPounds f_m_plainTime f_m_muleTime f_m_planTo f_m_march f_m_tired f_m_ranMinutes f_m_tiredAhead f_m_isReached f_m_toEnd f_m_upTo f_m_upNext f_m_byChanges f_m_bandPaces H.size l_15 0 0 i tn (by omega) (by omega) (by omega) hr_m_weight hr_m_isLame hr_m_miles hL7_23_0 (by omega) (by omega) (by omega) hwf) (gi_V lwd_553 lwd_554 lwd_555 lwd_5 lwd_556) ⟨rfl, hd_X10_paceOf⟩ ⟨Nat.le_of_ble_eq_true rfl, Nat.le_of_ble_eq_true rfl⟩ rfl (Nat.le_of_ble_eq_true rfl) dX10_setPace_35) (fun r_31 u_30 H locs hw hP hD hS => ?_)
          obtain ⟨zatW_32, zatL_33, zatT_34, zatH_35, zatM_36, zatI_37, zatQ_38, zworth_39, zisRefused_40⟩ := u_30
          try dsimp only at hw hP hD
          obtain ⟨p_41, p_42, p_43⟩ := hw
          refine lv_istore (lv' := [(6, .int r_31), (5, .int l_15), (4, .int l_14), (0, .ref (hm 0)), (1, .int set), (2, .int i), (3, .int tn)]) hx hb dX10_setPace_38 hl (by decide) rfl (fun ls hl => ?_)
          refine lv_iload hx hb dX10_setPace_40 (lv_at hl 0 rfl) ?_
          refine lv_iload hx hb dX10_setPace_42 (lv_at hl 2 rfl) ?_
          refine lv_icmp_ge (tgt := 52) hx hb dX10_setPace_44 (by decide) (fun c_44 => ?_) (fun c_44 => ?_)
          · have gc_44 : l_14.toInt ≤ r_31.toInt := i_le (rfl : l_14.toInt = l_14.toInt) (rfl : r_31.toInt = r_31.toInt) c_44
            refine lv_iload hx hb dX10_setPace_52 (lv_at hl 2 rfl) ?_
            refine lv_istore (lv' := [(4, .int l_14), (6, .int r_31), (5, .int l_15), (0, .ref (hm 0)), (1, .int set), (2, .int i), (3, .int tn)]) hx hb dX10_setPace_54 hl (by decide) rfl (fun ls hl => ?_)
            obtain ⟨n_45, en_45⟩ : ∃ y : Int32, y = l_15 + 1 := ⟨_, rfl⟩
            have tn_45 : n_45.toInt = l_15.toInt + 1 := i_add en_45 (rfl : l_15.toInt = l_15.toInt) (by decide : (1 : Int32).toInt = 1) (by omega) (by omega)
            refine lv_iinc (v := n_45) (lv' := [(5, .int n_45), (4, .int l_14), (6, .int r_31), (0, .ref (hm 0)), (1, .int set), (2, .int i), (3, .int tn)]) hx hb dX10_setPace_56 hl (k := 2) rfl (by rw [en_45]; rfl) (by decide) rfl (fun ls hl => ?_)
            refine lv_goto (tgt := 7) hx hb dX10_setPace_59 (by decide) ?_
            exact ih7_23 zisRefused_40 zworth_39 l_14 n_45 zatH_35 zatI_37 zatL_33 zatM_36 zatQ_38 zatT_34 zatW_32 p_43 (by omega) (by omega) (by omega) (by omega) _ _ _ hP hD hS (lv_sub hl [0, 1, 3, 4, 5, 6] rfl)
          · have gc_44 : r_31.toInt < l_14.toInt := i_nle (rfl : l_14.toInt = l_14.toInt) (rfl : r_31.toInt = r_31.toInt) c_44
            refine lv_iload hx hb dX10_setPace_47 (lv_at hl 0 rfl) ?_
            refine lv_goto (tgt := 54) hx hb dX10_setPace_49 (by decide) ?_
            refine lv_istore (lv' := [(4, .int r_31), (6, .int r_31), (5, .int l_15), (0, .ref (hm 0)), (1, .int set), (2, .int i), (3, .int tn)]) hx hb dX10_setPace_54 hl (by decide) rfl (fun ls hl => ?_)
            obtain ⟨n_46, en_46⟩ : ∃ y : Int32, y = l_15 + 1 := ⟨_, rfl⟩
            have tn_46 : n_46.toInt = l_15.toInt + 1 := i_add en_46 (rfl : l_15.toInt = l_15.toInt) (by decide : (1 : Int32).toInt = 1) (by omega) (by omega)
            refine lv_iinc (v := n_46) (lv' := [(5, .int n_46), (4, .int r_31), (6, .int r_31), (0, .ref (hm 0)), (1, .int set), (2, .int i), (3, .int tn)]) hx hb dX10_setPace_56 hl (k := 2) rfl (by rw [en_46]; rfl) (by decide) rfl (fun ls hl => ?_)
            refine lv_goto (tgt := 7) hx hb dX10_setPace_59 (by decide) ?_
            exact ih7_23 zisRefused_40 zworth_39 r_31 n_46 zatH_35 zatI_37 zatL_33 zatM_36 zatQ_38 zatT_34 zatW_32 p_43 (by omega) (by omega) (by omega) (by omega) _ _ _ hP hD hS (lv_sub hl [0, 1, 3, 4, 5, 6] rfl)
        · have gc_28 : r_26.toInt = 0 := i_eq (rfl : r_26.toInt = r_26.toInt) (by decide : (0 : Int32).toInt = 0) c_28
          refine lv_goto (tgt := 56) hx hb dX10_setPace_25 (by decide) ?_
          obtain ⟨n_47, en_47⟩ : ∃ y : Int32, y = l_15 + 1 := ⟨_, rfl⟩
          have tn_47 : n_47.toInt = l_15.toInt + 1 := i_add en_47 (rfl : l_15.toInt = l_15.toInt) (by decide : (1 : Int32).toInt = 1) (by omega) (by omega)
          refine lv_iinc (v := n_47) (lv' := [(5, .int n_47), (4, .int l_14), (0, .ref (hm 0)), (1, .int set), (2, .int i), (3, .int tn)]) hx hb dX10_setPace_56 hl (k := 0) rfl (by rw [en_47]; rfl) (by decide) rfl (fun ls hl => ?_)
          refine lv_goto (tgt := 7) hx hb dX10_setPace_59 (by decide) ?_
          exact ih7_23 f_12 f_13 l_14 n_47 w_16 w_17 w_18 w_19 w_20 w_21 w_22 hL7_23_0 (by omega) (by omega) (by omega) (by omega) _ _ _ hP hD hS (lv_sub hl [0, 1, 2, 3, 4, 5] rfl)
  have k_48 : (60 : Int32).toInt = 60 := by decide
  have k_49 : (0 : Int32).toInt = 0 := by decide
  exact L7_23 8589934592 f_m_isRefused f_m_worth 60 0 v_atH v_atI v_atL v_atM v_atQ v_atT v_atW hr_m_isRefused (by omega) (by omega) (by omega) (by omega) _ _ _ hP hD hS (lv_sub hl [0, 1, 2, 3, 4, 5] rfl)
set_option maxHeartbeats 16000000 in
set_option maxRecDepth 100000 in
theorem c_X10_kettle (l : Launch) (D : va_G) (cy : Nat → ClassId) (hm : Nat → Nat) (v_taped v_walkers v_loads v_pieces v_changeCosts v_planned v_isMarch v_clauseMany v_place v_end v_bad v_clauses v_codes v_open v_stacked v_isOver v_isBehind v_atW v_atL v_atT v_atH v_atM v_atI v_atQ v_packing v_packed v_goPace v_goMinutes v_spentAt v_ranChanges : Int32) (f_m_tape f_m_knee f_m_weight f_m_isLame f_m_loadWeight f_m_owner f_m_food f_m_miles f_m_slope f_m_clauseLetter f_m_sumFrom f_m_codeFrom f_m_codeTo f_m_code f_m_codeArg f_m_newLetter f_m_newSum f_m_newFrom f_m_newTo f_m_newCode f_m_newArg f_m_stack f_m_worth f_m_isRefused f_m_least f_m_packPounds f_m_packOwner f_m_room f_m_givenTo f_m_canBe f_m_setPounds f_m_plainTime f_m_muleTime f_m_planTo f_m_march f_m_tired f_m_ranMinutes f_m_tiredAhead f_m_isReached f_m_toEnd f_m_upTo f_m_upNext f_m_byChanges f_m_bandPaces : Nat → Int32) (sz : Nat) (x : Int32) (hb_v_walkers : 0 ≤ v_walkers.toInt ∧ v_walkers.toInt ≤ 6) (hb_v_loads : 0 ≤ v_loads.toInt ∧ v_loads.toInt ≤ 9) (hb_v_pieces : 0 ≤ v_pieces.toInt ∧ v_pieces.toInt ≤ 10) (hb_v_isMarch : 0 ≤ v_isMarch.toInt ∧ v_isMarch.toInt ≤ 1) (hb_v_clauseMany : 0 ≤ v_clauseMany.toInt ∧ v_clauseMany.toInt ≤ 14) (hb_v_atW : 0 ≤ v_atW.toInt ∧ v_atW.toInt ≤ 5) (hb_v_goPace : 0 ≤ v_goPace.toInt ∧ v_goPace.toInt ≤ 60) (hb_v_spentAt : -1 ≤ v_spentAt.toInt ∧ v_spentAt.toInt ≤ 9) (hr_m_weight : rg (0) 250 f_m_weight) (hr_m_isLame : rg (0) 1 f_m_isLame) (hr_m_loadWeight : rg (0) 120 f_m_loadWeight) (hr_m_food : rg (0) 20 f_m_food) (hr_m_miles : rg (0) 20 f_m_miles) (hr_m_isRefused : rg (0) 1 f_m_isRefused) (hr_m_march : rg (0) 17 f_m_march) (hr_m_tired : rg (0) 5 f_m_tired) (hr_m_tiredAhead : rg (0) 46655 f_m_tiredAhead) (hwf : wfC v_clauseMany f_m_sumFrom f_m_codeFrom f_m_codeTo f_m_code) : gMi l yX10_kettle cX10_kettle 7 .int 9 [.ref (hm 0), .int x] D cy (wMD cy hm v_taped v_walkers v_loads v_pieces v_changeCosts v_planned v_isMarch v_clauseMany v_place v_end v_bad v_clauses v_codes v_open v_stacked v_isOver v_isBehind v_atW v_atL v_atT v_atH v_atM v_atI v_atQ v_packing v_packed v_goPace v_goMinutes v_spentAt v_ranChanges f_m_tape f_m_knee f_m_weight f_m_isLame f_m_loadWeight f_m_owner f_m_food f_m_miles f_m_slope f_m_clauseLetter f_m_sumFrom f_m_codeFrom f_m_codeTo f_m_code f_m_codeArg f_m_newLetter f_m_newSum f_m_newFrom f_m_newTo f_m_newCode f_m_newArg f_m_stack f_m_worth f_m_isRefused f_m_least f_m_packPounds f_m_packOwner f_m_room f_m_givenTo f_m_canBe f_m_setPounds f_m_plainTime f_m_muleTime f_m_planTo f_m_march f_m_tired f_m_ranMinutes f_m_tiredAhead f_m_isReached f_m_toEnd f_m_upTo f_m_upNext f_m_byChanges f_m_bandPaces) NT sz (fun (r : Int32) (u : Int32 × Int32 × Int32 × Int32 × Int32 × Int32 × Int32 × Int32 × Int32 × Int32 × Int32 × (Nat → Int32) × (Nat → Int32) × (Nat → Int32) × (Nat → Int32) × (Nat → Int32)) => (0 ≤ (u.1).toInt ∧ (u.1).toInt ≤ 5) ∧ (0 ≤ (u.2.2.2.2.2.2.2.1).toInt ∧ (u.2.2.2.2.2.2.2.1).toInt ≤ 60) ∧ (-1 ≤ (u.2.2.2.2.2.2.2.2.2.1).toInt ∧ (u.2.2.2.2.2.2.2.2.2.1).toInt ≤ 9) ∧ (rg (0) 1 (u.2.2.2.2.2.2.2.2.2.2.2.2.1)) ∧ (rg (0) 5 (u.2.2.2.2.2.2.2.2.2.2.2.2.2.1)) ∧ (rg (0) 46655 (u.2.2.2.2.2.2.2.2.2.2.2.2.2.2.2))) (fun u => wMD cy hm v_taped v_walkers v_loads v_pieces v_changeCosts v_planned v_isMarch v_clauseMany v_place v_end v_bad v_clauses v_codes v_open v_stacked v_isOver v_isBehind (u.1) (u.2.1) (u.2.2.1) (u.2.2.2.1) (u.2.2.2.2.1) (u.2.2.2.2.2.1) (u.2.2.2.2.2.2.1) v_packing v_packed (u.2.2.2.2.2.2.2.1) (u.2.2.2.2.2.2.2.2.1) (u.2.2.2.2.2.2.2.2.2.1) (u.2.2.2.2.2.2.2.2.2.2.1) f_m_tape f_m_knee f_m_weight f_m_isLame f_m_loadWeight f_m_owner f_m_food f_m_miles f_m_slope f_m_clauseLetter f_m_sumFrom f_m_codeFrom f_m_codeTo f_m_code f_m_codeArg f_m_newLetter f_m_newSum f_m_newFrom f_m_newTo f_m_newCode f_m_newArg f_m_stack (u.2.2.2.2.2.2.2.2.2.2.2.1) (u.2.2.2.2.2.2.2.2.2.2.2.2.1) f_m_least f_m_packPounds f_m_packOwner f_m_room f_m_givenTo f_m_canBe f_m_setPounds f_m_plainTime f_m_muleTime f_m_planTo f_m_march (u.2.2.2.2.2.2.2.2.2.2.2.2.2.1) (u.2.2.2.2.2.2.2.2.2.2.2.2.2.2.1) (u.2.2.2.2.2.2.2.2.2.2.2.2.2.2.2) f_m_isReached f_m_toEnd f_m_upTo f_m_upNext f_m_byChanges f_m_bandPaces) := by
  refine gMi_in (by decide) (Nat.le_of_ble_eq_true rfl) ?_
  intro p e s m args below meth c A ls Q hx hb hml hts hown hsz hP hK hD hN hAe hA hS hl hret
  subst hsz
  have hl : lv_has ls 7 [(0, .ref (hm 0)), (1, .int x)] := hl
  have hrt := fun (r : Int32) (v_atW' : Int32) (v_atL' : Int32) (v_atT' : Int32) (v_atH' : Int32) (v_atM' : Int32) (v_atI' : Int32) (v_atQ' : Int32) (v_goPace' : Int32) (v_goMinutes' : Int32) (v_spentAt' : Int32) (v_ranChanges' : Int32) (f_m_worth' : Nat → Int32) (f_m_isRefused' : Nat → Int32) (f_m_tired' : Nat → Int32) (f_m_ranMinutes' : Nat → Int32) (f_m_tiredAhead' : Nat → Int32) (hp : (0 ≤ v_atW'.toInt ∧ v_atW'.toInt ≤ 5) ∧ (0 ≤ v_goPace'.toInt ∧ v_goPace'.toInt ≤ 60) ∧ (-1 ≤ v_spentAt'.toInt ∧ v_spentAt'.toInt ≤ 9) ∧ (rg (0) 1 f_m_isRefused') ∧ (rg (0) 5 f_m_tired') ∧ (rg (0) 46655 f_m_tiredAhead')) {H : Heap} {locs : List Loc} {pc : Nat} {ls : Array Slot} => hret r (v_atW', v_atL', v_atT', v_atH', v_atM', v_atI', v_atQ', v_goPace', v_goMinutes', v_spentAt', v_ranChanges', f_m_worth', f_m_isRefused', f_m_tired', f_m_ranMinutes', f_m_tiredAhead') (H := H) (locs := locs) (pc := pc) (ls := ls) hp
  clear hret
  refine lv_aload_n hx hb dX10_kettle_0 rfl (lv_at hl 0 rfl) ?_
  refine gt_MD_MD_isMarch hx hb hts hown hK hP lwd_225 dX10_kettle_1 ?_
  refine lv_if_eq (tgt := 15) hx hb dX10_kettle_4 (by decide) (fun c_1 => ?_) (fun c_1 => ?_)
  · have gc_1 : v_isMarch.toInt = 0 := i_eq (rfl : v_isMarch.toInt = v_isMarch.toInt) (by decide : (0 : Int32).toInt = 0) c_1
    refine lv_iconst (v := (-1)) hx hb dX10_kettle_15 (by decide) ?_
    have k_2 : ((-1) : Int32).toInt = (-1) := by decide
    exact hrt (-1) v_atW v_atL v_atT v_atH v_atM v_atI v_atQ v_goPace v_goMinutes v_spentAt v_ranChanges f_m_worth f_m_isRefused f_m_tired f_m_ranMinutes f_m_tiredAhead ⟨(by omega), (by omega), (by omega), hr_m_isRefused, hr_m_tired, hr_m_tiredAhead⟩ hP hD hS rfl dX10_kettle_16
  · have gc_1 : v_isMarch.toInt ≠ 0 := i_ne (rfl : v_isMarch.toInt = v_isMarch.toInt) (by decide : (0 : Int32).toInt = 0) c_1
    refine lv_aload_n hx hb dX10_kettle_7 rfl (lv_at hl 0 rfl) ?_
    refine lv_iload_n hx hb dX10_kettle_8 rfl (lv_at hl 1 rfl) ?_
    refine xi hD hS hA (xV (As := [.int x]) (rest := []) hx hb hml hown hts hK hP hD hS hA NT_ok hN hAe hl.1 ⟨Nat.le_refl _, Nat.le_refl _⟩ 0 rfl rfl rfl (c_X10_isLoad l D cy hm v_taped v_walkers v_loads v_pieces v_changeCosts v_planned v_isMarch v_clauseMany v_place v_end v_bad v_clauses v_codes v_open v_stacked v_isOver v_isBehind v_atW v_atL v_atT v_atH v_atM v_atI v_atQ v_packing v_packed v_goPace v_goMinutes v_spentAt v_ranChanges f_m_tape f_m_knee f_m_weight f_m_isLame f_m_loadWeight f_m_owner f_m_food f_m_miles f_m_slope f_m_clauseLetter f_m_sumFrom f_m_codeFrom f_m_codeTo f_m_code f_m_codeArg f_m_newLetter f_m_newSum f_m_newFrom f_m_newTo f_m_newCode f_m_newArg f_m_stack f_m_worth f_m_isRefused f_m_least f_m_packPounds f_m_packOwner f_m_room f_m_givenTo f_m_canBe f_m_setPounds f_m_plainTime f_m_muleTime f_m_planTo f_m_march f_m_tired f_m_ranMinutes f_m_tiredAhead f_m_isReached f_m_toEnd f_m_upTo f_m_upNext f_m_byChanges f_m_bandPaces s.heap.size x (by omega)) (gi_V lwd_732 lwd_733 lwd_734 lwd_5 lwd_735) ⟨rfl, hd_X10_isLoad⟩ ⟨Nat.le_of_ble_eq_true rfl, Nat.le_of_ble_eq_true rfl⟩ rfl (Nat.le_of_ble_eq_true rfl) dX10_kettle_9) (fun r_4 u_3 H locs hw hP hD hS => ?_)
    try dsimp only at hw hP hD
    obtain ⟨p_5, p_6⟩ := hw
    refine lv_if_ne (tgt := 17) hx hb dX10_kettle_12 (by decide) (fun c_7 => ?_) (fun c_7 => ?_)
    · have gc_7 : r_4.toInt ≠ 0 := i_ne (rfl : r_4.toInt = r_4.toInt) (by decide : (0 : Int32).toInt = 0) c_7
      refine lv_aload_n hx hb dX10_kettle_17 rfl (lv_at hl 0 rfl) ?_
      refine xv hD hS hA (xV (As := []) (rest := []) hx hb hml hown hts hK hP hD hS hA NT_ok hN hAe hl.1 ⟨Nat.le_refl _, Nat.le_refl _⟩ 0 rfl rfl rfl (c_X10_runs l D cy hm v_taped v_walkers v_loads v_pieces v_changeCosts v_planned v_isMarch v_clauseMany v_place v_end v_bad v_clauses v_codes v_open v_stacked v_isOver v_isBehind v_atW v_atL v_atT v_atH v_atM v_atI v_atQ v_packing v_packed v_goPace v_goMinutes v_spentAt v_ranChanges f_m_tape f_m_knee f_m_weight f_m_isLame f_m_loadWeight f_m_owner f_m_food f_m_miles f_m_slope f_m_clauseLetter f_m_sumFrom f_m_codeFrom f_m_codeTo f_m_code f_m_codeArg f_m_newLetter f_m_newSum f_m_newFrom f_m_newTo f_m_newCode f_m_newArg f_m_stack f_m_worth f_m_isRefused f_m_least f_m_packPounds f_m_packOwner f_m_room f_m_givenTo f_m_canBe f_m_setPounds f_m_plainTime f_m_muleTime f_m_planTo f_m_march f_m_tired f_m_ranMinutes f_m_tiredAhead f_m_isReached f_m_toEnd f_m_upTo f_m_upNext f_m_byChanges f_m_bandPaces H.size (by omega) (by omega) (by omega) (by omega) (by omega) (by omega) (by omega) hr_m_weight hr_m_isLame hr_m_loadWeight hr_m_food hr_m_miles hr_m_isRefused hr_m_march hr_m_tired hr_m_tiredAhead hwf) (gi_V lwd_986 lwd_987 lwd_988 lwd_5 lwd_989) ⟨rfl, hd_X10_runs⟩ ⟨Nat.le_of_ble_eq_true rfl, Nat.le_of_ble_eq_true rfl⟩ rfl (Nat.le_of_ble_eq_true rfl) dX10_kettle_18) (fun u_8 H locs hw hP hD hS => ?_)
      obtain ⟨zatW_10, zatL_11, zatT_12, zatH_13, zatM_14, zatI_15, zatQ_16, zgoPace_17, zgoMinutes_18, zspentAt_19, zranChanges_20, zworth_21, zisRefused_22, ztired_23, zranMinutes_24, ztiredAhead_25⟩ := u_8
      try dsimp only at hw hP hD
      obtain ⟨p_26, p_27, p_28, p_29, p_30, p_31⟩ := hw
      refine lv_bipush (v := (-2)) hx hb dX10_kettle_21 (by decide) ?_
      refine lv_istore_n (lv' := [(2, .int (-2)), (0, .ref (hm 0)), (1, .int x)]) hx hb dX10_kettle_23 rfl hl (by decide) rfl (fun ls hl => ?_)
      refine lv_iconst (v := 0) hx hb dX10_kettle_24 (by decide) ?_
      refine lv_istore_n (lv' := [(3, .int 0), (2, .int (-2)), (0, .ref (hm 0)), (1, .int x)]) hx hb dX10_kettle_25 rfl hl (by decide) rfl (fun ls hl => ?_)
      refine lv_iconst (v := 0) hx hb dX10_kettle_26 (by decide) ?_
      refine lv_istore (lv' := [(4, .int 0), (3, .int 0), (2, .int (-2)), (0, .ref (hm 0)), (1, .int x)]) hx hb dX10_kettle_27 hl (by decide) rfl (fun ls hl => ?_)
      have L29_38 : ∀ (n : Nat) (l_35 : Int32) (l_36 : Int32) (l_37 : Int32), (0 ≤ l_37.toInt ∧ l_37.toInt ≤ 6) → 7 - l_37.toInt < n → ∀ (H : Heap) (locs : List Loc) (ls : Array Slot), va_P D vwCl (wMD cy hm v_taped v_walkers v_loads v_pieces v_changeCosts v_planned v_isMarch v_clauseMany v_place v_end v_bad v_clauses v_codes v_open v_stacked v_isOver v_isBehind zatW_10 zatL_11 zatT_12 zatH_13 zatM_14 zatI_15 zatQ_16 v_packing v_packed zgoPace_17 zgoMinutes_18 zspentAt_19 zranChanges_20 f_m_tape f_m_knee f_m_weight f_m_isLame f_m_loadWeight f_m_owner f_m_food f_m_miles f_m_slope f_m_clauseLetter f_m_sumFrom f_m_codeFrom f_m_codeTo f_m_code f_m_codeArg f_m_newLetter f_m_newSum f_m_newFrom f_m_newTo f_m_newCode f_m_newArg f_m_stack zworth_21 zisRefused_22 f_m_least f_m_packPounds f_m_packOwner f_m_room f_m_givenTo f_m_canBe f_m_setPounds f_m_plainTime f_m_muleTime f_m_planTo f_m_march ztired_23 zranMinutes_24 ztiredAhead_25 f_m_isReached f_m_toEnd f_m_upTo f_m_upNext f_m_byChanges f_m_bandPaces) H → va_D A (wMD cy hm v_taped v_walkers v_loads v_pieces v_changeCosts v_planned v_isMarch v_clauseMany v_place v_end v_bad v_clauses v_codes v_open v_stacked v_isOver v_isBehind zatW_10 zatL_11 zatT_12 zatH_13 zatM_14 zatI_15 zatQ_16 v_packing v_packed zgoPace_17 zgoMinutes_18 zspentAt_19 zranChanges_20 f_m_tape f_m_knee f_m_weight f_m_isLame f_m_loadWeight f_m_owner f_m_food f_m_miles f_m_slope f_m_clauseLetter f_m_sumFrom f_m_codeFrom f_m_codeTo f_m_code f_m_codeArg f_m_newLetter f_m_newSum f_m_newFrom f_m_newTo f_m_newCode f_m_newArg f_m_stack zworth_21 zisRefused_22 f_m_least f_m_packPounds f_m_packOwner f_m_room f_m_givenTo f_m_canBe f_m_setPounds f_m_plainTime f_m_muleTime f_m_planTo f_m_march ztired_23 zranMinutes_24 ztiredAhead_25 f_m_isReached f_m_toEnd f_m_upTo f_m_upNext f_m_byChanges f_m_bandPaces) → va_S A s.heap H locs → lv_has ls 7 [(4, .int l_37), (3, .int l_36), (2, .int l_35), (0, .ref (hm 0)), (1, .int x)] → W p l e (gRm 9) s m args below meth c H locs 0 0 Q (F0 m 29 ls []) := by
        intro n
        induction n with
        | zero => intro l_35 l_36 l_37 hL29_38_0 hm; exact absurd hm (by omega)
        | succ n ih29_38 =>
          intro l_35 l_36 l_37 hL29_38_0 hmL29_38 H locs ls hP hD hS hl
          refine lv_iload hx hb dX10_kettle_29 (lv_at hl 0 rfl) ?_
          refine lv_aload_n hx hb dX10_kettle_31 rfl (lv_at hl 3 rfl) ?_
          refine gt_MD_MD_walkers hx hb hts hown hK hP lwd_221 dX10_kettle_32 ?_
          refine lv_icmp_ge (tgt := 121) hx hb dX10_kettle_35 (by decide) (fun c_39 => ?_) (fun c_39 => ?_)
          · have gc_39 : v_walkers.toInt ≤ l_37.toInt := i_le (rfl : v_walkers.toInt = v_walkers.toInt) (rfl : l_37.toInt = l_37.toInt) c_39
            refine lv_iload_n hx hb dX10_kettle_121 rfl (lv_at hl 2 rfl) ?_
            exact hrt l_35 zatW_10 zatL_11 zatT_12 zatH_13 zatM_14 zatI_15 zatQ_16 zgoPace_17 zgoMinutes_18 zspentAt_19 zranChanges_20 zworth_21 zisRefused_22 ztired_23 zranMinutes_24 ztiredAhead_25 ⟨(by omega), (by omega), (by omega), p_29, p_30, p_31⟩ hP hD hS rfl dX10_kettle_122
          · have gc_39 : l_37.toInt < v_walkers.toInt := i_nle (rfl : v_walkers.toInt = v_walkers.toInt) (rfl : l_37.toInt = l_37.toInt) c_39
            refine lv_iconst (v := 0) hx hb dX10_kettle_38 (by decide) ?_
            refine lv_istore (lv' := [(5, .int 0), (4, .int l_37), (3, .int l_36), (2, .int l_35), (0, .ref (hm 0)), (1, .int x)]) hx hb dX10_kettle_39 hl (by decide) rfl (fun ls hl => ?_)
            refine lv_iconst (v := 0) hx hb dX10_kettle_41 (by decide) ?_
            refine lv_istore (lv' := [(6, .int 0), (5, .int 0), (4, .int l_37), (3, .int l_36), (2, .int l_35), (0, .ref (hm 0)), (1, .int x)]) hx hb dX10_kettle_42 hl (by decide) rfl (fun ls hl => ?_)
            have L44_44 : ∀ (n : Nat) (l_42 : Int32) (l_43 : Int32), (0 ≤ l_43.toInt ∧ l_43.toInt ≤ 10) → 11 - l_43.toInt < n → ∀ (H : Heap) (locs : List Loc) (ls : Array Slot), va_P D vwCl (wMD cy hm v_taped v_walkers v_loads v_pieces v_changeCosts v_planned v_isMarch v_clauseMany v_place v_end v_bad v_clauses v_codes v_open v_stacked v_isOver v_isBehind zatW_10 zatL_11 zatT_12 zatH_13 zatM_14 zatI_15 zatQ_16 v_packing v_packed zgoPace_17 zgoMinutes_18 zspentAt_19 zranChanges_20 f_m_tape f_m_knee f_m_weight f_m_isLame f_m_loadWeight f_m_owner f_m_food f_m_miles f_m_slope f_m_clauseLetter f_m_sumFrom f_m_codeFrom f_m_codeTo f_m_code f_m_codeArg f_m_newLetter f_m_newSum f_m_newFrom f_m_newTo f_m_newCode f_m_newArg f_m_stack zworth_21 zisRefused_22 f_m_least f_m_packPounds f_m_packOwner f_m_room f_m_givenTo f_m_canBe f_m_setPounds f_m_plainTime f_m_muleTime f_m_planTo f_m_march ztired_23 zranMinutes_24 ztiredAhead_25 f_m_isReached f_m_toEnd f_m_upTo f_m_upNext f_m_byChanges f_m_bandPaces) H → va_D A (wMD cy hm v_taped v_walkers v_loads v_pieces v_changeCosts v_planned v_isMarch v_clauseMany v_place v_end v_bad v_clauses v_codes v_open v_stacked v_isOver v_isBehind zatW_10 zatL_11 zatT_12 zatH_13 zatM_14 zatI_15 zatQ_16 v_packing v_packed zgoPace_17 zgoMinutes_18 zspentAt_19 zranChanges_20 f_m_tape f_m_knee f_m_weight f_m_isLame f_m_loadWeight f_m_owner f_m_food f_m_miles f_m_slope f_m_clauseLetter f_m_sumFrom f_m_codeFrom f_m_codeTo f_m_code f_m_codeArg f_m_newLetter f_m_newSum f_m_newFrom f_m_newTo f_m_newCode f_m_newArg f_m_stack zworth_21 zisRefused_22 f_m_least f_m_packPounds f_m_packOwner f_m_room f_m_givenTo f_m_canBe f_m_setPounds f_m_plainTime f_m_muleTime f_m_planTo f_m_march ztired_23 zranMinutes_24 ztiredAhead_25 f_m_isReached f_m_toEnd f_m_upTo f_m_upNext f_m_byChanges f_m_bandPaces) → va_S A s.heap H locs → lv_has ls 7 [(6, .int l_43), (5, .int l_42), (4, .int l_37), (3, .int l_36), (2, .int l_35), (0, .ref (hm 0)), (1, .int x)] → W p l e (gRm 9) s m args below meth c H locs 0 0 Q (F0 m 44 ls []) := by
              intro n
              induction n with
              | zero => intro l_42 l_43 hL44_44_0 hm; exact absurd hm (by omega)
              | succ n ih44_44 =>
                intro l_42 l_43 hL44_44_0 hmL44_44 H locs ls hP hD hS hl
                refine lv_iload hx hb dX10_kettle_44 (lv_at hl 0 rfl) ?_
                refine lv_aload_n hx hb dX10_kettle_46 rfl (lv_at hl 5 rfl) ?_
                refine xi hD hS hA (xV (As := []) (rest := [.int l_43]) hx hb hml hown hts hK hP hD hS hA NT_ok hN hAe hl.1 ⟨Nat.le_refl _, Nat.le_refl _⟩ 0 rfl rfl rfl (c_X10_gone l D cy hm v_taped v_walkers v_loads v_pieces v_changeCosts v_planned v_isMarch v_clauseMany v_place v_end v_bad v_clauses v_codes v_open v_stacked v_isOver v_isBehind zatW_10 zatL_11 zatT_12 zatH_13 zatM_14 zatI_15 zatQ_16 v_packing v_packed zgoPace_17 zgoMinutes_18 zspentAt_19 zranChanges_20 f_m_tape f_m_knee f_m_weight f_m_isLame f_m_loadWeight f_m_owner f_m_food f_m_miles f_m_slope f_m_clauseLetter f_m_sumFrom f_m_codeFrom f_m_codeTo f_m_code f_m_codeArg f_m_newLetter f_m_newSum f_m_newFrom f_m_newTo f_m_newCode f_m_newArg f_m_stack zworth_21 zisRefused_22 f_m_least f_m_packPounds f_m_packOwner f_m_room f_m_givenTo f_m_canBe f_m_setPounds f_m_plainTime f_m_muleTime f_m_planTo f_m_march ztired_23 zranMinutes_24 ztiredAhead_25 f_m_isReached f_m_toEnd f_m_upTo f_m_upNext f_m_byChanges f_m_bandPaces H.size (by omega) (by omega)) (gi_V lwd_1020 lwd_1021 lwd_1022 lwd_5 lwd_1023) ⟨rfl, hd_X10_gone⟩ ⟨Nat.le_of_ble_eq_true rfl, Nat.le_of_ble_eq_true rfl⟩ rfl (Nat.le_of_ble_eq_true rfl) dX10_kettle_47) (fun r_46 u_45 H locs hw hP hD hS => ?_)
                try dsimp only at hw hP hD
                have p_47 := hw
                clear hw
                refine lv_icmp_ge (tgt := 100) hx hb dX10_kettle_50 (by decide) (fun c_48 => ?_) (fun c_48 => ?_)
                · have gc_48 : r_46.toInt ≤ l_43.toInt := i_le (rfl : r_46.toInt = r_46.toInt) (rfl : l_43.toInt = l_43.toInt) c_48
                  refine lv_iload hx hb dX10_kettle_100 (lv_at hl 1 rfl) ?_
                  refine lv_iload_n hx hb dX10_kettle_102 rfl (lv_at hl 3 rfl) ?_
                  refine lv_icmp_gt (tgt := 109) hx hb dX10_kettle_103 (by decide) (fun c_49 => ?_) (fun c_49 => ?_)
                  · have gc_49 : l_36.toInt < l_42.toInt := i_lt (rfl : l_36.toInt = l_36.toInt) (rfl : l_42.toInt = l_42.toInt) c_49
                    refine lv_iload hx hb dX10_kettle_109 (lv_at hl 2 rfl) ?_
                    refine lv_istore_n (lv' := [(2, .int l_37), (6, .int l_43), (5, .int l_42), (4, .int l_37), (3, .int l_36), (0, .ref (hm 0)), (1, .int x)]) hx hb dX10_kettle_111 rfl hl (by decide) rfl (fun ls hl => ?_)
                    refine lv_iload hx hb dX10_kettle_112 (lv_at hl 2 rfl) ?_
                    refine lv_istore_n (lv' := [(3, .int l_42), (2, .int l_37), (6, .int l_43), (5, .int l_42), (4, .int l_37), (0, .ref (hm 0)), (1, .int x)]) hx hb dX10_kettle_114 rfl hl (by decide) rfl (fun ls hl => ?_)
                    obtain ⟨n_50, en_50⟩ : ∃ y : Int32, y = l_37 + 1 := ⟨_, rfl⟩
                    have tn_50 : n_50.toInt = l_37.toInt + 1 := i_add en_50 (rfl : l_37.toInt = l_37.toInt) (by decide : (1 : Int32).toInt = 1) (by omega) (by omega)
                    refine lv_iinc (v := n_50) (lv' := [(4, .int n_50), (3, .int l_42), (2, .int l_37), (6, .int l_43), (5, .int l_42), (0, .ref (hm 0)), (1, .int x)]) hx hb dX10_kettle_115 hl (k := 4) rfl (by rw [en_50]; rfl) (by decide) rfl (fun ls hl => ?_)
                    refine lv_goto (tgt := 29) hx hb dX10_kettle_118 (by decide) ?_
                    exact ih29_38 l_37 l_42 n_50 (by omega) (by omega) _ _ _ hP hD hS (lv_sub hl [0, 1, 2, 5, 6] rfl)
                  · have gc_49 : l_42.toInt ≤ l_36.toInt := i_nlt (rfl : l_36.toInt = l_36.toInt) (rfl : l_42.toInt = l_42.toInt) c_49
                    refine lv_goto (tgt := 115) hx hb dX10_kettle_106 (by decide) ?_
                    obtain ⟨n_51, en_51⟩ : ∃ y : Int32, y = l_37 + 1 := ⟨_, rfl⟩
                    have tn_51 : n_51.toInt = l_37.toInt + 1 := i_add en_51 (rfl : l_37.toInt = l_37.toInt) (by decide : (1 : Int32).toInt = 1) (by omega) (by omega)
                    refine lv_iinc (v := n_51) (lv' := [(4, .int n_51), (6, .int l_43), (5, .int l_42), (3, .int l_36), (2, .int l_35), (0, .ref (hm 0)), (1, .int x)]) hx hb dX10_kettle_115 hl (k := 2) rfl (by rw [en_51]; rfl) (by decide) rfl (fun ls hl => ?_)
                    refine lv_goto (tgt := 29) hx hb dX10_kettle_118 (by decide) ?_
                    exact ih29_38 l_35 l_36 n_51 (by omega) (by omega) _ _ _ hP hD hS (lv_sub hl [0, 3, 4, 5, 6] rfl)
                · have gc_48 : l_43.toInt < r_46.toInt := i_nle (rfl : r_46.toInt = r_46.toInt) (rfl : l_43.toInt = l_43.toInt) c_48
                  refine lv_iload hx hb dX10_kettle_53 (lv_at hl 1 rfl) ?_
                  refine lv_aload_n hx hb dX10_kettle_55 rfl (lv_at hl 5 rfl) ?_
                  refine gt_MD_MD_planTo hx hb hts hown hK hP lwd_189 dX10_kettle_56 ?_
                  refine lv_bipush (v := 9) hx hb dX10_kettle_59 (by decide) ?_
                  refine lv_aload_n hx hb dX10_kettle_61 rfl (lv_at hl 5 rfl) ?_
                  refine gt_MD_MD_march hx hb hts hown hK hP lwd_190 dX10_kettle_62 ?_
                  refine lv_iload hx hb dX10_kettle_65 (lv_at hl 0 rfl) ?_
                  refine al_m_march hx hb hK hP hr_m_march (i_in (rfl : l_43.toInt = l_43.toInt) (by omega) (by omega)) dX10_kettle_67 (fun n_52 en_52 bn_52 => ?_)
                  refine lv_bipush (v := 6) hx hb dX10_kettle_68 (by decide) ?_
                  refine lv_irem hx hb dX10_kettle_70 (by decide) ?_
                  refine lv_topi (fun n_53 en_53 => ?_)
                  have tn_53 : n_53.toInt = n_52.toInt % 6 := i_rem en_53 (rfl : n_52.toInt = n_52.toInt) (by decide : (6 : Int32).toInt = 6) (by omega) (by omega)
                  refine lv_imul hx hb dX10_kettle_71 ?_
                  refine lv_topi (fun n_54 en_54 => ?_)
                  have tn_54 : n_54.toInt = 9 * (n_52.toInt % 6) := i_mul en_54 (by decide : (9 : Int32).toInt = 9) tn_53 (by omega) (by omega)
                  refine lv_iload_n hx hb dX10_kettle_72 rfl (lv_at hl 6 rfl) ?_
                  refine lv_iadd hx hb dX10_kettle_73 ?_
                  have hb_55 := And.intro (i_bot x) (i_top x)
                  refine lv_topi (fun n_56 en_56 => ?_)
                  have tn_56 : n_56.toInt = (9 * (n_52.toInt % 6)) + x.toInt := i_add en_56 tn_54 (rfl : x.toInt = x.toInt) (by omega) (by omega)
                  refine al_m_planTo hx hb hK hP (i_in tn_56 (by omega) (by omega)) dX10_kettle_74 (fun n_57 en_57 => ?_)
                  refine lv_iload hx hb dX10_kettle_75 (lv_at hl 2 rfl) ?_
                  refine lv_icmp_ne (tgt := 90) hx hb dX10_kettle_77 (by decide) (fun c_58 => ?_) (fun c_58 => ?_)
                  · have gc_58 : n_57.toInt ≠ l_37.toInt := i_ne (rfl : n_57.toInt = n_57.toInt) (rfl : l_37.toInt = l_37.toInt) c_58
                    refine lv_iconst (v := 0) hx hb dX10_kettle_90 (by decide) ?_
                    refine lv_iadd hx hb dX10_kettle_91 ?_
                    have hb_59 := And.intro (i_bot l_42) (i_top l_42)
                    refine lv_topi (fun n_60 en_60 => ?_)
                    have tn_60 : n_60.toInt = l_42.toInt + 0 := i_add en_60 (rfl : l_42.toInt = l_42.toInt) (by decide : (0 : Int32).toInt = 0) (by omega) (by omega)
                    refine lv_istore (lv' := [(5, .int n_60), (6, .int l_43), (4, .int l_37), (3, .int l_36), (2, .int l_35), (0, .ref (hm 0)), (1, .int x)]) hx hb dX10_kettle_92 hl (by decide) rfl (fun ls hl => ?_)
                    obtain ⟨n_61, en_61⟩ : ∃ y : Int32, y = l_43 + 1 := ⟨_, rfl⟩
                    have tn_61 : n_61.toInt = l_43.toInt + 1 := i_add en_61 (rfl : l_43.toInt = l_43.toInt) (by decide : (1 : Int32).toInt = 1) (by omega) (by omega)
                    refine lv_iinc (v := n_61) (lv' := [(6, .int n_61), (5, .int n_60), (4, .int l_37), (3, .int l_36), (2, .int l_35), (0, .ref (hm 0)), (1, .int x)]) hx hb dX10_kettle_94 hl (k := 1) rfl (by rw [en_61]; rfl) (by decide) rfl (fun ls hl => ?_)
                    refine lv_goto (tgt := 44) hx hb dX10_kettle_97 (by decide) ?_
                    exact ih44_44 n_60 n_61 (by omega) (by omega) _ _ _ hP hD hS (lv_sub hl [0, 1, 2, 3, 4, 5, 6] rfl)
                  · have gc_58 : n_57.toInt = l_37.toInt := i_eq (rfl : n_57.toInt = n_57.toInt) (rfl : l_37.toInt = l_37.toInt) c_58
                    refine lv_aload_n hx hb dX10_kettle_80 rfl (lv_at hl 5 rfl) ?_
                    refine gt_MD_MD_miles hx hb hts hown hK hP lwd_163 dX10_kettle_81 ?_
                    refine lv_iload hx hb dX10_kettle_84 (lv_at hl 0 rfl) ?_
                    refine al_m_miles hx hb hK hP hr_m_miles (i_in (rfl : l_43.toInt = l_43.toInt) (by omega) (by omega)) dX10_kettle_86 (fun n_62 en_62 bn_62 => ?_)
                    refine lv_goto (tgt := 91) hx hb dX10_kettle_87 (by decide) ?_
                    refine lv_iadd hx hb dX10_kettle_91 ?_
                    refine lv_topi (fun n_63 en_63 => ?_)
                    refine lv_istore (lv' := [(5, .int n_63), (6, .int l_43), (4, .int l_37), (3, .int l_36), (2, .int l_35), (0, .ref (hm 0)), (1, .int x)]) hx hb dX10_kettle_92 hl (by decide) rfl (fun ls hl => ?_)
                    obtain ⟨n_64, en_64⟩ : ∃ y : Int32, y = l_43 + 1 := ⟨_, rfl⟩
                    have tn_64 : n_64.toInt = l_43.toInt + 1 := i_add en_64 (rfl : l_43.toInt = l_43.toInt) (by decide : (1 : Int32).toInt = 1) (by omega) (by omega)
                    refine lv_iinc (v := n_64) (lv' := [(6, .int n_64), (5, .int n_63), (4, .int l_37), (3, .int l_36), (2, .int l_35), (0, .ref (hm 0)), (1, .int x)]) hx hb dX10_kettle_94 hl (k := 1) rfl (by rw [en_64]; rfl) (by decide) rfl (fun ls hl => ?_)
                    refine lv_goto (tgt := 44) hx hb dX10_kettle_97 (by decide) ?_
                    exact ih44_44 n_63 n_64 (by omega) (by omega) _ _ _ hP hD hS (lv_sub hl [0, 1, 2, 3, 4, 5, 6] rfl)
            have k_65 : (0 : Int32).toInt = 0 := by decide
            have k_66 : (0 : Int32).toInt = 0 := by decide
            exact L44_44 8589934592 0 0 (by omega) (by omega) _ _ _ hP hD hS (lv_sub hl [0, 1, 2, 3, 4, 5, 6] rfl)
      have k_67 : ((-2) : Int32).toInt = (-2) := by decide
      have k_68 : (0 : Int32).toInt = 0 := by decide
      have k_69 : (0 : Int32).toInt = 0 := by decide
      exact L29_38 8589934592 (-2) 0 0 (by omega) (by omega) _ _ _ hP hD hS (lv_sub hl [0, 1, 2, 3, 4] rfl)
    · have gc_7 : r_4.toInt = 0 := i_eq (rfl : r_4.toInt = r_4.toInt) (by decide : (0 : Int32).toInt = 0) c_7
      refine lv_iconst (v := (-1)) hx hb dX10_kettle_15 (by decide) ?_
      have k_70 : ((-1) : Int32).toInt = (-1) := by decide
      exact hrt (-1) v_atW v_atL v_atT v_atH v_atM v_atI v_atQ v_goPace v_goMinutes v_spentAt v_ranChanges f_m_worth f_m_isRefused f_m_tired f_m_ranMinutes f_m_tiredAhead ⟨(by omega), (by omega), (by omega), hr_m_isRefused, hr_m_tired, hr_m_tiredAhead⟩ hP hD hS rfl dX10_kettle_16
set_option maxHeartbeats 16000000 in
set_option maxRecDepth 100000 in
theorem c_X10_numberAt (l : Launch) (D : va_G) (cy : Nat → ClassId) (hm : Nat → Nat) (v_taped v_walkers v_loads v_pieces v_changeCosts v_planned v_isMarch v_clauseMany v_place v_end v_bad v_clauses v_codes v_open v_stacked v_isOver v_isBehind v_atW v_atL v_atT v_atH v_atM v_atI v_atQ v_packing v_packed v_goPace v_goMinutes v_spentAt v_ranChanges : Int32) (f_m_tape f_m_knee f_m_weight f_m_isLame f_m_loadWeight f_m_owner f_m_food f_m_miles f_m_slope f_m_clauseLetter f_m_sumFrom f_m_codeFrom f_m_codeTo f_m_code f_m_codeArg f_m_newLetter f_m_newSum f_m_newFrom f_m_newTo f_m_newCode f_m_newArg f_m_stack f_m_worth f_m_isRefused f_m_least f_m_packPounds f_m_packOwner f_m_room f_m_givenTo f_m_canBe f_m_setPounds f_m_plainTime f_m_muleTime f_m_planTo f_m_march f_m_tired f_m_ranMinutes f_m_tiredAhead f_m_isReached f_m_toEnd f_m_upTo f_m_upNext f_m_byChanges f_m_bandPaces : Nat → Int32) (sz : Nat) (k : Int32) (hr_m_tape : rg (-128) 127 f_m_tape) (ha_k : 0 ≤ k.toInt ∧ k.toInt ≤ 9) : gMi l yX10_numberAt cX10_numberAt 4 .int 1 [.ref (hm 0), .int k] D cy (wMD cy hm v_taped v_walkers v_loads v_pieces v_changeCosts v_planned v_isMarch v_clauseMany v_place v_end v_bad v_clauses v_codes v_open v_stacked v_isOver v_isBehind v_atW v_atL v_atT v_atH v_atM v_atI v_atQ v_packing v_packed v_goPace v_goMinutes v_spentAt v_ranChanges f_m_tape f_m_knee f_m_weight f_m_isLame f_m_loadWeight f_m_owner f_m_food f_m_miles f_m_slope f_m_clauseLetter f_m_sumFrom f_m_codeFrom f_m_codeTo f_m_code f_m_codeArg f_m_newLetter f_m_newSum f_m_newFrom f_m_newTo f_m_newCode f_m_newArg f_m_stack f_m_worth f_m_isRefused f_m_least f_m_packPounds f_m_packOwner f_m_room f_m_givenTo f_m_canBe f_m_setPounds f_m_plainTime f_m_muleTime f_m_planTo f_m_march f_m_tired f_m_ranMinutes f_m_tiredAhead f_m_isReached f_m_toEnd f_m_upTo f_m_upNext f_m_byChanges f_m_bandPaces) NT sz (fun (r : Int32) (u : Unit) => True) (fun u => wMD cy hm v_taped v_walkers v_loads v_pieces v_changeCosts v_planned v_isMarch v_clauseMany v_place v_end v_bad v_clauses v_codes v_open v_stacked v_isOver v_isBehind v_atW v_atL v_atT v_atH v_atM v_atI v_atQ v_packing v_packed v_goPace v_goMinutes v_spentAt v_ranChanges f_m_tape f_m_knee f_m_weight f_m_isLame f_m_loadWeight f_m_owner f_m_food f_m_miles f_m_slope f_m_clauseLetter f_m_sumFrom f_m_codeFrom f_m_codeTo f_m_code f_m_codeArg f_m_newLetter f_m_newSum f_m_newFrom f_m_newTo f_m_newCode f_m_newArg f_m_stack f_m_worth f_m_isRefused f_m_least f_m_packPounds f_m_packOwner f_m_room f_m_givenTo f_m_canBe f_m_setPounds f_m_plainTime f_m_muleTime f_m_planTo f_m_march f_m_tired f_m_ranMinutes f_m_tiredAhead f_m_isReached f_m_toEnd f_m_upTo f_m_upNext f_m_byChanges f_m_bandPaces) := by
  refine gMi_in (by decide) (Nat.le_of_ble_eq_true rfl) ?_
  intro p e s m args below meth c A ls Q hx hb hml hts hown hsz hP hK hD hN hAe hA hS hl hret
  subst hsz
  have hl : lv_has ls 4 [(0, .ref (hm 0)), (1, .int k)] := hl
  have hrt := fun (r : Int32)   {H : Heap} {locs : List Loc} {pc : Nat} {ls : Array Slot} => hret r () (H := H) (locs := locs) (pc := pc) (ls := ls) trivial
  clear hret
  refine lv_iconst (v := 0) hx hb dX10_numberAt_0 (by decide) ?_
  refine lv_istore_n (lv' := [(2, .int 0), (0, .ref (hm 0)), (1, .int k)]) hx hb dX10_numberAt_1 rfl hl (by decide) rfl (fun ls hl => ?_)
  refine lv_iconst (v := 0) hx hb dX10_numberAt_2 (by decide) ?_
  refine lv_istore_n (lv' := [(3, .int 0), (2, .int 0), (0, .ref (hm 0)), (1, .int k)]) hx hb dX10_numberAt_3 rfl hl (by decide) rfl (fun ls hl => ?_)
  have L4_5 : ∀ (n : Nat) (l_3 : Int32) (l_4 : Int32), (0 ≤ l_4.toInt ∧ l_4.toInt ≤ 4) → 5 - l_4.toInt < n → ∀ (H : Heap) (locs : List Loc) (ls : Array Slot), va_P D vwCl (wMD cy hm v_taped v_walkers v_loads v_pieces v_changeCosts v_planned v_isMarch v_clauseMany v_place v_end v_bad v_clauses v_codes v_open v_stacked v_isOver v_isBehind v_atW v_atL v_atT v_atH v_atM v_atI v_atQ v_packing v_packed v_goPace v_goMinutes v_spentAt v_ranChanges f_m_tape f_m_knee f_m_weight f_m_isLame f_m_loadWeight f_m_owner f_m_food f_m_miles f_m_slope f_m_clauseLetter f_m_sumFrom f_m_codeFrom f_m_codeTo f_m_code f_m_codeArg f_m_newLetter f_m_newSum f_m_newFrom f_m_newTo f_m_newCode f_m_newArg f_m_stack f_m_worth f_m_isRefused f_m_least f_m_packPounds f_m_packOwner f_m_room f_m_givenTo f_m_canBe f_m_setPounds f_m_plainTime f_m_muleTime f_m_planTo f_m_march f_m_tired f_m_ranMinutes f_m_tiredAhead f_m_isReached f_m_toEnd f_m_upTo f_m_upNext f_m_byChanges f_m_bandPaces) H → va_D A (wMD cy hm v_taped v_walkers v_loads v_pieces v_changeCosts v_planned v_isMarch v_clauseMany v_place v_end v_bad v_clauses v_codes v_open v_stacked v_isOver v_isBehind v_atW v_atL v_atT v_atH v_atM v_atI v_atQ v_packing v_packed v_goPace v_goMinutes v_spentAt v_ranChanges f_m_tape f_m_knee f_m_weight f_m_isLame f_m_loadWeight f_m_owner f_m_food f_m_miles f_m_slope f_m_clauseLetter f_m_sumFrom f_m_codeFrom f_m_codeTo f_m_code f_m_codeArg f_m_newLetter f_m_newSum f_m_newFrom f_m_newTo f_m_newCode f_m_newArg f_m_stack f_m_worth f_m_isRefused f_m_least f_m_packPounds f_m_packOwner f_m_room f_m_givenTo f_m_canBe f_m_setPounds f_m_plainTime f_m_muleTime f_m_planTo f_m_march f_m_tired f_m_ranMinutes f_m_tiredAhead f_m_isReached f_m_toEnd f_m_upTo f_m_upNext f_m_byChanges f_m_bandPaces) → va_S A s.heap H locs → lv_has ls 4 [(3, .int l_4), (2, .int l_3), (0, .ref (hm 0)), (1, .int k)] → W p l e (gRm 1) s m args below meth c H locs 0 0 Q (F0 m 4 ls []) := by
    intro n
    induction n with
    | zero => intro l_3 l_4 hL4_5_0 hm; exact absurd hm (by omega)
    | succ n ih4_5 =>
      intro l_3 l_4 hL4_5_0 hmL4_5 H locs ls hP hD hS hl
      refine lv_iload_n hx hb dX10_numberAt_4 rfl (lv_at hl 0 rfl) ?_
      refine lv_iconst (v := 4) hx hb dX10_numberAt_5 (by decide) ?_
      refine lv_icmp_ge (tgt := 35) hx hb dX10_numberAt_6 (by decide) (fun c_6 => ?_) (fun c_6 => ?_)
      · have gc_6 : 4 ≤ l_4.toInt := i_le (by decide : (4 : Int32).toInt = 4) (rfl : l_4.toInt = l_4.toInt) c_6
        refine lv_iload_n hx hb dX10_numberAt_35 rfl (lv_at hl 1 rfl) ?_
        exact hrt l_3   hP hD hS rfl dX10_numberAt_36
      · have gc_6 : l_4.toInt < 4 := i_nle (by decide : (4 : Int32).toInt = 4) (rfl : l_4.toInt = l_4.toInt) c_6
        refine lv_iload_n hx hb dX10_numberAt_9 rfl (lv_at hl 1 rfl) ?_
        refine lv_bipush (v := 8) hx hb dX10_numberAt_10 (by decide) ?_
        refine lv_ishl hx hb dX10_numberAt_12 ?_
        refine lv_topi (fun n_7 en_7 => ?_)
        refine lv_aload_n hx hb dX10_numberAt_13 rfl (lv_at hl 2 rfl) ?_
        refine gt_MD_MD_tape hx hb hts hown hK hP lwd_155 dX10_numberAt_14 ?_
        refine lv_iconst (v := 4) hx hb dX10_numberAt_17 (by decide) ?_
        refine lv_iload_n hx hb dX10_numberAt_18 rfl (lv_at hl 3 rfl) ?_
        refine lv_imul hx hb dX10_numberAt_19 ?_
        refine lv_topi (fun n_8 en_8 => ?_)
        have tn_8 : n_8.toInt = 4 * k.toInt := i_mul en_8 (by decide : (4 : Int32).toInt = 4) (rfl : k.toInt = k.toInt) (by omega) (by omega)
        refine lv_iload_n hx hb dX10_numberAt_20 rfl (lv_at hl 0 rfl) ?_
        refine lv_iadd hx hb dX10_numberAt_21 ?_
        refine lv_topi (fun n_9 en_9 => ?_)
        have tn_9 : n_9.toInt = (4 * k.toInt) + l_4.toInt := i_add en_9 tn_8 (rfl : l_4.toInt = l_4.toInt) (by omega) (by omega)
        refine al_m_tape hx hb hK hP hr_m_tape (i_in tn_9 (by omega) (by omega)) dX10_numberAt_22 (fun n_10 en_10 bn_10 => ?_)
        refine lv_sipush (v := 255) hx hb dX10_numberAt_23 (by decide) ?_
        refine lv_iand hx hb dX10_numberAt_26 ?_
        refine lv_topi (fun n_11 en_11 => ?_)
        have bn_11 : 0 ≤ n_11.toInt ∧ n_11.toInt ≤ 255 := i_msk 8 en_11 (by decide) (by decide) (by decide)
        refine lv_ior hx hb dX10_numberAt_27 ?_
        refine lv_topi (fun n_12 en_12 => ?_)
        refine lv_istore_n (lv' := [(2, .int n_12), (3, .int l_4), (0, .ref (hm 0)), (1, .int k)]) hx hb dX10_numberAt_28 rfl hl (by decide) rfl (fun ls hl => ?_)
        obtain ⟨n_13, en_13⟩ : ∃ y : Int32, y = l_4 + 1 := ⟨_, rfl⟩
        have tn_13 : n_13.toInt = l_4.toInt + 1 := i_add en_13 (rfl : l_4.toInt = l_4.toInt) (by decide : (1 : Int32).toInt = 1) (by omega) (by omega)
        refine lv_iinc (v := n_13) (lv' := [(3, .int n_13), (2, .int n_12), (0, .ref (hm 0)), (1, .int k)]) hx hb dX10_numberAt_29 hl (k := 1) rfl (by rw [en_13]; rfl) (by decide) rfl (fun ls hl => ?_)
        refine lv_goto (tgt := 4) hx hb dX10_numberAt_32 (by decide) ?_
        exact ih4_5 n_12 n_13 (by omega) (by omega) _ _ _ hP hD hS (lv_sub hl [0, 1, 2, 3] rfl)
  have k_14 : (0 : Int32).toInt = 0 := by decide
  have k_15 : (0 : Int32).toInt = 0 := by decide
  exact L4_5 8589934592 0 0 (by omega) (by omega) _ _ _ hP hD hS (lv_sub hl [0, 1, 2, 3] rfl)
set_option maxHeartbeats 16000000 in
set_option maxRecDepth 100000 in
theorem c_X10_check (l : Launch) (D : va_G) (cy : Nat → ClassId) (hm : Nat → Nat) (v_taped v_walkers v_loads v_pieces v_changeCosts v_planned v_isMarch v_clauseMany v_place v_end v_bad v_clauses v_codes v_open v_stacked v_isOver v_isBehind v_atW v_atL v_atT v_atH v_atM v_atI v_atQ v_packing v_packed v_goPace v_goMinutes v_spentAt v_ranChanges : Int32) (f_m_tape f_m_knee f_m_weight f_m_isLame f_m_loadWeight f_m_owner f_m_food f_m_miles f_m_slope f_m_clauseLetter f_m_sumFrom f_m_codeFrom f_m_codeTo f_m_code f_m_codeArg f_m_newLetter f_m_newSum f_m_newFrom f_m_newTo f_m_newCode f_m_newArg f_m_stack f_m_worth f_m_isRefused f_m_least f_m_packPounds f_m_packOwner f_m_room f_m_givenTo f_m_canBe f_m_setPounds f_m_plainTime f_m_muleTime f_m_planTo f_m_march f_m_tired f_m_ranMinutes f_m_tiredAhead f_m_isReached f_m_toEnd f_m_upTo f_m_upNext f_m_byChanges f_m_bandPaces : Nat → Int32) (sz : Nat) (n1 : Int32) (hb_v_taped : 0 ≤ v_taped.toInt ∧ v_taped.toInt ≤ 220) (hb_v_walkers : 0 ≤ v_walkers.toInt ∧ v_walkers.toInt ≤ 6) (hb_v_loads : 0 ≤ v_loads.toInt ∧ v_loads.toInt ≤ 9) (hb_v_pieces : 0 ≤ v_pieces.toInt ∧ v_pieces.toInt ≤ 10) (hb_v_isMarch : 0 ≤ v_isMarch.toInt ∧ v_isMarch.toInt ≤ 1) (hb_v_clauseMany : 0 ≤ v_clauseMany.toInt ∧ v_clauseMany.toInt ≤ 14) (hb_v_atW : 0 ≤ v_atW.toInt ∧ v_atW.toInt ≤ 5) (hb_v_goPace : 0 ≤ v_goPace.toInt ∧ v_goPace.toInt ≤ 60) (hb_v_spentAt : -1 ≤ v_spentAt.toInt ∧ v_spentAt.toInt ≤ 9) (hr_m_tape : rg (-128) 127 f_m_tape) (hr_m_weight : rg (0) 250 f_m_weight) (hr_m_isLame : rg (0) 1 f_m_isLame) (hr_m_loadWeight : rg (0) 120 f_m_loadWeight) (hr_m_food : rg (0) 20 f_m_food) (hr_m_miles : rg (0) 20 f_m_miles) (hr_m_isRefused : rg (0) 1 f_m_isRefused) (hr_m_march : rg (0) 17 f_m_march) (hr_m_tired : rg (0) 5 f_m_tired) (hr_m_tiredAhead : rg (0) 46655 f_m_tiredAhead) (hwf : wfC v_clauseMany f_m_sumFrom f_m_codeFrom f_m_codeTo f_m_code) : gMi l yX10_check cX10_check 3 .int 9 [.ref (hm 0), .int n1] D cy (wMD cy hm v_taped v_walkers v_loads v_pieces v_changeCosts v_planned v_isMarch v_clauseMany v_place v_end v_bad v_clauses v_codes v_open v_stacked v_isOver v_isBehind v_atW v_atL v_atT v_atH v_atM v_atI v_atQ v_packing v_packed v_goPace v_goMinutes v_spentAt v_ranChanges f_m_tape f_m_knee f_m_weight f_m_isLame f_m_loadWeight f_m_owner f_m_food f_m_miles f_m_slope f_m_clauseLetter f_m_sumFrom f_m_codeFrom f_m_codeTo f_m_code f_m_codeArg f_m_newLetter f_m_newSum f_m_newFrom f_m_newTo f_m_newCode f_m_newArg f_m_stack f_m_worth f_m_isRefused f_m_least f_m_packPounds f_m_packOwner f_m_room f_m_givenTo f_m_canBe f_m_setPounds f_m_plainTime f_m_muleTime f_m_planTo f_m_march f_m_tired f_m_ranMinutes f_m_tiredAhead f_m_isReached f_m_toEnd f_m_upTo f_m_upNext f_m_byChanges f_m_bandPaces) NT sz (fun (r : Int32) (u : Int32 × Int32 × Int32 × Int32 × Int32 × Int32 × Int32 × Int32 × Int32 × Int32 × Int32 × Int32 × (Nat → Int32) × (Nat → Int32) × (Nat → Int32) × (Nat → Int32) × (Nat → Int32)) => (0 ≤ (u.1).toInt ∧ (u.1).toInt ≤ 220) ∧ (0 ≤ (u.2.1).toInt ∧ (u.2.1).toInt ≤ 5) ∧ (0 ≤ (u.2.2.2.2.2.2.2.2.1).toInt ∧ (u.2.2.2.2.2.2.2.2.1).toInt ≤ 60) ∧ (-1 ≤ (u.2.2.2.2.2.2.2.2.2.2.1).toInt ∧ (u.2.2.2.2.2.2.2.2.2.2.1).toInt ≤ 9) ∧ (rg (0) 1 (u.2.2.2.2.2.2.2.2.2.2.2.2.2.1)) ∧ (rg (0) 5 (u.2.2.2.2.2.2.2.2.2.2.2.2.2.2.1)) ∧ (rg (0) 46655 (u.2.2.2.2.2.2.2.2.2.2.2.2.2.2.2.2))) (fun u => wMD cy hm (u.1) v_walkers v_loads v_pieces v_changeCosts v_planned v_isMarch v_clauseMany v_place v_end v_bad v_clauses v_codes v_open v_stacked v_isOver v_isBehind (u.2.1) (u.2.2.1) (u.2.2.2.1) (u.2.2.2.2.1) (u.2.2.2.2.2.1) (u.2.2.2.2.2.2.1) (u.2.2.2.2.2.2.2.1) v_packing v_packed (u.2.2.2.2.2.2.2.2.1) (u.2.2.2.2.2.2.2.2.2.1) (u.2.2.2.2.2.2.2.2.2.2.1) (u.2.2.2.2.2.2.2.2.2.2.2.1) f_m_tape f_m_knee f_m_weight f_m_isLame f_m_loadWeight f_m_owner f_m_food f_m_miles f_m_slope f_m_clauseLetter f_m_sumFrom f_m_codeFrom f_m_codeTo f_m_code f_m_codeArg f_m_newLetter f_m_newSum f_m_newFrom f_m_newTo f_m_newCode f_m_newArg f_m_stack (u.2.2.2.2.2.2.2.2.2.2.2.2.1) (u.2.2.2.2.2.2.2.2.2.2.2.2.2.1) f_m_least f_m_packPounds f_m_packOwner f_m_room f_m_givenTo f_m_canBe f_m_setPounds f_m_plainTime f_m_muleTime f_m_planTo f_m_march (u.2.2.2.2.2.2.2.2.2.2.2.2.2.2.1) (u.2.2.2.2.2.2.2.2.2.2.2.2.2.2.2.1) (u.2.2.2.2.2.2.2.2.2.2.2.2.2.2.2.2) f_m_isReached f_m_toEnd f_m_upTo f_m_upNext f_m_byChanges f_m_bandPaces) := by
  refine gMi_in (by decide) (Nat.le_of_ble_eq_true rfl) ?_
  intro p e s m args below meth c A ls Q hx hb hml hts hown hsz hP hK hD hN hAe hA hS hl hret
  subst hsz
  have hl : lv_has ls 3 [(0, .ref (hm 0)), (1, .int n1)] := hl
  have hrt := fun (r : Int32) (v_taped' : Int32) (v_atW' : Int32) (v_atL' : Int32) (v_atT' : Int32) (v_atH' : Int32) (v_atM' : Int32) (v_atI' : Int32) (v_atQ' : Int32) (v_goPace' : Int32) (v_goMinutes' : Int32) (v_spentAt' : Int32) (v_ranChanges' : Int32) (f_m_worth' : Nat → Int32) (f_m_isRefused' : Nat → Int32) (f_m_tired' : Nat → Int32) (f_m_ranMinutes' : Nat → Int32) (f_m_tiredAhead' : Nat → Int32) (hp : (0 ≤ v_taped'.toInt ∧ v_taped'.toInt ≤ 220) ∧ (0 ≤ v_atW'.toInt ∧ v_atW'.toInt ≤ 5) ∧ (0 ≤ v_goPace'.toInt ∧ v_goPace'.toInt ≤ 60) ∧ (-1 ≤ v_spentAt'.toInt ∧ v_spentAt'.toInt ≤ 9) ∧ (rg (0) 1 f_m_isRefused') ∧ (rg (0) 5 f_m_tired') ∧ (rg (0) 46655 f_m_tiredAhead')) {H : Heap} {locs : List Loc} {pc : Nat} {ls : Array Slot} => hret r (v_taped', v_atW', v_atL', v_atT', v_atH', v_atM', v_atI', v_atQ', v_goPace', v_goMinutes', v_spentAt', v_ranChanges', f_m_worth', f_m_isRefused', f_m_tired', f_m_ranMinutes', f_m_tiredAhead') (H := H) (locs := locs) (pc := pc) (ls := ls) hp
  clear hret
  refine lv_aload_n hx hb dX10_check_0 rfl (lv_at hl 0 rfl) ?_
  refine gt_MD_MD_isMarch hx hb hts hown hK hP lwd_225 dX10_check_1 ?_
  refine lv_if_eq (tgt := 21) hx hb dX10_check_4 (by decide) (fun c_1 => ?_) (fun c_1 => ?_)
  · have gc_1 : v_isMarch.toInt = 0 := i_eq (rfl : v_isMarch.toInt = v_isMarch.toInt) (by decide : (0 : Int32).toInt = 0) c_1
    refine lv_bipush (v := (-2)) hx hb dX10_check_21 (by decide) ?_
    have k_2 : ((-2) : Int32).toInt = (-2) := by decide
    exact hrt (-2) v_taped v_atW v_atL v_atT v_atH v_atM v_atI v_atQ v_goPace v_goMinutes v_spentAt v_ranChanges f_m_worth f_m_isRefused f_m_tired f_m_ranMinutes f_m_tiredAhead ⟨(by omega), (by omega), (by omega), (by omega), hr_m_isRefused, hr_m_tired, hr_m_tiredAhead⟩ hP hD hS rfl dX10_check_23
  · have gc_1 : v_isMarch.toInt ≠ 0 := i_ne (rfl : v_isMarch.toInt = v_isMarch.toInt) (by decide : (0 : Int32).toInt = 0) c_1
    refine lv_iload_n hx hb dX10_check_7 rfl (lv_at hl 1 rfl) ?_
    refine lv_if_lt (tgt := 21) hx hb dX10_check_8 (by decide) (fun c_3 => ?_) (fun c_3 => ?_)
    · have gc_3 : n1.toInt < 0 := i_lt (rfl : n1.toInt = n1.toInt) (by decide : (0 : Int32).toInt = 0) c_3
      refine lv_bipush (v := (-2)) hx hb dX10_check_21 (by decide) ?_
      have k_4 : ((-2) : Int32).toInt = (-2) := by decide
      exact hrt (-2) v_taped v_atW v_atL v_atT v_atH v_atM v_atI v_atQ v_goPace v_goMinutes v_spentAt v_ranChanges f_m_worth f_m_isRefused f_m_tired f_m_ranMinutes f_m_tiredAhead ⟨(by omega), (by omega), (by omega), (by omega), hr_m_isRefused, hr_m_tired, hr_m_tiredAhead⟩ hP hD hS rfl dX10_check_23
    · have gc_3 : 0 ≤ n1.toInt := i_nlt (rfl : n1.toInt = n1.toInt) (by decide : (0 : Int32).toInt = 0) c_3
      refine lv_iload_n hx hb dX10_check_11 rfl (lv_at hl 1 rfl) ?_
      refine lv_aload_n hx hb dX10_check_12 rfl (lv_at hl 0 rfl) ?_
      refine gt_MD_MD_taped hx hb hts hown hK hP lwd_298 dX10_check_13 ?_
      refine lv_iconst (v := 4) hx hb dX10_check_16 (by decide) ?_
      refine lv_idiv hx hb dX10_check_17 (by decide) ?_
      refine lv_topi (fun n_5 en_5 => ?_)
      have tn_5 : n_5.toInt = v_taped.toInt / 4 := i_div en_5 (rfl : v_taped.toInt = v_taped.toInt) (by decide : (4 : Int32).toInt = 4) (by omega) (by omega)
      refine lv_icmp_le (tgt := 24) hx hb dX10_check_18 (by decide) (fun c_6 => ?_) (fun c_6 => ?_)
      · have gc_6 : n1.toInt ≤ v_taped.toInt / 4 := i_le (rfl : n1.toInt = n1.toInt) tn_5 c_6
        refine lv_aload_n hx hb dX10_check_24 rfl (lv_at hl 0 rfl) ?_
        refine lv_iconst (v := 0) hx hb dX10_check_25 (by decide) ?_
        refine pt_MD_MD_taped (x := 0) hx hb hts hown hK hP hD hS lwd_298 dX10_check_26 (fun H locs hP hD hS => ?_)
        refine lv_aload_n hx hb dX10_check_29 rfl (lv_at hl 0 rfl) ?_
        refine xv hD hS hA (xV (As := []) (rest := []) hx hb hml hown hts hK hP hD hS hA NT_ok hN hAe hl.1 ⟨Nat.le_refl _, Nat.le_refl _⟩ 0 rfl rfl rfl (c_X10_runs l D cy hm 0 v_walkers v_loads v_pieces v_changeCosts v_planned v_isMarch v_clauseMany v_place v_end v_bad v_clauses v_codes v_open v_stacked v_isOver v_isBehind v_atW v_atL v_atT v_atH v_atM v_atI v_atQ v_packing v_packed v_goPace v_goMinutes v_spentAt v_ranChanges f_m_tape f_m_knee f_m_weight f_m_isLame f_m_loadWeight f_m_owner f_m_food f_m_miles f_m_slope f_m_clauseLetter f_m_sumFrom f_m_codeFrom f_m_codeTo f_m_code f_m_codeArg f_m_newLetter f_m_newSum f_m_newFrom f_m_newTo f_m_newCode f_m_newArg f_m_stack f_m_worth f_m_isRefused f_m_least f_m_packPounds f_m_packOwner f_m_room f_m_givenTo f_m_canBe f_m_setPounds f_m_plainTime f_m_muleTime f_m_planTo f_m_march f_m_tired f_m_ranMinutes f_m_tiredAhead f_m_isReached f_m_toEnd f_m_upTo f_m_upNext f_m_byChanges f_m_bandPaces H.size (by omega) (by omega) (by omega) (by omega) (by omega) (by omega) (by omega) hr_m_weight hr_m_isLame hr_m_loadWeight hr_m_food hr_m_miles hr_m_isRefused hr_m_march hr_m_tired hr_m_tiredAhead hwf) (gi_V lwd_986 lwd_987 lwd_988 lwd_5 lwd_989) ⟨rfl, hd_X10_runs⟩ ⟨Nat.le_of_ble_eq_true rfl, Nat.le_of_ble_eq_true rfl⟩ rfl (Nat.le_of_ble_eq_true rfl) dX10_check_30) (fun u_7 H locs hw hP hD hS => ?_)
        obtain ⟨zatW_9, zatL_10, zatT_11, zatH_12, zatM_13, zatI_14, zatQ_15, zgoPace_16, zgoMinutes_17, zspentAt_18, zranChanges_19, zworth_20, zisRefused_21, ztired_22, zranMinutes_23, ztiredAhead_24⟩ := u_7
        try dsimp only at hw hP hD
        obtain ⟨p_25, p_26, p_27, p_28, p_29, p_30⟩ := hw
        refine lv_iconst (v := 0) hx hb dX10_check_33 (by decide) ?_
        refine lv_istore_n (lv' := [(2, .int 0), (0, .ref (hm 0)), (1, .int n1)]) hx hb dX10_check_34 rfl hl (by decide) rfl (fun ls hl => ?_)
        have L35_33 : ∀ (n : Nat) (l_32 : Int32), (0 ≤ l_32.toInt ∧ l_32.toInt ≤ 10) → 11 - l_32.toInt < n → ∀ (H : Heap) (locs : List Loc) (ls : Array Slot), va_P D vwCl (wMD cy hm 0 v_walkers v_loads v_pieces v_changeCosts v_planned v_isMarch v_clauseMany v_place v_end v_bad v_clauses v_codes v_open v_stacked v_isOver v_isBehind zatW_9 zatL_10 zatT_11 zatH_12 zatM_13 zatI_14 zatQ_15 v_packing v_packed zgoPace_16 zgoMinutes_17 zspentAt_18 zranChanges_19 f_m_tape f_m_knee f_m_weight f_m_isLame f_m_loadWeight f_m_owner f_m_food f_m_miles f_m_slope f_m_clauseLetter f_m_sumFrom f_m_codeFrom f_m_codeTo f_m_code f_m_codeArg f_m_newLetter f_m_newSum f_m_newFrom f_m_newTo f_m_newCode f_m_newArg f_m_stack zworth_20 zisRefused_21 f_m_least f_m_packPounds f_m_packOwner f_m_room f_m_givenTo f_m_canBe f_m_setPounds f_m_plainTime f_m_muleTime f_m_planTo f_m_march ztired_22 zranMinutes_23 ztiredAhead_24 f_m_isReached f_m_toEnd f_m_upTo f_m_upNext f_m_byChanges f_m_bandPaces) H → va_D A (wMD cy hm 0 v_walkers v_loads v_pieces v_changeCosts v_planned v_isMarch v_clauseMany v_place v_end v_bad v_clauses v_codes v_open v_stacked v_isOver v_isBehind zatW_9 zatL_10 zatT_11 zatH_12 zatM_13 zatI_14 zatQ_15 v_packing v_packed zgoPace_16 zgoMinutes_17 zspentAt_18 zranChanges_19 f_m_tape f_m_knee f_m_weight f_m_isLame f_m_loadWeight f_m_owner f_m_food f_m_miles f_m_slope f_m_clauseLetter f_m_sumFrom f_m_codeFrom f_m_codeTo f_m_code f_m_codeArg f_m_newLetter f_m_newSum f_m_newFrom f_m_newTo f_m_newCode f_m_newArg f_m_stack zworth_20 zisRefused_21 f_m_least f_m_packPounds f_m_packOwner f_m_room f_m_givenTo f_m_canBe f_m_setPounds f_m_plainTime f_m_muleTime f_m_planTo f_m_march ztired_22 zranMinutes_23 ztiredAhead_24 f_m_isReached f_m_toEnd f_m_upTo f_m_upNext f_m_byChanges f_m_bandPaces) → va_S A s.heap H locs → lv_has ls 3 [(2, .int l_32), (0, .ref (hm 0)), (1, .int n1)] → W p l e (gRm 9) s m args below meth c H locs 0 0 Q (F0 m 35 ls []) := by
          intro n
          induction n with
          | zero => intro l_32 hL35_33_0 hm; exact absurd hm (by omega)
          | succ n ih35_33 =>
            intro l_32 hL35_33_0 hmL35_33 H locs ls hP hD hS hl
            refine lv_iload_n hx hb dX10_check_35 rfl (lv_at hl 0 rfl) ?_
            refine lv_aload_n hx hb dX10_check_36 rfl (lv_at hl 1 rfl) ?_
            refine xi hD hS hA (xV (As := []) (rest := [.int l_32]) hx hb hml hown hts hK hP hD hS hA NT_ok hN hAe hl.1 ⟨Nat.le_refl _, Nat.le_refl _⟩ 0 rfl rfl rfl (c_X10_gone l D cy hm 0 v_walkers v_loads v_pieces v_changeCosts v_planned v_isMarch v_clauseMany v_place v_end v_bad v_clauses v_codes v_open v_stacked v_isOver v_isBehind zatW_9 zatL_10 zatT_11 zatH_12 zatM_13 zatI_14 zatQ_15 v_packing v_packed zgoPace_16 zgoMinutes_17 zspentAt_18 zranChanges_19 f_m_tape f_m_knee f_m_weight f_m_isLame f_m_loadWeight f_m_owner f_m_food f_m_miles f_m_slope f_m_clauseLetter f_m_sumFrom f_m_codeFrom f_m_codeTo f_m_code f_m_codeArg f_m_newLetter f_m_newSum f_m_newFrom f_m_newTo f_m_newCode f_m_newArg f_m_stack zworth_20 zisRefused_21 f_m_least f_m_packPounds f_m_packOwner f_m_room f_m_givenTo f_m_canBe f_m_setPounds f_m_plainTime f_m_muleTime f_m_planTo f_m_march ztired_22 zranMinutes_23 ztiredAhead_24 f_m_isReached f_m_toEnd f_m_upTo f_m_upNext f_m_byChanges f_m_bandPaces H.size (by omega) (by omega)) (gi_V lwd_1020 lwd_1021 lwd_1022 lwd_5 lwd_1023) ⟨rfl, hd_X10_gone⟩ ⟨Nat.le_of_ble_eq_true rfl, Nat.le_of_ble_eq_true rfl⟩ rfl (Nat.le_of_ble_eq_true rfl) dX10_check_37) (fun r_35 u_34 H locs hw hP hD hS => ?_)
            try dsimp only at hw hP hD
            have p_36 := hw
            clear hw
            refine lv_icmp_ge (tgt := 72) hx hb dX10_check_40 (by decide) (fun c_37 => ?_) (fun c_37 => ?_)
            · have gc_37 : r_35.toInt ≤ l_32.toInt := i_le (rfl : r_35.toInt = r_35.toInt) (rfl : l_32.toInt = l_32.toInt) c_37
              refine lv_iload_n hx hb dX10_check_72 rfl (lv_at hl 2 rfl) ?_
              refine lv_aload_n hx hb dX10_check_73 rfl (lv_at hl 1 rfl) ?_
              refine xi hD hS hA (xV (As := []) (rest := [.int n1]) hx hb hml hown hts hK hP hD hS hA NT_ok hN hAe hl.1 ⟨Nat.le_refl _, Nat.le_refl _⟩ 0 rfl rfl rfl (c_X10_gone l D cy hm 0 v_walkers v_loads v_pieces v_changeCosts v_planned v_isMarch v_clauseMany v_place v_end v_bad v_clauses v_codes v_open v_stacked v_isOver v_isBehind zatW_9 zatL_10 zatT_11 zatH_12 zatM_13 zatI_14 zatQ_15 v_packing v_packed zgoPace_16 zgoMinutes_17 zspentAt_18 zranChanges_19 f_m_tape f_m_knee f_m_weight f_m_isLame f_m_loadWeight f_m_owner f_m_food f_m_miles f_m_slope f_m_clauseLetter f_m_sumFrom f_m_codeFrom f_m_codeTo f_m_code f_m_codeArg f_m_newLetter f_m_newSum f_m_newFrom f_m_newTo f_m_newCode f_m_newArg f_m_stack zworth_20 zisRefused_21 f_m_least f_m_packPounds f_m_packOwner f_m_room f_m_givenTo f_m_canBe f_m_setPounds f_m_plainTime f_m_muleTime f_m_planTo f_m_march ztired_22 zranMinutes_23 ztiredAhead_24 f_m_isReached f_m_toEnd f_m_upTo f_m_upNext f_m_byChanges f_m_bandPaces H.size (by omega) (by omega)) (gi_V lwd_1020 lwd_1021 lwd_1022 lwd_5 lwd_1023) ⟨rfl, hd_X10_gone⟩ ⟨Nat.le_of_ble_eq_true rfl, Nat.le_of_ble_eq_true rfl⟩ rfl (Nat.le_of_ble_eq_true rfl) dX10_check_74) (fun r_39 u_38 H locs hw hP hD hS => ?_)
              try dsimp only at hw hP hD
              have p_40 := hw
              clear hw
              refine lv_icmp_ne (tgt := 84) hx hb dX10_check_77 (by decide) (fun c_41 => ?_) (fun c_41 => ?_)
              · have gc_41 : n1.toInt ≠ r_39.toInt := i_ne (rfl : n1.toInt = n1.toInt) (rfl : r_39.toInt = r_39.toInt) c_41
                refine lv_aload_n hx hb dX10_check_84 rfl (lv_at hl 1 rfl) ?_
                refine xi hD hS hA (xV (As := []) (rest := []) hx hb hml hown hts hK hP hD hS hA NT_ok hN hAe hl.1 ⟨Nat.le_refl _, Nat.le_refl _⟩ 0 rfl rfl rfl (c_X10_gone l D cy hm 0 v_walkers v_loads v_pieces v_changeCosts v_planned v_isMarch v_clauseMany v_place v_end v_bad v_clauses v_codes v_open v_stacked v_isOver v_isBehind zatW_9 zatL_10 zatT_11 zatH_12 zatM_13 zatI_14 zatQ_15 v_packing v_packed zgoPace_16 zgoMinutes_17 zspentAt_18 zranChanges_19 f_m_tape f_m_knee f_m_weight f_m_isLame f_m_loadWeight f_m_owner f_m_food f_m_miles f_m_slope f_m_clauseLetter f_m_sumFrom f_m_codeFrom f_m_codeTo f_m_code f_m_codeArg f_m_newLetter f_m_newSum f_m_newFrom f_m_newTo f_m_newCode f_m_newArg f_m_stack zworth_20 zisRefused_21 f_m_least f_m_packPounds f_m_packOwner f_m_room f_m_givenTo f_m_canBe f_m_setPounds f_m_plainTime f_m_muleTime f_m_planTo f_m_march ztired_22 zranMinutes_23 ztiredAhead_24 f_m_isReached f_m_toEnd f_m_upTo f_m_upNext f_m_byChanges f_m_bandPaces H.size (by omega) (by omega)) (gi_V lwd_1020 lwd_1021 lwd_1022 lwd_5 lwd_1023) ⟨rfl, hd_X10_gone⟩ ⟨Nat.le_of_ble_eq_true rfl, Nat.le_of_ble_eq_true rfl⟩ rfl (Nat.le_of_ble_eq_true rfl) dX10_check_85) (fun r_43 u_42 H locs hw hP hD hS => ?_)
                try dsimp only at hw hP hD
                have p_44 := hw
                clear hw
                have k_45 : (0 : Int32).toInt = 0 := by decide
                exact hrt r_43 0 zatW_9 zatL_10 zatT_11 zatH_12 zatM_13 zatI_14 zatQ_15 zgoPace_16 zgoMinutes_17 zspentAt_18 zranChanges_19 zworth_20 zisRefused_21 ztired_22 zranMinutes_23 ztiredAhead_24 ⟨(by omega), (by omega), (by omega), (by omega), p_28, p_29, p_30⟩ hP hD hS rfl dX10_check_88
              · have gc_41 : n1.toInt = r_39.toInt := i_eq (rfl : n1.toInt = n1.toInt) (rfl : r_39.toInt = r_39.toInt) c_41
                refine lv_iconst (v := (-1)) hx hb dX10_check_80 (by decide) ?_
                refine lv_goto (tgt := 88) hx hb dX10_check_81 (by decide) ?_
                have k_46 : (0 : Int32).toInt = 0 := by decide
                have k_47 : ((-1) : Int32).toInt = (-1) := by decide
                exact hrt (-1) 0 zatW_9 zatL_10 zatT_11 zatH_12 zatM_13 zatI_14 zatQ_15 zgoPace_16 zgoMinutes_17 zspentAt_18 zranChanges_19 zworth_20 zisRefused_21 ztired_22 zranMinutes_23 ztiredAhead_24 ⟨(by omega), (by omega), (by omega), (by omega), p_28, p_29, p_30⟩ hP hD hS rfl dX10_check_88
            · have gc_37 : l_32.toInt < r_35.toInt := i_nle (rfl : r_35.toInt = r_35.toInt) (rfl : l_32.toInt = l_32.toInt) c_37
              refine lv_iload_n hx hb dX10_check_43 rfl (lv_at hl 0 rfl) ?_
              refine lv_iload_n hx hb dX10_check_44 rfl (lv_at hl 2 rfl) ?_
              refine lv_icmp_ne (tgt := 50) hx hb dX10_check_45 (by decide) (fun c_48 => ?_) (fun c_48 => ?_)
              · have gc_48 : l_32.toInt ≠ n1.toInt := i_ne (rfl : l_32.toInt = l_32.toInt) (rfl : n1.toInt = n1.toInt) c_48
                refine lv_aload_n hx hb dX10_check_50 rfl (lv_at hl 1 rfl) ?_
                refine lv_iload_n hx hb dX10_check_51 rfl (lv_at hl 0 rfl) ?_
                refine xi hD hS hA (xV (As := [.int l_32]) (rest := []) hx hb hml hown hts hK hP hD hS hA NT_ok hN hAe hl.1 ⟨Nat.le_refl _, Nat.le_refl _⟩ 0 rfl rfl rfl (c_X10_numberAt l D cy hm 0 v_walkers v_loads v_pieces v_changeCosts v_planned v_isMarch v_clauseMany v_place v_end v_bad v_clauses v_codes v_open v_stacked v_isOver v_isBehind zatW_9 zatL_10 zatT_11 zatH_12 zatM_13 zatI_14 zatQ_15 v_packing v_packed zgoPace_16 zgoMinutes_17 zspentAt_18 zranChanges_19 f_m_tape f_m_knee f_m_weight f_m_isLame f_m_loadWeight f_m_owner f_m_food f_m_miles f_m_slope f_m_clauseLetter f_m_sumFrom f_m_codeFrom f_m_codeTo f_m_code f_m_codeArg f_m_newLetter f_m_newSum f_m_newFrom f_m_newTo f_m_newCode f_m_newArg f_m_stack zworth_20 zisRefused_21 f_m_least f_m_packPounds f_m_packOwner f_m_room f_m_givenTo f_m_canBe f_m_setPounds f_m_plainTime f_m_muleTime f_m_planTo f_m_march ztired_22 zranMinutes_23 ztiredAhead_24 f_m_isReached f_m_toEnd f_m_upTo f_m_upNext f_m_byChanges f_m_bandPaces H.size l_32 hr_m_tape (by omega)) (gi_V lwd_1236 lwd_1237 lwd_1238 lwd_5 lwd_1239) ⟨rfl, hd_X10_numberAt⟩ ⟨Nat.le_of_ble_eq_true rfl, Nat.le_of_ble_eq_true rfl⟩ rfl (Nat.le_of_ble_eq_true rfl) dX10_check_52) (fun r_50 u_49 H locs hw hP hD hS => ?_)
                try dsimp only at hw hP hD
                clear hw
                refine lv_aload_n hx hb dX10_check_55 rfl (lv_at hl 1 rfl) ?_
                refine gt_MD_MD_ranMinutes hx hb hts hown hK hP lwd_192 dX10_check_56 ?_
                refine lv_iload_n hx hb dX10_check_59 rfl (lv_at hl 0 rfl) ?_
                refine al_m_ranMinutes hx hb hK hP (i_in (rfl : l_32.toInt = l_32.toInt) (by omega) (by omega)) dX10_check_60 (fun n_51 en_51 => ?_)
                refine lv_icmp_eq (tgt := 66) hx hb dX10_check_61 (by decide) (fun c_52 => ?_) (fun c_52 => ?_)
                · have gc_52 : r_50.toInt = n_51.toInt := i_eq (rfl : r_50.toInt = r_50.toInt) (rfl : n_51.toInt = n_51.toInt) c_52
                  obtain ⟨n_53, en_53⟩ : ∃ y : Int32, y = l_32 + 1 := ⟨_, rfl⟩
                  have tn_53 : n_53.toInt = l_32.toInt + 1 := i_add en_53 (rfl : l_32.toInt = l_32.toInt) (by decide : (1 : Int32).toInt = 1) (by omega) (by omega)
                  refine lv_iinc (v := n_53) (lv' := [(2, .int n_53), (0, .ref (hm 0)), (1, .int n1)]) hx hb dX10_check_66 hl (k := 0) rfl (by rw [en_53]; rfl) (by decide) rfl (fun ls hl => ?_)
                  refine lv_goto (tgt := 35) hx hb dX10_check_69 (by decide) ?_
                  exact ih35_33 n_53 (by omega) (by omega) _ _ _ hP hD hS (lv_sub hl [0, 1, 2] rfl)
                · have gc_52 : r_50.toInt ≠ n_51.toInt := i_ne (rfl : r_50.toInt = r_50.toInt) (rfl : n_51.toInt = n_51.toInt) c_52
                  refine lv_iload_n hx hb dX10_check_64 rfl (lv_at hl 0 rfl) ?_
                  have k_54 : (0 : Int32).toInt = 0 := by decide
                  exact hrt l_32 0 zatW_9 zatL_10 zatT_11 zatH_12 zatM_13 zatI_14 zatQ_15 zgoPace_16 zgoMinutes_17 zspentAt_18 zranChanges_19 zworth_20 zisRefused_21 ztired_22 zranMinutes_23 ztiredAhead_24 ⟨(by omega), (by omega), (by omega), (by omega), p_28, p_29, p_30⟩ hP hD hS rfl dX10_check_65
              · have gc_48 : l_32.toInt = n1.toInt := i_eq (rfl : l_32.toInt = l_32.toInt) (rfl : n1.toInt = n1.toInt) c_48
                refine lv_iload_n hx hb dX10_check_48 rfl (lv_at hl 2 rfl) ?_
                have k_55 : (0 : Int32).toInt = 0 := by decide
                exact hrt n1 0 zatW_9 zatL_10 zatT_11 zatH_12 zatM_13 zatI_14 zatQ_15 zgoPace_16 zgoMinutes_17 zspentAt_18 zranChanges_19 zworth_20 zisRefused_21 ztired_22 zranMinutes_23 ztiredAhead_24 ⟨(by omega), (by omega), (by omega), (by omega), p_28, p_29, p_30⟩ hP hD hS rfl dX10_check_49
        have k_56 : (0 : Int32).toInt = 0 := by decide
        exact L35_33 8589934592 0 (by omega) (by omega) _ _ _ hP hD hS (lv_sub hl [0, 1, 2] rfl)
      · have gc_6 : v_taped.toInt / 4 < n1.toInt := i_nle (rfl : n1.toInt = n1.toInt) tn_5 c_6
        refine lv_bipush (v := (-2)) hx hb dX10_check_21 (by decide) ?_
        have k_57 : ((-2) : Int32).toInt = (-2) := by decide
        exact hrt (-2) v_taped v_atW v_atL v_atT v_atH v_atM v_atI v_atQ v_goPace v_goMinutes v_spentAt v_ranChanges f_m_worth f_m_isRefused f_m_tired f_m_ranMinutes f_m_tiredAhead ⟨(by omega), (by omega), (by omega), (by omega), hr_m_isRefused, hr_m_tired, hr_m_tiredAhead⟩ hP hD hS rfl dX10_check_23
set_option maxHeartbeats 16000000 in
set_option maxRecDepth 100000 in
theorem c_X10_count (l : Launch) (D : va_G) (cy : Nat → ClassId) (hm : Nat → Nat) (v_taped v_walkers v_loads v_pieces v_changeCosts v_planned v_isMarch v_clauseMany v_place v_end v_bad v_clauses v_codes v_open v_stacked v_isOver v_isBehind v_atW v_atL v_atT v_atH v_atM v_atI v_atQ v_packing v_packed v_goPace v_goMinutes v_spentAt v_ranChanges : Int32) (f_m_tape f_m_knee f_m_weight f_m_isLame f_m_loadWeight f_m_owner f_m_food f_m_miles f_m_slope f_m_clauseLetter f_m_sumFrom f_m_codeFrom f_m_codeTo f_m_code f_m_codeArg f_m_newLetter f_m_newSum f_m_newFrom f_m_newTo f_m_newCode f_m_newArg f_m_stack f_m_worth f_m_isRefused f_m_least f_m_packPounds f_m_packOwner f_m_room f_m_givenTo f_m_canBe f_m_setPounds f_m_plainTime f_m_muleTime f_m_planTo f_m_march f_m_tired f_m_ranMinutes f_m_tiredAhead f_m_isReached f_m_toEnd f_m_upTo f_m_upNext f_m_byChanges f_m_bandPaces : Nat → Int32) (sz : Nat) (what : Int32) (hb_v_taped : 0 ≤ v_taped.toInt ∧ v_taped.toInt ≤ 220) (hb_v_walkers : 0 ≤ v_walkers.toInt ∧ v_walkers.toInt ≤ 6) (hb_v_loads : 0 ≤ v_loads.toInt ∧ v_loads.toInt ≤ 9) (hb_v_pieces : 0 ≤ v_pieces.toInt ∧ v_pieces.toInt ≤ 10) (hb_v_isMarch : 0 ≤ v_isMarch.toInt ∧ v_isMarch.toInt ≤ 1) (hb_v_clauseMany : 0 ≤ v_clauseMany.toInt ∧ v_clauseMany.toInt ≤ 14) (hr_m_loadWeight : rg (0) 120 f_m_loadWeight) (hr_m_food : rg (0) 20 f_m_food) : gMi l yX10_count cX10_count 2 .int 3 [.ref (hm 0), .int what] D cy (wMD cy hm v_taped v_walkers v_loads v_pieces v_changeCosts v_planned v_isMarch v_clauseMany v_place v_end v_bad v_clauses v_codes v_open v_stacked v_isOver v_isBehind v_atW v_atL v_atT v_atH v_atM v_atI v_atQ v_packing v_packed v_goPace v_goMinutes v_spentAt v_ranChanges f_m_tape f_m_knee f_m_weight f_m_isLame f_m_loadWeight f_m_owner f_m_food f_m_miles f_m_slope f_m_clauseLetter f_m_sumFrom f_m_codeFrom f_m_codeTo f_m_code f_m_codeArg f_m_newLetter f_m_newSum f_m_newFrom f_m_newTo f_m_newCode f_m_newArg f_m_stack f_m_worth f_m_isRefused f_m_least f_m_packPounds f_m_packOwner f_m_room f_m_givenTo f_m_canBe f_m_setPounds f_m_plainTime f_m_muleTime f_m_planTo f_m_march f_m_tired f_m_ranMinutes f_m_tiredAhead f_m_isReached f_m_toEnd f_m_upTo f_m_upNext f_m_byChanges f_m_bandPaces) NT sz (fun (r : Int32) (u : Unit) => True) (fun u => wMD cy hm v_taped v_walkers v_loads v_pieces v_changeCosts v_planned v_isMarch v_clauseMany v_place v_end v_bad v_clauses v_codes v_open v_stacked v_isOver v_isBehind v_atW v_atL v_atT v_atH v_atM v_atI v_atQ v_packing v_packed v_goPace v_goMinutes v_spentAt v_ranChanges f_m_tape f_m_knee f_m_weight f_m_isLame f_m_loadWeight f_m_owner f_m_food f_m_miles f_m_slope f_m_clauseLetter f_m_sumFrom f_m_codeFrom f_m_codeTo f_m_code f_m_codeArg f_m_newLetter f_m_newSum f_m_newFrom f_m_newTo f_m_newCode f_m_newArg f_m_stack f_m_worth f_m_isRefused f_m_least f_m_packPounds f_m_packOwner f_m_room f_m_givenTo f_m_canBe f_m_setPounds f_m_plainTime f_m_muleTime f_m_planTo f_m_march f_m_tired f_m_ranMinutes f_m_tiredAhead f_m_isReached f_m_toEnd f_m_upTo f_m_upNext f_m_byChanges f_m_bandPaces) := by
  refine gMi_in (by decide) (Nat.le_of_ble_eq_true rfl) ?_
  intro p e s m args below meth c A ls Q hx hb hml hts hown hsz hP hK hD hN hAe hA hS hl hret
  subst hsz
  have hl : lv_has ls 2 [(0, .ref (hm 0)), (1, .int what)] := hl
  have hrt := fun (r : Int32)   {H : Heap} {locs : List Loc} {pc : Nat} {ls : Array Slot} => hret r () (H := H) (locs := locs) (pc := pc) (ls := ls) trivial
  clear hret
  refine lv_aload_n hx hb dX10_count_0 rfl (lv_at hl 0 rfl) ?_
  refine lv_iload_n hx hb dX10_count_1 rfl (lv_at hl 1 rfl) ?_
  refine lv_bipush (v := 10) hx hb dX10_count_2 (by decide) ?_
  refine lv_isub hx hb dX10_count_4 ?_
  refine lv_topi (fun n_1 en_1 => ?_)
  refine xi hD hS hA (xV (As := [.int n_1]) (rest := []) hx hb hml hown hts hK hP hD hS hA NT_ok hN hAe hl.1 ⟨Nat.le_refl _, Nat.le_refl _⟩ 0 rfl rfl rfl (c_X10_isPiece l D cy hm v_taped v_walkers v_loads v_pieces v_changeCosts v_planned v_isMarch v_clauseMany v_place v_end v_bad v_clauses v_codes v_open v_stacked v_isOver v_isBehind v_atW v_atL v_atT v_atH v_atM v_atI v_atQ v_packing v_packed v_goPace v_goMinutes v_spentAt v_ranChanges f_m_tape f_m_knee f_m_weight f_m_isLame f_m_loadWeight f_m_owner f_m_food f_m_miles f_m_slope f_m_clauseLetter f_m_sumFrom f_m_codeFrom f_m_codeTo f_m_code f_m_codeArg f_m_newLetter f_m_newSum f_m_newFrom f_m_newTo f_m_newCode f_m_newArg f_m_stack f_m_worth f_m_isRefused f_m_least f_m_packPounds f_m_packOwner f_m_room f_m_givenTo f_m_canBe f_m_setPounds f_m_plainTime f_m_muleTime f_m_planTo f_m_march f_m_tired f_m_ranMinutes f_m_tiredAhead f_m_isReached f_m_toEnd f_m_upTo f_m_upNext f_m_byChanges f_m_bandPaces s.heap.size n_1 (by omega)) (gi_V lwd_549 lwd_550 lwd_551 lwd_5 lwd_552) ⟨rfl, hd_X10_isPiece⟩ ⟨Nat.le_of_ble_eq_true rfl, Nat.le_of_ble_eq_true rfl⟩ rfl (Nat.le_of_ble_eq_true rfl) dX10_count_5) (fun r_3 u_2 H locs hw hP hD hS => ?_)
  try dsimp only at hw hP hD
  obtain ⟨p_4, p_5⟩ := hw
  refine lv_if_eq (tgt := 20) hx hb dX10_count_8 (by decide) (fun c_6 => ?_) (fun c_6 => ?_)
  · have gc_6 : r_3.toInt = 0 := i_eq (rfl : r_3.toInt = r_3.toInt) (by decide : (0 : Int32).toInt = 0) c_6
    refine lv_iload_n hx hb dX10_count_20 rfl (lv_at hl 1 rfl) ?_
    rcases (show what.toInt < 0 ∨ 7 < what.toInt ∨ what.toInt = 0 ∨ what.toInt = 1 ∨ what.toInt = 2 ∨ what.toInt = 3 ∨ what.toInt = 4 ∨ what.toInt = 5 ∨ what.toInt = 6 ∨ what.toInt = 7 by omega) with c_7 | c_7 | c_7 | c_7 | c_7 | c_7 | c_7 | c_7 | c_7 | c_7
    · refine lv_tableOut (tgt := 116) hx hb dX10_count_21 (Or.inl c_7) (by decide) ?_
      refine lv_iconst (v := (-1)) hx hb dX10_count_116 (by decide) ?_
      have k_8 : ((-1) : Int32).toInt = (-1) := by decide
      exact hrt (-1)   hP hD hS rfl dX10_count_117
    · refine lv_tableOut (tgt := 116) hx hb dX10_count_21 (Or.inr c_7) (by decide) ?_
      refine lv_iconst (v := (-1)) hx hb dX10_count_116 (by decide) ?_
      have k_9 : ((-1) : Int32).toInt = (-1) := by decide
      exact hrt (-1)   hP hD hS rfl dX10_count_117
    · refine lv_tableIn (tgt := 68) (off := 47) hx hb dX10_count_21 (by omega) (by omega) (by rw [c_7]; rfl) (by decide) ?_
      refine lv_aload_n hx hb dX10_count_68 rfl (lv_at hl 0 rfl) ?_
      refine gt_MD_MD_walkers hx hb hts hown hK hP lwd_221 dX10_count_69 ?_
      exact hrt v_walkers   hP hD hS rfl dX10_count_72
    · refine lv_tableIn (tgt := 73) (off := 52) hx hb dX10_count_21 (by omega) (by omega) (by rw [c_7]; rfl) (by decide) ?_
      refine lv_aload_n hx hb dX10_count_73 rfl (lv_at hl 0 rfl) ?_
      refine gt_MD_MD_loads hx hb hts hown hK hP lwd_247 dX10_count_74 ?_
      exact hrt v_loads   hP hD hS rfl dX10_count_77
    · refine lv_tableIn (tgt := 78) (off := 57) hx hb dX10_count_21 (by omega) (by omega) (by rw [c_7]; rfl) (by decide) ?_
      refine lv_aload_n hx hb dX10_count_78 rfl (lv_at hl 0 rfl) ?_
      refine gt_MD_MD_pieces hx hb hts hown hK hP lwd_265 dX10_count_79 ?_
      exact hrt v_pieces   hP hD hS rfl dX10_count_82
    · refine lv_tableIn (tgt := 83) (off := 62) hx hb dX10_count_21 (by omega) (by omega) (by rw [c_7]; rfl) (by decide) ?_
      refine lv_aload_n hx hb dX10_count_83 rfl (lv_at hl 0 rfl) ?_
      refine gt_MD_MD_clauseMany hx hb hts hown hK hP lwd_405 dX10_count_84 ?_
      exact hrt v_clauseMany   hP hD hS rfl dX10_count_87
    · refine lv_tableIn (tgt := 88) (off := 67) hx hb dX10_count_21 (by omega) (by omega) (by rw [c_7]; rfl) (by decide) ?_
      refine lv_aload_n hx hb dX10_count_88 rfl (lv_at hl 0 rfl) ?_
      refine gt_MD_MD_taped hx hb hts hown hK hP lwd_298 dX10_count_89 ?_
      exact hrt v_taped   hP hD hS rfl dX10_count_92
    · refine lv_tableIn (tgt := 93) (off := 72) hx hb dX10_count_21 (by omega) (by omega) (by rw [c_7]; rfl) (by decide) ?_
      refine lv_aload_n hx hb dX10_count_93 rfl (lv_at hl 0 rfl) ?_
      refine gt_MD_MD_changeCosts hx hb hts hown hK hP lwd_156 dX10_count_94 ?_
      exact hrt v_changeCosts   hP hD hS rfl dX10_count_97
    · refine lv_tableIn (tgt := 98) (off := 77) hx hb dX10_count_21 (by omega) (by omega) (by rw [c_7]; rfl) (by decide) ?_
      refine lv_aload_n hx hb dX10_count_98 rfl (lv_at hl 0 rfl) ?_
      refine gt_MD_MD_planned hx hb hts hown hK hP lwd_249 dX10_count_99 ?_
      exact hrt v_planned   hP hD hS rfl dX10_count_102
    · refine lv_tableIn (tgt := 103) (off := 82) hx hb dX10_count_21 (by omega) (by omega) (by rw [c_7]; rfl) (by decide) ?_
      refine lv_aload_n hx hb dX10_count_103 rfl (lv_at hl 0 rfl) ?_
      refine gt_MD_MD_isMarch hx hb hts hown hK hP lwd_225 dX10_count_104 ?_
      refine lv_if_eq (tgt := 114) hx hb dX10_count_107 (by decide) (fun c_10 => ?_) (fun c_10 => ?_)
      · have gc_10 : v_isMarch.toInt = 0 := i_eq (rfl : v_isMarch.toInt = v_isMarch.toInt) (by decide : (0 : Int32).toInt = 0) c_10
        refine lv_iconst (v := 0) hx hb dX10_count_114 (by decide) ?_
        have k_11 : (0 : Int32).toInt = 0 := by decide
        exact hrt 0   hP hD hS rfl dX10_count_115
      · have gc_10 : v_isMarch.toInt ≠ 0 := i_ne (rfl : v_isMarch.toInt = v_isMarch.toInt) (by decide : (0 : Int32).toInt = 0) c_10
        refine lv_iconst (v := 1) hx hb dX10_count_110 (by decide) ?_
        refine lv_goto (tgt := 115) hx hb dX10_count_111 (by decide) ?_
        have k_12 : (1 : Int32).toInt = 1 := by decide
        exact hrt 1   hP hD hS rfl dX10_count_115
  · have gc_6 : r_3.toInt ≠ 0 := i_ne (rfl : r_3.toInt = r_3.toInt) (by decide : (0 : Int32).toInt = 0) c_6
    refine lv_aload_n hx hb dX10_count_11 rfl (lv_at hl 0 rfl) ?_
    refine lv_iload_n hx hb dX10_count_12 rfl (lv_at hl 1 rfl) ?_
    refine lv_bipush (v := 10) hx hb dX10_count_13 (by decide) ?_
    refine lv_isub hx hb dX10_count_15 ?_
    refine lv_topi (fun n_13 en_13 => ?_)
    obtain rfl : n_1 = n_13 := en_1.trans en_13.symm
    refine xi hD hS hA (xV (As := [.int n_1]) (rest := []) hx hb hml hown hts hK hP hD hS hA NT_ok hN hAe hl.1 ⟨Nat.le_refl _, Nat.le_refl _⟩ 0 rfl rfl rfl (c_X10_allPounds l D cy hm v_taped v_walkers v_loads v_pieces v_changeCosts v_planned v_isMarch v_clauseMany v_place v_end v_bad v_clauses v_codes v_open v_stacked v_isOver v_isBehind v_atW v_atL v_atT v_atH v_atM v_atI v_atQ v_packing v_packed v_goPace v_goMinutes v_spentAt v_ranChanges f_m_tape f_m_knee f_m_weight f_m_isLame f_m_loadWeight f_m_owner f_m_food f_m_miles f_m_slope f_m_clauseLetter f_m_sumFrom f_m_codeFrom f_m_codeTo f_m_code f_m_codeArg f_m_newLetter f_m_newSum f_m_newFrom f_m_newTo f_m_newCode f_m_newArg f_m_stack f_m_worth f_m_isRefused f_m_least f_m_packPounds f_m_packOwner f_m_room f_m_givenTo f_m_canBe f_m_setPounds f_m_plainTime f_m_muleTime f_m_planTo f_m_march f_m_tired f_m_ranMinutes f_m_tiredAhead f_m_isReached f_m_toEnd f_m_upTo f_m_upNext f_m_byChanges f_m_bandPaces H.size n_1 (by omega) hr_m_loadWeight hr_m_food (by omega)) (gi_V lwd_853 lwd_854 lwd_855 lwd_5 lwd_856) ⟨rfl, hd_X10_allPounds⟩ ⟨Nat.le_of_ble_eq_true rfl, Nat.le_of_ble_eq_true rfl⟩ rfl (Nat.le_of_ble_eq_true rfl) dX10_count_16) (fun r_15 u_14 H locs hw hP hD hS => ?_)
    try dsimp only at hw hP hD
    clear hw
    exact hrt r_15   hP hD hS rfl dX10_count_19
