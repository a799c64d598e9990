set_option maxHeartbeats 16000000 in
set_option maxRecDepth 100000 in
theorem c_X10_lies (l : Launch) (D : va_G) (cy : Nat → ClassId) (hm : Nat → Nat) (v_taped v_walkers v_loads v_pieces v_changeCosts v_planned v_isMarch v_clauseMany v_place v_end v_bad v_clauses v_codes v_open v_stacked v_isOver v_isBehind v_atW v_atL v_atT v_atH v_atM v_atI v_atQ v_packing v_packed v_goPace v_goMinutes v_spentAt v_ranChanges : Int32) (f_m_tape f_m_knee f_m_weight f_m_isLame f_m_loadWeight f_m_owner f_m_food f_m_miles f_m_slope f_m_clauseLetter f_m_sumFrom f_m_codeFrom f_m_codeTo f_m_code f_m_codeArg f_m_newLetter f_m_newSum f_m_newFrom f_m_newTo f_m_newCode f_m_newArg f_m_stack f_m_worth f_m_isRefused f_m_least f_m_packPounds f_m_packOwner f_m_room f_m_givenTo f_m_canBe f_m_setPounds f_m_plainTime f_m_muleTime f_m_planTo f_m_march f_m_tired f_m_ranMinutes f_m_tiredAhead f_m_isReached f_m_toEnd f_m_upTo f_m_upNext f_m_byChanges f_m_bandPaces : Nat → Int32) (sz : Nat) (v : Int64) (low : Int64) (high : Int64) : gMi l yX10_lies cX10_lies 6 .boolean 1 [.long v, .long low, .long high] D cy (wMD cy hm v_taped v_walkers v_loads v_pieces v_changeCosts v_planned v_isMarch v_clauseMany v_place v_end v_bad v_clauses v_codes v_open v_stacked v_isOver v_isBehind v_atW v_atL v_atT v_atH v_atM v_atI v_atQ v_packing v_packed v_goPace v_goMinutes v_spentAt v_ranChanges f_m_tape f_m_knee f_m_weight f_m_isLame f_m_loadWeight f_m_owner f_m_food f_m_miles f_m_slope f_m_clauseLetter f_m_sumFrom f_m_codeFrom f_m_codeTo f_m_code f_m_codeArg f_m_newLetter f_m_newSum f_m_newFrom f_m_newTo f_m_newCode f_m_newArg f_m_stack f_m_worth f_m_isRefused f_m_least f_m_packPounds f_m_packOwner f_m_room f_m_givenTo f_m_canBe f_m_setPounds f_m_plainTime f_m_muleTime f_m_planTo f_m_march f_m_tired f_m_ranMinutes f_m_tiredAhead f_m_isReached f_m_toEnd f_m_upTo f_m_upNext f_m_byChanges f_m_bandPaces) NT sz (fun (r : Int32) (u : Unit) => (0 ≤ r.toInt ∧ r.toInt ≤ 1) ∧ ((r.toInt = 1 ∧ low.toInt ≤ v.toInt ∧ v.toInt ≤ high.toInt) ∨ (r.toInt = 0 ∧ ¬ (low.toInt ≤ v.toInt ∧ v.toInt ≤ high.toInt)))) (fun u => wMD cy hm v_taped v_walkers v_loads v_pieces v_changeCosts v_planned v_isMarch v_clauseMany v_place v_end v_bad v_clauses v_codes v_open v_stacked v_isOver v_isBehind v_atW v_atL v_atT v_atH v_atM v_atI v_atQ v_packing v_packed v_goPace v_goMinutes v_spentAt v_ranChanges f_m_tape f_m_knee f_m_weight f_m_isLame f_m_loadWeight f_m_owner f_m_food f_m_miles f_m_slope f_m_clauseLetter f_m_sumFrom f_m_codeFrom f_m_codeTo f_m_code f_m_codeArg f_m_newLetter f_m_newSum f_m_newFrom f_m_newTo f_m_newCode f_m_newArg f_m_stack f_m_worth f_m_isRefused f_m_least f_m_packPounds f_m_packOwner f_m_room f_m_givenTo f_m_canBe f_m_setPounds f_m_plainTime f_m_muleTime f_m_planTo f_m_march f_m_tired f_m_ranMinutes f_m_tiredAhead f_m_isReached f_m_toEnd f_m_upTo f_m_upNext f_m_byChanges f_m_bandPaces) := by
  refine gMi_in (by decide) (Nat.le_of_ble_eq_true rfl) ?_
  intro p e s m args below meth c A ls Q hx hb hml hts hown hsz hP hK hD hN hAe hA hS hl hret
  subst hsz
  have hl : lv_has ls 6 [(0, .long v), (2, .long low), (4, .long high)] := hl
  have hrt := fun (r : Int32)  (hp : (0 ≤ r.toInt ∧ r.toInt ≤ 1) ∧ ((r.toInt = 1 ∧ low.toInt ≤ v.toInt ∧ v.toInt ≤ high.toInt) ∨ (r.toInt = 0 ∧ ¬ (low.toInt ≤ v.toInt ∧ v.toInt ≤ high.toInt)))) {H : Heap} {locs : List Loc} {pc : Nat} {ls : Array Slot} => hret r () (H := H) (locs := locs) (pc := pc) (ls := ls) hp
  clear hret
  refine lv_lload_n hx hb dX10_lies_0 rfl (lv_at hl 0 rfl) ?_
  refine lv_lload_n hx hb dX10_lies_1 rfl (lv_at hl 1 rfl) ?_
  refine W.lcmp hx hb dX10_lies_2 ?_
  refine lv_topi (fun n_1 en_1 => ?_)
  have tn_1 := l_cmp en_1 (rfl : v.toInt = v.toInt) (rfl : low.toInt = low.toInt)
  refine lv_if_lt (tgt := 17) hx hb dX10_lies_3 (by decide) (fun c_2 => ?_) (fun c_2 => ?_)
  · have gc_2 : n_1.toInt < 0 := i_lt (rfl : n_1.toInt = n_1.toInt) (by decide : (0 : Int32).toInt = 0) c_2
    refine lv_iconst (v := 0) hx hb dX10_lies_17 (by decide) ?_
    have k_3 : (0 : Int32).toInt = 0 := by decide
    exact hrt 0  ⟨(by omega), (by omega)⟩ hP hD hS rfl dX10_lies_18
  · have gc_2 : 0 ≤ n_1.toInt := i_nlt (rfl : n_1.toInt = n_1.toInt) (by decide : (0 : Int32).toInt = 0) c_2
    refine lv_lload_n hx hb dX10_lies_6 rfl (lv_at hl 0 rfl) ?_
    refine lv_lload hx hb dX10_lies_7 (lv_at hl 2 rfl) ?_
    refine W.lcmp hx hb dX10_lies_9 ?_
    refine lv_topi (fun n_4 en_4 => ?_)
    have tn_4 := l_cmp en_4 (rfl : v.toInt = v.toInt) (rfl : high.toInt = high.toInt)
    refine lv_if_gt (tgt := 17) hx hb dX10_lies_10 (by decide) (fun c_5 => ?_) (fun c_5 => ?_)
    · have gc_5 : 0 < n_4.toInt := i_lt (by decide : (0 : Int32).toInt = 0) (rfl : n_4.toInt = n_4.toInt) c_5
      refine lv_iconst (v := 0) hx hb dX10_lies_17 (by decide) ?_
      have k_6 : (0 : Int32).toInt = 0 := by decide
      exact hrt 0  ⟨(by omega), (by omega)⟩ hP hD hS rfl dX10_lies_18
    · have gc_5 : n_4.toInt ≤ 0 := i_nlt (by decide : (0 : Int32).toInt = 0) (rfl : n_4.toInt = n_4.toInt) c_5
      refine lv_iconst (v := 1) hx hb dX10_lies_13 (by decide) ?_
      refine lv_goto (tgt := 18) hx hb dX10_lies_14 (by decide) ?_
      have k_7 : (1 : Int32).toInt = 1 := by decide
      exact hrt 1  ⟨(by omega), (by omega)⟩ hP hD hS rfl dX10_lies_18
set_option maxHeartbeats 16000000 in
set_option maxRecDepth 100000 in
theorem c_X10_has (l : Launch) (D : va_G) (cy : Nat → ClassId) (hm : Nat → Nat) (v_taped v_walkers v_loads v_pieces v_changeCosts v_planned v_isMarch v_clauseMany v_place v_end v_bad v_clauses v_codes v_open v_stacked v_isOver v_isBehind v_atW v_atL v_atT v_atH v_atM v_atI v_atQ v_packing v_packed v_goPace v_goMinutes v_spentAt v_ranChanges : Int32) (f_m_tape f_m_knee f_m_weight f_m_isLame f_m_loadWeight f_m_owner f_m_food f_m_miles f_m_slope f_m_clauseLetter f_m_sumFrom f_m_codeFrom f_m_codeTo f_m_code f_m_codeArg f_m_newLetter f_m_newSum f_m_newFrom f_m_newTo f_m_newCode f_m_newArg f_m_stack f_m_worth f_m_isRefused f_m_least f_m_packPounds f_m_packOwner f_m_room f_m_givenTo f_m_canBe f_m_setPounds f_m_plainTime f_m_muleTime f_m_planTo f_m_march f_m_tired f_m_ranMinutes f_m_tiredAhead f_m_isReached f_m_toEnd f_m_upTo f_m_upNext f_m_byChanges f_m_bandPaces : Nat → Int32) (sz : Nat) (x : Int32) (k : Int32) : gMi l yX10_has cX10_has 2 .boolean 1 [.int x, .int k] D cy (wMD cy hm v_taped v_walkers v_loads v_pieces v_changeCosts v_planned v_isMarch v_clauseMany v_place v_end v_bad v_clauses v_codes v_open v_stacked v_isOver v_isBehind v_atW v_atL v_atT v_atH v_atM v_atI v_atQ v_packing v_packed v_goPace v_goMinutes v_spentAt v_ranChanges f_m_tape f_m_knee f_m_weight f_m_isLame f_m_loadWeight f_m_owner f_m_food f_m_miles f_m_slope f_m_clauseLetter f_m_sumFrom f_m_codeFrom f_m_codeTo f_m_code f_m_codeArg f_m_newLetter f_m_newSum f_m_newFrom f_m_newTo f_m_newCode f_m_newArg f_m_stack f_m_worth f_m_isRefused f_m_least f_m_packPounds f_m_packOwner f_m_room f_m_givenTo f_m_canBe f_m_setPounds f_m_plainTime f_m_muleTime f_m_planTo f_m_march f_m_tired f_m_ranMinutes f_m_tiredAhead f_m_isReached f_m_toEnd f_m_upTo f_m_upNext f_m_byChanges f_m_bandPaces) NT sz (fun (r : Int32) (u : Unit) => (0 ≤ r.toInt ∧ r.toInt ≤ 1) ∧ ((r.toInt = 1 ∧ (x >>> (k &&& 31)) &&& 1 = 1) ∨ (r.toInt = 0 ∧ ¬ ((x >>> (k &&& 31)) &&& 1 = 1)))) (fun u => wMD cy hm v_taped v_walkers v_loads v_pieces v_changeCosts v_planned v_isMarch v_clauseMany v_place v_end v_bad v_clauses v_codes v_open v_stacked v_isOver v_isBehind v_atW v_atL v_atT v_atH v_atM v_atI v_atQ v_packing v_packed v_goPace v_goMinutes v_spentAt v_ranChanges f_m_tape f_m_knee f_m_weight f_m_isLame f_m_loadWeight f_m_owner f_m_food f_m_miles f_m_slope f_m_clauseLetter f_m_sumFrom f_m_codeFrom f_m_codeTo f_m_code f_m_codeArg f_m_newLetter f_m_newSum f_m_newFrom f_m_newTo f_m_newCode f_m_newArg f_m_stack f_m_worth f_m_isRefused f_m_least f_m_packPounds f_m_packOwner f_m_room f_m_givenTo f_m_canBe f_m_setPounds f_m_plainTime f_m_muleTime f_m_planTo f_m_march f_m_tired f_m_ranMinutes f_m_tiredAhead f_m_isReached f_m_toEnd f_m_upTo f_m_upNext f_m_byChanges f_m_bandPaces) := by
  refine gMi_in (by decide) (Nat.le_of_ble_eq_true rfl) ?_
  intro p e s m args below meth c A ls Q hx hb hml hts hown hsz hP hK hD hN hAe hA hS hl hret
  subst hsz
  have hl : lv_has ls 2 [(0, .int x), (1, .int k)] := hl
  have hrt := fun (r : Int32)  (hp : (0 ≤ r.toInt ∧ r.toInt ≤ 1) ∧ ((r.toInt = 1 ∧ (x >>> (k &&& 31)) &&& 1 = 1) ∨ (r.toInt = 0 ∧ ¬ ((x >>> (k &&& 31)) &&& 1 = 1)))) {H : Heap} {locs : List Loc} {pc : Nat} {ls : Array Slot} => hret r () (H := H) (locs := locs) (pc := pc) (ls := ls) hp
  clear hret
  refine lv_iload_n hx hb dX10_has_0 rfl (lv_at hl 0 rfl) ?_
  refine lv_iload_n hx hb dX10_has_1 rfl (lv_at hl 1 rfl) ?_
  refine lv_ishr hx hb dX10_has_2 ?_
  refine lv_topi (fun n_1 en_1 => ?_)
  refine lv_iconst (v := 1) hx hb dX10_has_3 (by decide) ?_
  skip
  refine lv_iand hx hb dX10_has_4 ?_
  refine lv_topi (fun n_2 en_2 => ?_)
  have bn_2 : 0 ≤ n_2.toInt ∧ n_2.toInt ≤ 1 := i_msk 1 en_2 (by decide) (by decide) (by decide)
  refine lv_iconst (v := 1) hx hb dX10_has_5 (by decide) ?_
  skip
  refine lv_icmp_ne (tgt := 13) hx hb dX10_has_6 (by decide) (fun c_3 => ?_) (fun c_3 => ?_)
  · have gc_3 : n_2.toInt ≠ 1 := i_ne (rfl : n_2.toInt = n_2.toInt) (by decide : (1 : Int32).toInt = 1) c_3
    refine lv_iconst (v := 0) hx hb dX10_has_13 (by decide) ?_
    have k_4 : (0 : Int32).toInt = 0 := by decide
    exact hrt 0  ⟨(by omega), (Or.inr ⟨by omega, fun z => by have q := congrArg Int32.toInt z; rw [← en_1, ← en_2] at q; have q1 : (1 : Int32).toInt = 1 := (by decide); omega⟩)⟩ hP hD hS rfl dX10_has_14
  · have gc_3 : n_2.toInt = 1 := i_eq (rfl : n_2.toInt = n_2.toInt) (by decide : (1 : Int32).toInt = 1) c_3
    refine lv_iconst (v := 1) hx hb dX10_has_9 (by decide) ?_
    refine lv_goto (tgt := 14) hx hb dX10_has_10 (by decide) ?_
    have k_5 : (1 : Int32).toInt = 1 := by decide
    exact hrt 1  ⟨(by omega), (Or.inl ⟨by omega, i_same (Eq.trans (b := 1) (by rw [← en_1, ← en_2]; omega) (by decide))⟩)⟩ hP hD hS rfl dX10_has_14
set_option maxHeartbeats 16000000 in
set_option maxRecDepth 100000 in
theorem c_X10_held (l : Launch) (D : va_G) (cy : Nat → ClassId) (hm : Nat → Nat) (v_taped v_walkers v_loads v_pieces v_changeCosts v_planned v_isMarch v_clauseMany v_place v_end v_bad v_clauses v_codes v_open v_stacked v_isOver v_isBehind v_atW v_atL v_atT v_atH v_atM v_atI v_atQ v_packing v_packed v_goPace v_goMinutes v_spentAt v_ranChanges : Int32) (f_m_tape f_m_knee f_m_weight f_m_isLame f_m_loadWeight f_m_owner f_m_food f_m_miles f_m_slope f_m_clauseLetter f_m_sumFrom f_m_codeFrom f_m_codeTo f_m_code f_m_codeArg f_m_newLetter f_m_newSum f_m_newFrom f_m_newTo f_m_newCode f_m_newArg f_m_stack f_m_worth f_m_isRefused f_m_least f_m_packPounds f_m_packOwner f_m_room f_m_givenTo f_m_canBe f_m_setPounds f_m_plainTime f_m_muleTime f_m_planTo f_m_march f_m_tired f_m_ranMinutes f_m_tiredAhead f_m_isReached f_m_toEnd f_m_upTo f_m_upNext f_m_byChanges f_m_bandPaces : Nat → Int32) (sz : Nat) (v : Int32) (low : Int32) (high : Int32) (h : low.toInt ≤ high.toInt) : gMi l yX10_held cX10_held 3 .int 1 [.int v, .int low, .int high] D cy (wMD cy hm v_taped v_walkers v_loads v_pieces v_changeCosts v_planned v_isMarch v_clauseMany v_place v_end v_bad v_clauses v_codes v_open v_stacked v_isOver v_isBehind v_atW v_atL v_atT v_atH v_atM v_atI v_atQ v_packing v_packed v_goPace v_goMinutes v_spentAt v_ranChanges f_m_tape f_m_knee f_m_weight f_m_isLame f_m_loadWeight f_m_owner f_m_food f_m_miles f_m_slope f_m_clauseLetter f_m_sumFrom f_m_codeFrom f_m_codeTo f_m_code f_m_codeArg f_m_newLetter f_m_newSum f_m_newFrom f_m_newTo f_m_newCode f_m_newArg f_m_stack f_m_worth f_m_isRefused f_m_least f_m_packPounds f_m_packOwner f_m_room f_m_givenTo f_m_canBe f_m_setPounds f_m_plainTime f_m_muleTime f_m_planTo f_m_march f_m_tired f_m_ranMinutes f_m_tiredAhead f_m_isReached f_m_toEnd f_m_upTo f_m_upNext f_m_byChanges f_m_bandPaces) NT sz (fun (r : Int32) (u : Unit) => ((v.toInt < low.toInt ∧ r.toInt = low.toInt) ∨ (low.toInt ≤ v.toInt ∧ high.toInt < v.toInt ∧ r.toInt = high.toInt) ∨ (low.toInt ≤ v.toInt ∧ v.toInt ≤ high.toInt ∧ r.toInt = v.toInt)) ∧ (r = heldF v low high)) (fun u => wMD cy hm v_taped v_walkers v_loads v_pieces v_changeCosts v_planned v_isMarch v_clauseMany v_place v_end v_bad v_clauses v_codes v_open v_stacked v_isOver v_isBehind v_atW v_atL v_atT v_atH v_atM v_atI v_atQ v_packing v_packed v_goPace v_goMinutes v_spentAt v_ranChanges f_m_tape f_m_knee f_m_weight f_m_isLame f_m_loadWeight f_m_owner f_m_food f_m_miles f_m_slope f_m_clauseLetter f_m_sumFrom f_m_codeFrom f_m_codeTo f_m_code f_m_codeArg f_m_newLetter f_m_newSum f_m_newFrom f_m_newTo f_m_newCode f_m_newArg f_m_stack f_m_worth f_m_isRefused f_m_least f_m_packPounds f_m_packOwner f_m_room f_m_givenTo f_m_canBe f_m_setPounds f_m_plainTime f_m_muleTime f_m_planTo f_m_march f_m_tired f_m_ranMinutes f_m_tiredAhead f_m_isReached f_m_toEnd f_m_upTo f_m_upNext f_m_byChanges f_m_bandPaces) := by
  refine gMi_in (by decide) (Nat.le_of_ble_eq_true rfl) ?_
  intro p e s m args below meth c A ls Q hx hb hml hts hown hsz hP hK hD hN hAe hA hS hl hret
  subst hsz
  have hl : lv_has ls 3 [(0, .int v), (1, .int low), (2, .int high)] := hl
  have hrt := fun (r : Int32)  (hp : ((v.toInt < low.toInt ∧ r.toInt = low.toInt) ∨ (low.toInt ≤ v.toInt ∧ high.toInt < v.toInt ∧ r.toInt = high.toInt) ∨ (low.toInt ≤ v.toInt ∧ v.toInt ≤ high.toInt ∧ r.toInt = v.toInt)) ∧ (r = heldF v low high)) {H : Heap} {locs : List Loc} {pc : Nat} {ls : Array Slot} => hret r () (H := H) (locs := locs) (pc := pc) (ls := ls) hp
  clear hret
  refine lv_iload_n hx hb dX10_held_0 rfl (lv_at hl 0 rfl) ?_
  refine lv_iload_n hx hb dX10_held_1 rfl (lv_at hl 1 rfl) ?_
  refine lv_icmp_ge (tgt := 9) hx hb dX10_held_2 (by decide) (fun c_1 => ?_) (fun c_1 => ?_)
  · have gc_1 : low.toInt ≤ v.toInt := i_le (rfl : low.toInt = low.toInt) (rfl : v.toInt = v.toInt) c_1
    refine lv_iload_n hx hb dX10_held_9 rfl (lv_at hl 0 rfl) ?_
    refine lv_iload_n hx hb dX10_held_10 rfl (lv_at hl 2 rfl) ?_
    refine lv_icmp_le (tgt := 18) hx hb dX10_held_11 (by decide) (fun c_2 => ?_) (fun c_2 => ?_)
    · have gc_2 : v.toInt ≤ high.toInt := i_le (rfl : v.toInt = v.toInt) (rfl : high.toInt = high.toInt) c_2
      refine lv_iload_n hx hb dX10_held_18 rfl (lv_at hl 0 rfl) ?_
      exact hrt v  ⟨(by omega), (by unfold heldF; first | rw [if_pos (by omega)] | rw [if_neg (by omega), if_pos (by omega)] | rw [if_neg (by omega), if_neg (by omega)])⟩ hP hD hS rfl dX10_held_19
    · have gc_2 : high.toInt < v.toInt := i_nle (rfl : v.toInt = v.toInt) (rfl : high.toInt = high.toInt) c_2
      refine lv_iload_n hx hb dX10_held_14 rfl (lv_at hl 2 rfl) ?_
      refine lv_goto (tgt := 19) hx hb dX10_held_15 (by decide) ?_
      exact hrt high  ⟨(by omega), (by unfold heldF; first | rw [if_pos (by omega)] | rw [if_neg (by omega), if_pos (by omega)] | rw [if_neg (by omega), if_neg (by omega)])⟩ hP hD hS rfl dX10_held_19
  · have gc_1 : v.toInt < low.toInt := i_nle (rfl : low.toInt = low.toInt) (rfl : v.toInt = v.toInt) c_1
    refine lv_iload_n hx hb dX10_held_5 rfl (lv_at hl 1 rfl) ?_
    refine lv_goto (tgt := 19) hx hb dX10_held_6 (by decide) ?_
    exact hrt low  ⟨(by omega), (by unfold heldF; first | rw [if_pos (by omega)] | rw [if_neg (by omega), if_pos (by omega)] | rw [if_neg (by omega), if_neg (by omega)])⟩ hP hD hS rfl dX10_held_19
set_option maxHeartbeats 16000000 in
set_option maxRecDepth 100000 in
theorem c_X10_isWalker (l : Launch) (D : va_G) (cy : Nat → ClassId) (hm : Nat → Nat) (v_taped v_walkers v_loads v_pieces v_changeCosts v_planned v_isMarch v_clauseMany v_place v_end v_bad v_clauses v_codes v_open v_stacked v_isOver v_isBehind v_atW v_atL v_atT v_atH v_atM v_atI v_atQ v_packing v_packed v_goPace v_goMinutes v_spentAt v_ranChanges : Int32) (f_m_tape f_m_knee f_m_weight f_m_isLame f_m_loadWeight f_m_owner f_m_food f_m_miles f_m_slope f_m_clauseLetter f_m_sumFrom f_m_codeFrom f_m_codeTo f_m_code f_m_codeArg f_m_newLetter f_m_newSum f_m_newFrom f_m_newTo f_m_newCode f_m_newArg f_m_stack f_m_worth f_m_isRefused f_m_least f_m_packPounds f_m_packOwner f_m_room f_m_givenTo f_m_canBe f_m_setPounds f_m_plainTime f_m_muleTime f_m_planTo f_m_march f_m_tired f_m_ranMinutes f_m_tiredAhead f_m_isReached f_m_toEnd f_m_upTo f_m_upNext f_m_byChanges f_m_bandPaces : Nat → Int32) (sz : Nat) (k : Int32) (hb_v_walkers : 0 ≤ v_walkers.toInt ∧ v_walkers.toInt ≤ 6) : gMi l yX10_isWalker cX10_isWalker 2 .boolean 2 [.ref (hm 0), .int k] D cy (wMD cy hm v_taped v_walkers v_loads v_pieces v_changeCosts v_planned v_isMarch v_clauseMany v_place v_end v_bad v_clauses v_codes v_open v_stacked v_isOver v_isBehind v_atW v_atL v_atT v_atH v_atM v_atI v_atQ v_packing v_packed v_goPace v_goMinutes v_spentAt v_ranChanges f_m_tape f_m_knee f_m_weight f_m_isLame f_m_loadWeight f_m_owner f_m_food f_m_miles f_m_slope f_m_clauseLetter f_m_sumFrom f_m_codeFrom f_m_codeTo f_m_code f_m_codeArg f_m_newLetter f_m_newSum f_m_newFrom f_m_newTo f_m_newCode f_m_newArg f_m_stack f_m_worth f_m_isRefused f_m_least f_m_packPounds f_m_packOwner f_m_room f_m_givenTo f_m_canBe f_m_setPounds f_m_plainTime f_m_muleTime f_m_planTo f_m_march f_m_tired f_m_ranMinutes f_m_tiredAhead f_m_isReached f_m_toEnd f_m_upTo f_m_upNext f_m_byChanges f_m_bandPaces) NT sz (fun (r : Int32) (u : Unit) => (0 ≤ r.toInt ∧ r.toInt ≤ 1) ∧ ((r.toInt = 1 ∧ 0 ≤ k.toInt ∧ k.toInt < v_walkers.toInt) ∨ (r.toInt = 0 ∧ ¬ (0 ≤ k.toInt ∧ k.toInt < v_walkers.toInt)))) (fun u => wMD cy hm v_taped v_walkers v_loads v_pieces v_changeCosts v_planned v_isMarch v_clauseMany v_place v_end v_bad v_clauses v_codes v_open v_stacked v_isOver v_isBehind v_atW v_atL v_atT v_atH v_atM v_atI v_atQ v_packing v_packed v_goPace v_goMinutes v_spentAt v_ranChanges f_m_tape f_m_knee f_m_weight f_m_isLame f_m_loadWeight f_m_owner f_m_food f_m_miles f_m_slope f_m_clauseLetter f_m_sumFrom f_m_codeFrom f_m_codeTo f_m_code f_m_codeArg f_m_newLetter f_m_newSum f_m_newFrom f_m_newTo f_m_newCode f_m_newArg f_m_stack f_m_worth f_m_isRefused f_m_least f_m_packPounds f_m_packOwner f_m_room f_m_givenTo f_m_canBe f_m_setPounds f_m_plainTime f_m_muleTime f_m_planTo f_m_march f_m_tired f_m_ranMinutes f_m_tiredAhead f_m_isReached f_m_toEnd f_m_upTo f_m_upNext f_m_byChanges f_m_bandPaces) := by
  refine gMi_in (by decide) (Nat.le_of_ble_eq_true rfl) ?_
  intro p e s m args below meth c A ls Q hx hb hml hts hown hsz hP hK hD hN hAe hA hS hl hret
  subst hsz
  have hl : lv_has ls 2 [(0, .ref (hm 0)), (1, .int k)] := hl
  have hrt := fun (r : Int32)  (hp : (0 ≤ r.toInt ∧ r.toInt ≤ 1) ∧ ((r.toInt = 1 ∧ 0 ≤ k.toInt ∧ k.toInt < v_walkers.toInt) ∨ (r.toInt = 0 ∧ ¬ (0 ≤ k.toInt ∧ k.toInt < v_walkers.toInt)))) {H : Heap} {locs : List Loc} {pc : Nat} {ls : Array Slot} => hret r () (H := H) (locs := locs) (pc := pc) (ls := ls) hp
  clear hret
  refine lv_iload_n hx hb dX10_isWalker_0 rfl (lv_at hl 1 rfl) ?_
  refine lv_i2l (v := k.toInt64) hx hb dX10_isWalker_1 rfl ?_
  have hl_1 : k.toInt64.toInt = k.toInt := i_l (rfl : k.toInt = k.toInt)
  refine lv_lconst (v := 0) hx hb dX10_isWalker_2 (by decide) ?_
  refine lv_aload_n hx hb dX10_isWalker_3 rfl (lv_at hl 0 rfl) ?_
  refine gt_MD_MD_walkers hx hb hts hown hK hP lwd_221 dX10_isWalker_4 ?_
  refine lv_iconst (v := 1) hx hb dX10_isWalker_7 (by decide) ?_
  refine lv_isub hx hb dX10_isWalker_8 ?_
  refine lv_topi (fun n_2 en_2 => ?_)
  have tn_2 : n_2.toInt = v_walkers.toInt - 1 := i_sub en_2 (rfl : v_walkers.toInt = v_walkers.toInt) (by decide : (1 : Int32).toInt = 1) (by omega) (by omega)
  refine lv_i2l (v := n_2.toInt64) hx hb dX10_isWalker_9 rfl ?_
  have hl_3 : n_2.toInt64.toInt = v_walkers.toInt - 1 := i_l tn_2
  have k_4 : (0 : Int64).toInt = 0 := by decide
  refine xi hD hS hA (xS (As := [.long k.toInt64, .long 0, .long n_2.toInt64]) (rest := []) hx hb hml hown hts hK hP hD hS hA NT_ok hN hAe hl.1 ⟨Nat.le_refl _, Nat.le_refl _⟩ (c_X10_lies l D cy hm v_taped v_walkers v_loads v_pieces v_changeCosts v_planned v_isMarch v_clauseMany v_place v_end v_bad v_clauses v_codes v_open v_stacked v_isOver v_isBehind v_atW v_atL v_atT v_atH v_atM v_atI v_atQ v_packing v_packed v_goPace v_goMinutes v_spentAt v_ranChanges f_m_tape f_m_knee f_m_weight f_m_isLame f_m_loadWeight f_m_owner f_m_food f_m_miles f_m_slope f_m_clauseLetter f_m_sumFrom f_m_codeFrom f_m_codeTo f_m_code f_m_codeArg f_m_newLetter f_m_newSum f_m_newFrom f_m_newTo f_m_newCode f_m_newArg f_m_stack f_m_worth f_m_isRefused f_m_least f_m_packPounds f_m_packOwner f_m_room f_m_givenTo f_m_canBe f_m_setPounds f_m_plainTime f_m_muleTime f_m_planTo f_m_march f_m_tired f_m_ranMinutes f_m_tiredAhead f_m_isReached f_m_toEnd f_m_upTo f_m_upNext f_m_byChanges f_m_bandPaces s.heap.size k.toInt64 0 n_2.toInt64) (gi_S lwd_226 lwd_227 lwd_5 lwd_228) hd_X10_lies ⟨Nat.le_of_ble_eq_true rfl, Nat.le_of_ble_eq_true rfl⟩ rfl (Nat.le_of_ble_eq_true rfl) dX10_isWalker_10) (fun r_6 u_5 H locs hw hP hD hS => ?_)
  try dsimp only at hw hP hD
  obtain ⟨p_7, p_8⟩ := hw
  exact hrt r_6  ⟨(by omega), (by omega)⟩ hP hD hS (nar_b (i_01' (by omega))) dX10_isWalker_13
set_option maxHeartbeats 16000000 in
set_option maxRecDepth 100000 in
theorem c_X10_isLoad (l : Launch) (D : va_G) (cy : Nat → ClassId) (hm : Nat → Nat) (v_taped v_walkers v_loads v_pieces v_changeCosts v_planned v_isMarch v_clauseMany v_place v_end v_bad v_clauses v_codes v_open v_stacked v_isOver v_isBehind v_atW v_atL v_atT v_atH v_atM v_atI v_atQ v_packing v_packed v_goPace v_goMinutes v_spentAt v_ranChanges : Int32) (f_m_tape f_m_knee f_m_weight f_m_isLame f_m_loadWeight f_m_owner f_m_food f_m_miles f_m_slope f_m_clauseLetter f_m_sumFrom f_m_codeFrom f_m_codeTo f_m_code f_m_codeArg f_m_newLetter f_m_newSum f_m_newFrom f_m_newTo f_m_newCode f_m_newArg f_m_stack f_m_worth f_m_isRefused f_m_least f_m_packPounds f_m_packOwner f_m_room f_m_givenTo f_m_canBe f_m_setPounds f_m_plainTime f_m_muleTime f_m_planTo f_m_march f_m_tired f_m_ranMinutes f_m_tiredAhead f_m_isReached f_m_toEnd f_m_upTo f_m_upNext f_m_byChanges f_m_bandPaces : Nat → Int32) (sz : Nat) (k : Int32) (hb_v_loads : 0 ≤ v_loads.toInt ∧ v_loads.toInt ≤ 9) : gMi l yX10_isLoad cX10_isLoad 2 .boolean 2 [.ref (hm 0), .int k] D cy (wMD cy hm v_taped v_walkers v_loads v_pieces v_changeCosts v_planned v_isMarch v_clauseMany v_place v_end v_bad v_clauses v_codes v_open v_stacked v_isOver v_isBehind v_atW v_atL v_atT v_atH v_atM v_atI v_atQ v_packing v_packed v_goPace v_goMinutes v_spentAt v_ranChanges f_m_tape f_m_knee f_m_weight f_m_isLame f_m_loadWeight f_m_owner f_m_food f_m_miles f_m_slope f_m_clauseLetter f_m_sumFrom f_m_codeFrom f_m_codeTo f_m_code f_m_codeArg f_m_newLetter f_m_newSum f_m_newFrom f_m_newTo f_m_newCode f_m_newArg f_m_stack f_m_worth f_m_isRefused f_m_least f_m_packPounds f_m_packOwner f_m_room f_m_givenTo f_m_canBe f_m_setPounds f_m_plainTime f_m_muleTime f_m_planTo f_m_march f_m_tired f_m_ranMinutes f_m_tiredAhead f_m_isReached f_m_toEnd f_m_upTo f_m_upNext f_m_byChanges f_m_bandPaces) NT sz (fun (r : Int32) (u : Unit) => (0 ≤ r.toInt ∧ r.toInt ≤ 1) ∧ ((r.toInt = 1 ∧ 0 ≤ k.toInt ∧ k.toInt < v_loads.toInt) ∨ (r.toInt = 0 ∧ ¬ (0 ≤ k.toInt ∧ k.toInt < v_loads.toInt)))) (fun u => wMD cy hm v_taped v_walkers v_loads v_pieces v_changeCosts v_planned v_isMarch v_clauseMany v_place v_end v_bad v_clauses v_codes v_open v_stacked v_isOver v_isBehind v_atW v_atL v_atT v_atH v_atM v_atI v_atQ v_packing v_packed v_goPace v_goMinutes v_spentAt v_ranChanges f_m_tape f_m_knee f_m_weight f_m_isLame f_m_loadWeight f_m_owner f_m_food f_m_miles f_m_slope f_m_clauseLetter f_m_sumFrom f_m_codeFrom f_m_codeTo f_m_code f_m_codeArg f_m_newLetter f_m_newSum f_m_newFrom f_m_newTo f_m_newCode f_m_newArg f_m_stack f_m_worth f_m_isRefused f_m_least f_m_packPounds f_m_packOwner f_m_room f_m_givenTo f_m_canBe f_m_setPounds f_m_plainTime f_m_muleTime f_m_planTo f_m_march f_m_tired f_m_ranMinutes f_m_tiredAhead f_m_isReached f_m_toEnd f_m_upTo f_m_upNext f_m_byChanges f_m_bandPaces) := by
  refine gMi_in (by decide) (Nat.le_of_ble_eq_true rfl) ?_
  intro p e s m args below meth c A ls Q hx hb hml hts hown hsz hP hK hD hN hAe hA hS hl hret
  subst hsz
  have hl : lv_has ls 2 [(0, .ref (hm 0)), (1, .int k)] := hl
  have hrt := fun (r : Int32)  (hp : (0 ≤ r.toInt ∧ r.toInt ≤ 1) ∧ ((r.toInt = 1 ∧ 0 ≤ k.toInt ∧ k.toInt < v_loads.toInt) ∨ (r.toInt = 0 ∧ ¬ (0 ≤ k.toInt ∧ k.toInt < v_loads.toInt)))) {H : Heap} {locs : List Loc} {pc : Nat} {ls : Array Slot} => hret r () (H := H) (locs := locs) (pc := pc) (ls := ls) hp
  clear hret
  refine lv_iload_n hx hb dX10_isLoad_0 rfl (lv_at hl 1 rfl) ?_
  refine lv_i2l (v := k.toInt64) hx hb dX10_isLoad_1 rfl ?_
  have hl_1 : k.toInt64.toInt = k.toInt := i_l (rfl : k.toInt = k.toInt)
  refine lv_lconst (v := 0) hx hb dX10_isLoad_2 (by decide) ?_
  refine lv_aload_n hx hb dX10_isLoad_3 rfl (lv_at hl 0 rfl) ?_
  refine gt_MD_MD_loads hx hb hts hown hK hP lwd_247 dX10_isLoad_4 ?_
  refine lv_iconst (v := 1) hx hb dX10_isLoad_7 (by decide) ?_
  refine lv_isub hx hb dX10_isLoad_8 ?_
  refine lv_topi (fun n_2 en_2 => ?_)
  have tn_2 : n_2.toInt = v_loads.toInt - 1 := i_sub en_2 (rfl : v_loads.toInt = v_loads.toInt) (by decide : (1 : Int32).toInt = 1) (by omega) (by omega)
  refine lv_i2l (v := n_2.toInt64) hx hb dX10_isLoad_9 rfl ?_
  have hl_3 : n_2.toInt64.toInt = v_loads.toInt - 1 := i_l tn_2
  have k_4 : (0 : Int64).toInt = 0 := by decide
  refine xi hD hS hA (xS (As := [.long k.toInt64, .long 0, .long n_2.toInt64]) (rest := []) hx hb hml hown hts hK hP hD hS hA NT_ok hN hAe hl.1 ⟨Nat.le_refl _, Nat.le_refl _⟩ (c_X10_lies l D cy hm v_taped v_walkers v_loads v_pieces v_changeCosts v_planned v_isMarch v_clauseMany v_place v_end v_bad v_clauses v_codes v_open v_stacked v_isOver v_isBehind v_atW v_atL v_atT v_atH v_atM v_atI v_atQ v_packing v_packed v_goPace v_goMinutes v_spentAt v_ranChanges f_m_tape f_m_knee f_m_weight f_m_isLame f_m_loadWeight f_m_owner f_m_food f_m_miles f_m_slope f_m_clauseLetter f_m_sumFrom f_m_codeFrom f_m_codeTo f_m_code f_m_codeArg f_m_newLetter f_m_newSum f_m_newFrom f_m_newTo f_m_newCode f_m_newArg f_m_stack f_m_worth f_m_isRefused f_m_least f_m_packPounds f_m_packOwner f_m_room f_m_givenTo f_m_canBe f_m_setPounds f_m_plainTime f_m_muleTime f_m_planTo f_m_march f_m_tired f_m_ranMinutes f_m_tiredAhead f_m_isReached f_m_toEnd f_m_upTo f_m_upNext f_m_byChanges f_m_bandPaces s.heap.size k.toInt64 0 n_2.toInt64) (gi_S lwd_226 lwd_227 lwd_5 lwd_228) hd_X10_lies ⟨Nat.le_of_ble_eq_true rfl, Nat.le_of_ble_eq_true rfl⟩ rfl (Nat.le_of_ble_eq_true rfl) dX10_isLoad_10) (fun r_6 u_5 H locs hw hP hD hS => ?_)
  try dsimp only at hw hP hD
  obtain ⟨p_7, p_8⟩ := hw
  exact hrt r_6  ⟨(by omega), (by omega)⟩ hP hD hS (nar_b (i_01' (by omega))) dX10_isLoad_13
set_option maxHeartbeats 16000000 in
set_option maxRecDepth 100000 in
theorem c_X10_isPiece (l : Launch) (D : va_G) (cy : Nat → ClassId) (hm : Nat → Nat) (v_taped v_walkers v_loads v_pieces v_changeCosts v_planned v_isMarch v_clauseMany v_place v_end v_bad v_clauses v_codes v_open v_stacked v_isOver v_isBehind v_atW v_atL v_atT v_atH v_atM v_atI v_atQ v_packing v_packed v_goPace v_goMinutes v_spentAt v_ranChanges : Int32) (f_m_tape f_m_knee f_m_weight f_m_isLame f_m_loadWeight f_m_owner f_m_food f_m_miles f_m_slope f_m_clauseLetter f_m_sumFrom f_m_codeFrom f_m_codeTo f_m_code f_m_codeArg f_m_newLetter f_m_newSum f_m_newFrom f_m_newTo f_m_newCode f_m_newArg f_m_stack f_m_worth f_m_isRefused f_m_least f_m_packPounds f_m_packOwner f_m_room f_m_givenTo f_m_canBe f_m_setPounds f_m_plainTime f_m_muleTime f_m_planTo f_m_march f_m_tired f_m_ranMinutes f_m_tiredAhead f_m_isReached f_m_toEnd f_m_upTo f_m_upNext f_m_byChanges f_m_bandPaces : Nat → Int32) (sz : Nat) (k : Int32) (hb_v_pieces : 0 ≤ v_pieces.toInt ∧ v_pieces.toInt ≤ 10) : gMi l yX10_isPiece cX10_isPiece 2 .boolean 2 [.ref (hm 0), .int k] D cy (wMD cy hm v_taped v_walkers v_loads v_pieces v_changeCosts v_planned v_isMarch v_clauseMany v_place v_end v_bad v_clauses v_codes v_open v_stacked v_isOver v_isBehind v_atW v_atL v_atT v_atH v_atM v_atI v_atQ v_packing v_packed v_goPace v_goMinutes v_spentAt v_ranChanges f_m_tape f_m_knee f_m_weight f_m_isLame f_m_loadWeight f_m_owner f_m_food f_m_miles f_m_slope f_m_clauseLetter f_m_sumFrom f_m_codeFrom f_m_codeTo f_m_code f_m_codeArg f_m_newLetter f_m_newSum f_m_newFrom f_m_newTo f_m_newCode f_m_newArg f_m_stack f_m_worth f_m_isRefused f_m_least f_m_packPounds f_m_packOwner f_m_room f_m_givenTo f_m_canBe f_m_setPounds f_m_plainTime f_m_muleTime f_m_planTo f_m_march f_m_tired f_m_ranMinutes f_m_tiredAhead f_m_isReached f_m_toEnd f_m_upTo f_m_upNext f_m_byChanges f_m_bandPaces) NT sz (fun (r : Int32) (u : Unit) => (0 ≤ r.toInt ∧ r.toInt ≤ 1) ∧ ((r.toInt = 1 ∧ 0 ≤ k.toInt ∧ k.toInt < v_pieces.toInt) ∨ (r.toInt = 0 ∧ ¬ (0 ≤ k.toInt ∧ k.toInt < v_pieces.toInt)))) (fun u => wMD cy hm v_taped v_walkers v_loads v_pieces v_changeCosts v_planned v_isMarch v_clauseMany v_place v_end v_bad v_clauses v_codes v_open v_stacked v_isOver v_isBehind v_atW v_atL v_atT v_atH v_atM v_atI v_atQ v_packing v_packed v_goPace v_goMinutes v_spentAt v_ranChanges f_m_tape f_m_knee f_m_weight f_m_isLame f_m_loadWeight f_m_owner f_m_food f_m_miles f_m_slope f_m_clauseLetter f_m_sumFrom f_m_codeFrom f_m_codeTo f_m_code f_m_codeArg f_m_newLetter f_m_newSum f_m_newFrom f_m_newTo f_m_newCode f_m_newArg f_m_stack f_m_worth f_m_isRefused f_m_least f_m_packPounds f_m_packOwner f_m_room f_m_givenTo f_m_canBe f_m_setPounds f_m_plainTime f_m_muleTime f_m_planTo f_m_march f_m_tired f_m_ranMinutes f_m_tiredAhead f_m_isReached f_m_toEnd f_m_upTo f_m_upNext f_m_byChanges f_m_bandPaces) := by
  refine gMi_in (by decide) (Nat.le_of_ble_eq_true rfl) ?_
  intro p e s m args below meth c A ls Q hx hb hml hts hown hsz hP hK hD hN hAe hA hS hl hret
  subst hsz
  have hl : lv_has ls 2 [(0, .ref (hm 0)), (1, .int k)] := hl
  have hrt := fun (r : Int32)  (hp : (0 ≤ r.toInt ∧ r.toInt ≤ 1) ∧ ((r.toInt = 1 ∧ 0 ≤ k.toInt ∧ k.toInt < v_pieces.toInt) ∨ (r.toInt = 0 ∧ ¬ (0 ≤ k.toInt ∧ k.toInt < v_pieces.toInt)))) {H : Heap} {locs : List Loc} {pc : Nat} {ls : Array Slot} => hret r () (H := H) (locs := locs) (pc := pc) (ls := ls) hp
  clear hret
  refine lv_iload_n hx hb dX10_isPiece_0 rfl (lv_at hl 1 rfl) ?_
  refine lv_i2l (v := k.toInt64) hx hb dX10_isPiece_1 rfl ?_
  have hl_1 : k.toInt64.toInt = k.toInt := i_l (rfl : k.toInt = k.toInt)
  refine lv_lconst (v := 0) hx hb dX10_isPiece_2 (by decide) ?_
  refine lv_aload_n hx hb dX10_isPiece_3 rfl (lv_at hl 0 rfl) ?_
  refine gt_MD_MD_pieces hx hb hts hown hK hP lwd_265 dX10_isPiece_4 ?_
  refine lv_iconst (v := 1) hx hb dX10_isPiece_7 (by decide) ?_
  refine lv_isub hx hb dX10_isPiece_8 ?_
  refine lv_topi (fun n_2 en_2 => ?_)
  have tn_2 : n_2.toInt = v_pieces.toInt - 1 := i_sub en_2 (rfl : v_pieces.toInt = v_pieces.toInt) (by decide : (1 : Int32).toInt = 1) (by omega) (by omega)
  refine lv_i2l (v := n_2.toInt64) hx hb dX10_isPiece_9 rfl ?_
  have hl_3 : n_2.toInt64.toInt = v_pieces.toInt - 1 := i_l tn_2
  have k_4 : (0 : Int64).toInt = 0 := by decide
  refine xi hD hS hA (xS (As := [.long k.toInt64, .long 0, .long n_2.toInt64]) (rest := []) hx hb hml hown hts hK hP hD hS hA NT_ok hN hAe hl.1 ⟨Nat.le_refl _, Nat.le_refl _⟩ (c_X10_lies l D cy hm v_taped v_walkers v_loads v_pieces v_changeCosts v_planned v_isMarch v_clauseMany v_place v_end v_bad v_clauses v_codes v_open v_stacked v_isOver v_isBehind v_atW v_atL v_atT v_atH v_atM v_atI v_atQ v_packing v_packed v_goPace v_goMinutes v_spentAt v_ranChanges f_m_tape f_m_knee f_m_weight f_m_isLame f_m_loadWeight f_m_owner f_m_food f_m_miles f_m_slope f_m_clauseLetter f_m_sumFrom f_m_codeFrom f_m_codeTo f_m_code f_m_codeArg f_m_newLetter f_m_newSum f_m_newFrom f_m_newTo f_m_newCode f_m_newArg f_m_stack f_m_worth f_m_isRefused f_m_least f_m_packPounds f_m_packOwner f_m_room f_m_givenTo f_m_canBe f_m_setPounds f_m_plainTime f_m_muleTime f_m_planTo f_m_march f_m_tired f_m_ranMinutes f_m_tiredAhead f_m_isReached f_m_toEnd f_m_upTo f_m_upNext f_m_byChanges f_m_bandPaces s.heap.size k.toInt64 0 n_2.toInt64) (gi_S lwd_226 lwd_227 lwd_5 lwd_228) hd_X10_lies ⟨Nat.le_of_ble_eq_true rfl, Nat.le_of_ble_eq_true rfl⟩ rfl (Nat.le_of_ble_eq_true rfl) dX10_isPiece_10) (fun r_6 u_5 H locs hw hP hD hS => ?_)
  try dsimp only at hw hP hD
  obtain ⟨p_7, p_8⟩ := hw
  exact hrt r_6  ⟨(by omega), (by omega)⟩ hP hD hS (nar_b (i_01' (by omega))) dX10_isPiece_13
set_option maxHeartbeats 16000000 in
set_option maxRecDepth 100000 in
theorem c_X10_poundsOf (l : Launch) (D : va_G) (cy : Nat → ClassId) (hm : Nat → Nat) (v_taped v_walkers v_loads v_pieces v_changeCosts v_planned v_isMarch v_clauseMany v_place v_end v_bad v_clauses v_codes v_open v_stacked v_isOver v_isBehind v_atW v_atL v_atT v_atH v_atM v_atI v_atQ v_packing v_packed v_goPace v_goMinutes v_spentAt v_ranChanges : Int32) (f_m_tape f_m_knee f_m_weight f_m_isLame f_m_loadWeight f_m_owner f_m_food f_m_miles f_m_slope f_m_clauseLetter f_m_sumFrom f_m_codeFrom f_m_codeTo f_m_code f_m_codeArg f_m_newLetter f_m_newSum f_m_newFrom f_m_newTo f_m_newCode f_m_newArg f_m_stack f_m_worth f_m_isRefused f_m_least f_m_packPounds f_m_packOwner f_m_room f_m_givenTo f_m_canBe f_m_setPounds f_m_plainTime f_m_muleTime f_m_planTo f_m_march f_m_tired f_m_ranMinutes f_m_tiredAhead f_m_isReached f_m_toEnd f_m_upTo f_m_upNext f_m_byChanges f_m_bandPaces : Nat → Int32) (sz : Nat) (x : Int32) (i : Int32) (hr_m_loadWeight : rg (0) 120 f_m_loadWeight) (hr_m_food : rg (0) 20 f_m_food) (ha_x : 0 ≤ x.toInt ∧ x.toInt ≤ 8) (ha_i : 0 ≤ i.toInt ∧ i.toInt ≤ 9) : gMi l yX10_poundsOf cX10_poundsOf 3 .int 1 [.ref (hm 0), .int x, .int i] D cy (wMD cy hm v_taped v_walkers v_loads v_pieces v_changeCosts v_planned v_isMarch v_clauseMany v_place v_end v_bad v_clauses v_codes v_open v_stacked v_isOver v_isBehind v_atW v_atL v_atT v_atH v_atM v_atI v_atQ v_packing v_packed v_goPace v_goMinutes v_spentAt v_ranChanges f_m_tape f_m_knee f_m_weight f_m_isLame f_m_loadWeight f_m_owner f_m_food f_m_miles f_m_slope f_m_clauseLetter f_m_sumFrom f_m_codeFrom f_m_codeTo f_m_code f_m_codeArg f_m_newLetter f_m_newSum f_m_newFrom f_m_newTo f_m_newCode f_m_newArg f_m_stack f_m_worth f_m_isRefused f_m_least f_m_packPounds f_m_packOwner f_m_room f_m_givenTo f_m_canBe f_m_setPounds f_m_plainTime f_m_muleTime f_m_planTo f_m_march f_m_tired f_m_ranMinutes f_m_tiredAhead f_m_isReached f_m_toEnd f_m_upTo f_m_upNext f_m_byChanges f_m_bandPaces) NT sz (fun (r : Int32) (u : Unit) => (0 ≤ r.toInt ∧ r.toInt ≤ 120) ∧ (r = pdF f_m_loadWeight f_m_food x.toNatClampNeg i)) (fun u => wMD cy hm v_taped v_walkers v_loads v_pieces v_changeCosts v_planned v_isMarch v_clauseMany v_place v_end v_bad v_clauses v_codes v_open v_stacked v_isOver v_isBehind v_atW v_atL v_atT v_atH v_atM v_atI v_atQ v_packing v_packed v_goPace v_goMinutes v_spentAt v_ranChanges f_m_tape f_m_knee f_m_weight f_m_isLame f_m_loadWeight f_m_owner f_m_food f_m_miles f_m_slope f_m_clauseLetter f_m_sumFrom f_m_codeFrom f_m_codeTo f_m_code f_m_codeArg f_m_newLetter f_m_newSum f_m_newFrom f_m_newTo f_m_newCode f_m_newArg f_m_stack f_m_worth f_m_isRefused f_m_least f_m_packPounds f_m_packOwner f_m_room f_m_givenTo f_m_canBe f_m_setPounds f_m_plainTime f_m_muleTime f_m_planTo f_m_march f_m_tired f_m_ranMinutes f_m_tiredAhead f_m_isReached f_m_toEnd f_m_upTo f_m_upNext f_m_byChanges f_m_bandPaces) := by
  refine gMi_in (by decide) (Nat.le_of_ble_eq_true rfl) ?_
  intro p e s m args below meth c A ls Q hx hb hml hts hown hsz hP hK hD hN hAe hA hS hl hret
  subst hsz
  have hl : lv_has ls 3 [(0, .ref (hm 0)), (1, .int x), (2, .int i)] := hl
  have hrt := fun (r : Int32)  (hp : (0 ≤ r.toInt ∧ r.toInt ≤ 120) ∧ (r = pdF f_m_loadWeight f_m_food x.toNatClampNeg i)) {H : Heap} {locs : List Loc} {pc : Nat} {ls : Array Slot} => hret r () (H := H) (locs := locs) (pc := pc) (ls := ls) hp
  clear hret
  refine lv_aload_n hx hb dX10_poundsOf_0 rfl (lv_at hl 0 rfl) ?_
  refine gt_MD_MD_loadWeight hx hb hts hown hK hP lwd_160 dX10_poundsOf_1 ?_
  refine lv_iload_n hx hb dX10_poundsOf_4 rfl (lv_at hl 1 rfl) ?_
  refine al_m_loadWeight hx hb hK hP hr_m_loadWeight (i_in (rfl : x.toInt = x.toInt) (by omega) (by omega)) dX10_poundsOf_5 (fun n_1 en_1 bn_1 => ?_)
  refine lv_aload_n hx hb dX10_poundsOf_6 rfl (lv_at hl 0 rfl) ?_
  refine gt_MD_MD_food hx hb hts hown hK hP lwd_162 dX10_poundsOf_7 ?_
  refine lv_iload_n hx hb dX10_poundsOf_10 rfl (lv_at hl 1 rfl) ?_
  refine al_m_food hx hb hK hP hr_m_food (i_in (rfl : x.toInt = x.toInt) (by omega) (by omega)) dX10_poundsOf_11 (fun n_2 en_2 bn_2 => ?_)
  refine lv_iload_n hx hb dX10_poundsOf_12 rfl (lv_at hl 2 rfl) ?_
  refine lv_imul hx hb dX10_poundsOf_13 ?_
  have mb_3 := mul_bd (a := n_2.toInt) (b := i.toInt) (A := 20) (B := 9) (by omega) (by omega) (by omega) (by omega)
  refine lv_topi (fun n_4 en_4 => ?_)
  have tn_4 : n_4.toInt = n_2.toInt * i.toInt := i_mul en_4 (rfl : n_2.toInt = n_2.toInt) (rfl : i.toInt = i.toInt) (by omega) (by omega)
  skip
  refine lv_isub hx hb dX10_poundsOf_14 ?_
  refine lv_topi (fun n_5 en_5 => ?_)
  have tn_5 : n_5.toInt = n_1.toInt - (n_2.toInt * i.toInt) := i_sub en_5 (rfl : n_1.toInt = n_1.toInt) tn_4 (by omega) (by omega)
  skip
  refine lv_if_ge (tgt := 22) hx hb dX10_poundsOf_15 (by decide) (fun c_6 => ?_) (fun c_6 => ?_)
  · have gc_6 : 0 ≤ n_1.toInt - (n_2.toInt * i.toInt) := i_le (by decide : (0 : Int32).toInt = 0) tn_5 c_6
    refine lv_aload_n hx hb dX10_poundsOf_22 rfl (lv_at hl 0 rfl) ?_
    refine gt_MD_MD_loadWeight hx hb hts hown hK hP lwd_160 dX10_poundsOf_23 ?_
    refine lv_iload_n hx hb dX10_poundsOf_26 rfl (lv_at hl 1 rfl) ?_
    refine al_m_loadWeight hx hb hK hP hr_m_loadWeight (i_in (rfl : x.toInt = x.toInt) (by omega) (by omega)) dX10_poundsOf_27 (fun n_7 en_7 bn_7 => ?_)
    obtain rfl : n_1 = n_7 := en_1.trans en_7.symm
    refine lv_aload_n hx hb dX10_poundsOf_28 rfl (lv_at hl 0 rfl) ?_
    refine gt_MD_MD_food hx hb hts hown hK hP lwd_162 dX10_poundsOf_29 ?_
    refine lv_iload_n hx hb dX10_poundsOf_32 rfl (lv_at hl 1 rfl) ?_
    refine al_m_food hx hb hK hP hr_m_food (i_in (rfl : x.toInt = x.toInt) (by omega) (by omega)) dX10_poundsOf_33 (fun n_8 en_8 bn_8 => ?_)
    obtain rfl : n_2 = n_8 := en_2.trans en_8.symm
    refine lv_iload_n hx hb dX10_poundsOf_34 rfl (lv_at hl 2 rfl) ?_
    refine lv_imul hx hb dX10_poundsOf_35 ?_
    have mb_9 := mul_bd (a := n_2.toInt) (b := i.toInt) (A := 20) (B := 9) (by omega) (by omega) (by omega) (by omega)
    refine lv_topi (fun n_10 en_10 => ?_)
    have tn_10 : n_10.toInt = n_2.toInt * i.toInt := i_mul en_10 (rfl : n_2.toInt = n_2.toInt) (rfl : i.toInt = i.toInt) (by omega) (by omega)
    skip
    refine lv_isub hx hb dX10_poundsOf_36 ?_
    refine lv_topi (fun n_11 en_11 => ?_)
    have tn_11 : n_11.toInt = n_1.toInt - (n_2.toInt * i.toInt) := i_sub en_11 (rfl : n_1.toInt = n_1.toInt) tn_10 (by omega) (by omega)
    exact hrt n_11  ⟨(by omega), (by
      unfold pdF
      rw [← en_1, ← en_2, ← en_4, ← en_5]
      rw [if_neg (by omega), en_11, en_10, en_5, en_4])⟩ hP hD hS rfl dX10_poundsOf_37
  · have gc_6 : n_1.toInt - (n_2.toInt * i.toInt) < 0 := i_nle (by decide : (0 : Int32).toInt = 0) tn_5 c_6
    refine lv_iconst (v := 0) hx hb dX10_poundsOf_18 (by decide) ?_
    refine lv_goto (tgt := 37) hx hb dX10_poundsOf_19 (by decide) ?_
    have k_12 : (0 : Int32).toInt = 0 := by decide
    exact hrt 0  ⟨(by omega), (by
      unfold pdF
      rw [← en_1, ← en_2, ← en_4, ← en_5]
      exact (if_pos (by omega)).symm)⟩ hP hD hS rfl dX10_poundsOf_37
set_option maxHeartbeats 16000000 in
set_option maxRecDepth 100000 in
theorem c_X10_allPounds (l : Launch) (D : va_G) (cy : Nat → ClassId) (hm : Nat → Nat) (v_taped v_walkers v_loads v_pieces v_changeCosts v_planned v_isMarch v_clauseMany v_place v_end v_bad v_clauses v_codes v_open v_stacked v_isOver v_isBehind v_atW v_atL v_atT v_atH v_atM v_atI v_atQ v_packing v_packed v_goPace v_goMinutes v_spentAt v_ranChanges : Int32) (f_m_tape f_m_knee f_m_weight f_m_isLame f_m_loadWeight f_m_owner f_m_food f_m_miles f_m_slope f_m_clauseLetter f_m_sumFrom f_m_codeFrom f_m_codeTo f_m_code f_m_codeArg f_m_newLetter f_m_newSum f_m_newFrom f_m_newTo f_m_newCode f_m_newArg f_m_stack f_m_worth f_m_isRefused f_m_least f_m_packPounds f_m_packOwner f_m_room f_m_givenTo f_m_canBe f_m_setPounds f_m_plainTime f_m_muleTime f_m_planTo f_m_march f_m_tired f_m_ranMinutes f_m_tiredAhead f_m_isReached f_m_toEnd f_m_upTo f_m_upNext f_m_byChanges f_m_bandPaces : Nat → Int32) (sz : Nat) (i : Int32) (hb_v_loads : 0 ≤ v_loads.toInt ∧ v_loads.toInt ≤ 9) (hr_m_loadWeight : rg (0) 120 f_m_loadWeight) (hr_m_food : rg (0) 20 f_m_food) (ha_i : 0 ≤ i.toInt ∧ i.toInt ≤ 9) : gMi l yX10_allPounds cX10_allPounds 4 .int 2 [.ref (hm 0), .int i] D cy (wMD cy hm v_taped v_walkers v_loads v_pieces v_changeCosts v_planned v_isMarch v_clauseMany v_place v_end v_bad v_clauses v_codes v_open v_stacked v_isOver v_isBehind v_atW v_atL v_atT v_atH v_atM v_atI v_atQ v_packing v_packed v_goPace v_goMinutes v_spentAt v_ranChanges f_m_tape f_m_knee f_m_weight f_m_isLame f_m_loadWeight f_m_owner f_m_food f_m_miles f_m_slope f_m_clauseLetter f_m_sumFrom f_m_codeFrom f_m_codeTo f_m_code f_m_codeArg f_m_newLetter f_m_newSum f_m_newFrom f_m_newTo f_m_newCode f_m_newArg f_m_stack f_m_worth f_m_isRefused f_m_least f_m_packPounds f_m_packOwner f_m_room f_m_givenTo f_m_canBe f_m_setPounds f_m_plainTime f_m_muleTime f_m_planTo f_m_march f_m_tired f_m_ranMinutes f_m_tiredAhead f_m_isReached f_m_toEnd f_m_upTo f_m_upNext f_m_byChanges f_m_bandPaces) NT sz (fun (r : Int32) (u : Unit) => True) (fun u => wMD cy hm v_taped v_walkers v_loads v_pieces v_changeCosts v_planned v_isMarch v_clauseMany v_place v_end v_bad v_clauses v_codes v_open v_stacked v_isOver v_isBehind v_atW v_atL v_atT v_atH v_atM v_atI v_atQ v_packing v_packed v_goPace v_goMinutes v_spentAt v_ranChanges f_m_tape f_m_knee f_m_weight f_m_isLame f_m_loadWeight f_m_owner f_m_food f_m_miles f_m_slope f_m_clauseLetter f_m_sumFrom f_m_codeFrom f_m_codeTo f_m_code f_m_codeArg f_m_newLetter f_m_newSum f_m_newFrom f_m_newTo f_m_newCode f_m_newArg f_m_stack f_m_worth f_m_isRefused f_m_least f_m_packPounds f_m_packOwner f_m_room f_m_givenTo f_m_canBe f_m_setPounds f_m_plainTime f_m_muleTime f_m_planTo f_m_march f_m_tired f_m_ranMinutes f_m_tiredAhead f_m_isReached f_m_toEnd f_m_upTo f_m_upNext f_m_byChanges f_m_bandPaces) := by
  refine gMi_in (by decide) (Nat.le_of_ble_eq_true rfl) ?_
  intro p e s m args below meth c A ls Q hx hb hml hts hown hsz hP hK hD hN hAe hA hS hl hret
  subst hsz
  have hl : lv_has ls 4 [(0, .ref (hm 0)), (1, .int i)] := hl
  have hrt := fun (r : Int32)   {H : Heap} {locs : List Loc} {pc : Nat} {ls : Array Slot} => hret r () (H := H) (locs := locs) (pc := pc) (ls := ls) trivial
  clear hret
  refine lv_iconst (v := 0) hx hb dX10_allPounds_0 (by decide) ?_
  refine lv_istore_n (lv' := [(2, .int 0), (0, .ref (hm 0)), (1, .int i)]) hx hb dX10_allPounds_1 rfl hl (by decide) rfl (fun ls hl => ?_)
  refine lv_iconst (v := 0) hx hb dX10_allPounds_2 (by decide) ?_
  refine lv_istore_n (lv' := [(3, .int 0), (2, .int 0), (0, .ref (hm 0)), (1, .int i)]) hx hb dX10_allPounds_3 rfl hl (by decide) rfl (fun ls hl => ?_)
  have L4_5 : ∀ (n : Nat) (l_3 : Int32) (l_4 : Int32), (0 ≤ l_4.toInt ∧ l_4.toInt ≤ 9) → 10 - l_4.toInt < n → ∀ (H : Heap) (locs : List Loc) (ls : Array Slot), va_P D vwCl (wMD cy hm v_taped v_walkers v_loads v_pieces v_changeCosts v_planned v_isMarch v_clauseMany v_place v_end v_bad v_clauses v_codes v_open v_stacked v_isOver v_isBehind v_atW v_atL v_atT v_atH v_atM v_atI v_atQ v_packing v_packed v_goPace v_goMinutes v_spentAt v_ranChanges f_m_tape f_m_knee f_m_weight f_m_isLame f_m_loadWeight f_m_owner f_m_food f_m_miles f_m_slope f_m_clauseLetter f_m_sumFrom f_m_codeFrom f_m_codeTo f_m_code f_m_codeArg f_m_newLetter f_m_newSum f_m_newFrom f_m_newTo f_m_newCode f_m_newArg f_m_stack f_m_worth f_m_isRefused f_m_least f_m_packPounds f_m_packOwner f_m_room f_m_givenTo f_m_canBe f_m_setPounds f_m_plainTime f_m_muleTime f_m_planTo f_m_march f_m_tired f_m_ranMinutes f_m_tiredAhead f_m_isReached f_m_toEnd f_m_upTo f_m_upNext f_m_byChanges f_m_bandPaces) H → va_D A (wMD cy hm v_taped v_walkers v_loads v_pieces v_changeCosts v_planned v_isMarch v_clauseMany v_place v_end v_bad v_clauses v_codes v_open v_stacked v_isOver v_isBehind v_atW v_atL v_atT v_atH v_atM v_atI v_atQ v_packing v_packed v_goPace v_goMinutes v_spentAt v_ranChanges f_m_tape f_m_knee f_m_weight f_m_isLame f_m_loadWeight f_m_owner f_m_food f_m_miles f_m_slope f_m_clauseLetter f_m_sumFrom f_m_codeFrom f_m_codeTo f_m_code f_m_codeArg f_m_newLetter f_m_newSum f_m_newFrom f_m_newTo f_m_newCode f_m_newArg f_m_stack f_m_worth f_m_isRefused f_m_least f_m_packPounds f_m_packOwner f_m_room f_m_givenTo f_m_canBe f_m_setPounds f_m_plainTime f_m_muleTime f_m_planTo f_m_march f_m_tired f_m_ranMinutes f_m_tiredAhead f_m_isReached f_m_toEnd f_m_upTo f_m_upNext f_m_byChanges f_m_bandPaces) → va_S A s.heap H locs → lv_has ls 4 [(3, .int l_4), (2, .int l_3), (0, .ref (hm 0)), (1, .int i)] → W p l e (gRm 2) s m args below meth c H locs 0 0 Q (F0 m 4 ls []) := by
    intro n
    induction n with
    | zero => intro l_3 l_4 hL4_5_0 hm; exact absurd hm (by omega)
    | succ n ih4_5 =>
      intro l_3 l_4 hL4_5_0 hmL4_5 H locs ls hP hD hS hl
      refine lv_iload_n hx hb dX10_allPounds_4 rfl (lv_at hl 0 rfl) ?_
      refine lv_aload_n hx hb dX10_allPounds_5 rfl (lv_at hl 2 rfl) ?_
      refine gt_MD_MD_loads hx hb hts hown hK hP lwd_247 dX10_allPounds_6 ?_
      refine lv_icmp_ge (tgt := 27) hx hb dX10_allPounds_9 (by decide) (fun c_6 => ?_) (fun c_6 => ?_)
      · have gc_6 : v_loads.toInt ≤ l_4.toInt := i_le (rfl : v_loads.toInt = v_loads.toInt) (rfl : l_4.toInt = l_4.toInt) c_6
        refine lv_iload_n hx hb dX10_allPounds_27 rfl (lv_at hl 1 rfl) ?_
        exact hrt l_3   hP hD hS rfl dX10_allPounds_28
      · have gc_6 : l_4.toInt < v_loads.toInt := i_nle (rfl : v_loads.toInt = v_loads.toInt) (rfl : l_4.toInt = l_4.toInt) c_6
        refine lv_iload_n hx hb dX10_allPounds_12 rfl (lv_at hl 1 rfl) ?_
        refine lv_aload_n hx hb dX10_allPounds_13 rfl (lv_at hl 2 rfl) ?_
        refine lv_iload_n hx hb dX10_allPounds_14 rfl (lv_at hl 0 rfl) ?_
        refine lv_iload_n hx hb dX10_allPounds_15 rfl (lv_at hl 3 rfl) ?_
        refine xi hD hS hA (xV (As := [.int l_4, .int i]) (rest := [.int l_3]) hx hb hml hown hts hK hP hD hS hA NT_ok hN hAe hl.1 ⟨Nat.le_refl _, Nat.le_refl _⟩ 0 rfl rfl rfl (c_X10_poundsOf l D cy hm v_taped v_walkers v_loads v_pieces v_changeCosts v_planned v_isMarch v_clauseMany v_place v_end v_bad v_clauses v_codes v_open v_stacked v_isOver v_isBehind v_atW v_atL v_atT v_atH v_atM v_atI v_atQ v_packing v_packed v_goPace v_goMinutes v_spentAt v_ranChanges f_m_tape f_m_knee f_m_weight f_m_isLame f_m_loadWeight f_m_owner f_m_food f_m_miles f_m_slope f_m_clauseLetter f_m_sumFrom f_m_codeFrom f_m_codeTo f_m_code f_m_codeArg f_m_newLetter f_m_newSum f_m_newFrom f_m_newTo f_m_newCode f_m_newArg f_m_stack f_m_worth f_m_isRefused f_m_least f_m_packPounds f_m_packOwner f_m_room f_m_givenTo f_m_canBe f_m_setPounds f_m_plainTime f_m_muleTime f_m_planTo f_m_march f_m_tired f_m_ranMinutes f_m_tiredAhead f_m_isReached f_m_toEnd f_m_upTo f_m_upNext f_m_byChanges f_m_bandPaces H.size l_4 i hr_m_loadWeight hr_m_food (by omega) (by omega)) (gi_V lwd_746 lwd_747 lwd_748 lwd_5 lwd_749) ⟨rfl, hd_X10_poundsOf⟩ ⟨Nat.le_of_ble_eq_true rfl, Nat.le_of_ble_eq_true rfl⟩ rfl (Nat.le_of_ble_eq_true rfl) dX10_allPounds_16) (fun r_8 u_7 H locs hw hP hD hS => ?_)
        try dsimp only at hw hP hD
        obtain ⟨p_9, p_10⟩ := hw
        refine lv_iadd hx hb dX10_allPounds_19 ?_
        refine lv_topi (fun n_11 en_11 => ?_)
        refine lv_istore_n (lv' := [(2, .int n_11), (3, .int l_4), (0, .ref (hm 0)), (1, .int i)]) hx hb dX10_allPounds_20 rfl hl (by decide) rfl (fun ls hl => ?_)
        obtain ⟨n_12, en_12⟩ : ∃ y : Int32, y = l_4 + 1 := ⟨_, rfl⟩
        have tn_12 : n_12.toInt = l_4.toInt + 1 := i_add en_12 (rfl : l_4.toInt = l_4.toInt) (by decide : (1 : Int32).toInt = 1) (by omega) (by omega)
        refine lv_iinc (v := n_12) (lv' := [(3, .int n_12), (2, .int n_11), (0, .ref (hm 0)), (1, .int i)]) hx hb dX10_allPounds_21 hl (k := 1) rfl (by rw [en_12]; rfl) (by decide) rfl (fun ls hl => ?_)
        refine lv_goto (tgt := 4) hx hb dX10_allPounds_24 (by decide) ?_
        exact ih4_5 n_11 n_12 (by omega) (by omega) _ _ _ hP hD hS (lv_sub hl [0, 1, 2, 3] rfl)
  have k_13 : (0 : Int32).toInt = 0 := by decide
  have k_14 : (0 : Int32).toInt = 0 := by decide
  exact L4_5 8589934592 0 0 (by omega) (by omega) _ _ _ hP hD hS (lv_sub hl [0, 1, 2, 3] rfl)
set_option maxHeartbeats 16000000 in
set_option maxRecDepth 100000 in
theorem c_X10_isTiredness (l : Launch) (D : va_G) (cy : Nat → ClassId) (hm : Nat → Nat) (v_taped v_walkers v_loads v_pieces v_changeCosts v_planned v_isMarch v_clauseMany v_place v_end v_bad v_clauses v_codes v_open v_stacked v_isOver v_isBehind v_atW v_atL v_atT v_atH v_atM v_atI v_atQ v_packing v_packed v_goPace v_goMinutes v_spentAt v_ranChanges : Int32) (f_m_tape f_m_knee f_m_weight f_m_isLame f_m_loadWeight f_m_owner f_m_food f_m_miles f_m_slope f_m_clauseLetter f_m_sumFrom f_m_codeFrom f_m_codeTo f_m_code f_m_codeArg f_m_newLetter f_m_newSum f_m_newFrom f_m_newTo f_m_newCode f_m_newArg f_m_stack f_m_worth f_m_isRefused f_m_least f_m_packPounds f_m_packOwner f_m_room f_m_givenTo f_m_canBe f_m_setPounds f_m_plainTime f_m_muleTime f_m_planTo f_m_march f_m_tired f_m_ranMinutes f_m_tiredAhead f_m_isReached f_m_toEnd f_m_upTo f_m_upNext f_m_byChanges f_m_bandPaces : Nat → Int32) (sz : Nat) (k : Int32) : gMi l yX10_isTiredness cX10_isTiredness 1 .boolean 2 [.int k] D cy (wMD cy hm v_taped v_walkers v_loads v_pieces v_changeCosts v_planned v_isMarch v_clauseMany v_place v_end v_bad v_clauses v_codes v_open v_stacked v_isOver v_isBehind v_atW v_atL v_atT v_atH v_atM v_atI v_atQ v_packing v_packed v_goPace v_goMinutes v_spentAt v_ranChanges f_m_tape f_m_knee f_m_weight f_m_isLame f_m_loadWeight f_m_owner f_m_food f_m_miles f_m_slope f_m_clauseLetter f_m_sumFrom f_m_codeFrom f_m_codeTo f_m_code f_m_codeArg f_m_newLetter f_m_newSum f_m_newFrom f_m_newTo f_m_newCode f_m_newArg f_m_stack f_m_worth f_m_isRefused f_m_least f_m_packPounds f_m_packOwner f_m_room f_m_givenTo f_m_canBe f_m_setPounds f_m_plainTime f_m_muleTime f_m_planTo f_m_march f_m_tired f_m_ranMinutes f_m_tiredAhead f_m_isReached f_m_toEnd f_m_upTo f_m_upNext f_m_byChanges f_m_bandPaces) NT sz (fun (r : Int32) (u : Unit) => (0 ≤ r.toInt ∧ r.toInt ≤ 1) ∧ ((r.toInt = 1 ∧ 0 ≤ k.toInt ∧ k.toInt < 46656) ∨ (r.toInt = 0 ∧ ¬ (0 ≤ k.toInt ∧ k.toInt < 46656)))) (fun u => wMD cy hm v_taped v_walkers v_loads v_pieces v_changeCosts v_planned v_isMarch v_clauseMany v_place v_end v_bad v_clauses v_codes v_open v_stacked v_isOver v_isBehind v_atW v_atL v_atT v_atH v_atM v_atI v_atQ v_packing v_packed v_goPace v_goMinutes v_spentAt v_ranChanges f_m_tape f_m_knee f_m_weight f_m_isLame f_m_loadWeight f_m_owner f_m_food f_m_miles f_m_slope f_m_clauseLetter f_m_sumFrom f_m_codeFrom f_m_codeTo f_m_code f_m_codeArg f_m_newLetter f_m_newSum f_m_newFrom f_m_newTo f_m_newCode f_m_newArg f_m_stack f_m_worth f_m_isRefused f_m_least f_m_packPounds f_m_packOwner f_m_room f_m_givenTo f_m_canBe f_m_setPounds f_m_plainTime f_m_muleTime f_m_planTo f_m_march f_m_tired f_m_ranMinutes f_m_tiredAhead f_m_isReached f_m_toEnd f_m_upTo f_m_upNext f_m_byChanges f_m_bandPaces) := by
  refine gMi_in (by decide) (Nat.le_of_ble_eq_true rfl) ?_
  intro p e s m args below meth c A ls Q hx hb hml hts hown hsz hP hK hD hN hAe hA hS hl hret
  subst hsz
  have hl : lv_has ls 1 [(0, .int k)] := hl
  have hrt := fun (r : Int32)  (hp : (0 ≤ r.toInt ∧ r.toInt ≤ 1) ∧ ((r.toInt = 1 ∧ 0 ≤ k.toInt ∧ k.toInt < 46656) ∨ (r.toInt = 0 ∧ ¬ (0 ≤ k.toInt ∧ k.toInt < 46656)))) {H : Heap} {locs : List Loc} {pc : Nat} {ls : Array Slot} => hret r () (H := H) (locs := locs) (pc := pc) (ls := ls) hp
  clear hret
  refine lv_iload_n hx hb dX10_isTiredness_0 rfl (lv_at hl 0 rfl) ?_
  refine lv_i2l (v := k.toInt64) hx hb dX10_isTiredness_1 rfl ?_
  have hl_1 : k.toInt64.toInt = k.toInt := i_l (rfl : k.toInt = k.toInt)
  refine lv_lconst (v := 0) hx hb dX10_isTiredness_2 (by decide) ?_
  refine lv_ldc2 hx hb hown (hts _ lwd_652) dX10_isTiredness_3 ?_
  have k_2 : (0 : Int64).toInt = 0 := by decide
  have k_3 : (46655 : Int64).toInt = 46655 := by decide
  refine xi hD hS hA (xS (As := [.long k.toInt64, .long 0, .long 46655]) (rest := []) hx hb hml hown hts hK hP hD hS hA NT_ok hN hAe hl.1 ⟨Nat.le_refl _, Nat.le_refl _⟩ (c_X10_lies l D cy hm v_taped v_walkers v_loads v_pieces v_changeCosts v_planned v_isMarch v_clauseMany v_place v_end v_bad v_clauses v_codes v_open v_stacked v_isOver v_isBehind v_atW v_atL v_atT v_atH v_atM v_atI v_atQ v_packing v_packed v_goPace v_goMinutes v_spentAt v_ranChanges f_m_tape f_m_knee f_m_weight f_m_isLame f_m_loadWeight f_m_owner f_m_food f_m_miles f_m_slope f_m_clauseLetter f_m_sumFrom f_m_codeFrom f_m_codeTo f_m_code f_m_codeArg f_m_newLetter f_m_newSum f_m_newFrom f_m_newTo f_m_newCode f_m_newArg f_m_stack f_m_worth f_m_isRefused f_m_least f_m_packPounds f_m_packOwner f_m_room f_m_givenTo f_m_canBe f_m_setPounds f_m_plainTime f_m_muleTime f_m_planTo f_m_march f_m_tired f_m_ranMinutes f_m_tiredAhead f_m_isReached f_m_toEnd f_m_upTo f_m_upNext f_m_byChanges f_m_bandPaces s.heap.size k.toInt64 0 46655) (gi_S lwd_226 lwd_227 lwd_5 lwd_228) hd_X10_lies ⟨Nat.le_of_ble_eq_true rfl, Nat.le_of_ble_eq_true rfl⟩ rfl (Nat.le_of_ble_eq_true rfl) dX10_isTiredness_6) (fun r_5 u_4 H locs hw hP hD hS => ?_)
  try dsimp only at hw hP hD
  obtain ⟨p_6, p_7⟩ := hw
  exact hrt r_5  ⟨(by omega), (by omega)⟩ hP hD hS (nar_b (i_01' (by omega))) dX10_isTiredness_9
set_option maxHeartbeats 16000000 in
set_option maxRecDepth 100000 in
theorem c_X10_minutesOf (l : Launch) (D : va_G) (cy : Nat → ClassId) (hm : Nat → Nat) (v_taped v_walkers v_loads v_pieces v_changeCosts v_planned v_isMarch v_clauseMany v_place v_end v_bad v_clauses v_codes v_open v_stacked v_isOver v_isBehind v_atW v_atL v_atT v_atH v_atM v_atI v_atQ v_packing v_packed v_goPace v_goMinutes v_spentAt v_ranChanges : Int32) (f_m_tape f_m_knee f_m_weight f_m_isLame f_m_loadWeight f_m_owner f_m_food f_m_miles f_m_slope f_m_clauseLetter f_m_sumFrom f_m_codeFrom f_m_codeTo f_m_code f_m_codeArg f_m_newLetter f_m_newSum f_m_newFrom f_m_newTo f_m_newCode f_m_newArg f_m_stack f_m_worth f_m_isRefused f_m_least f_m_packPounds f_m_packOwner f_m_room f_m_givenTo f_m_canBe f_m_setPounds f_m_plainTime f_m_muleTime f_m_planTo f_m_march f_m_tired f_m_ranMinutes f_m_tiredAhead f_m_isReached f_m_toEnd f_m_upTo f_m_upNext f_m_byChanges f_m_bandPaces : Nat → Int32) (sz : Nat) (i : Int32) (q : Int32) (hr_m_miles : rg (0) 20 f_m_miles) (ha_i : 0 ≤ i.toInt ∧ i.toInt ≤ 9) (hq : q.toInt ≠ 0) : gMi l yX10_minutesOf cX10_minutesOf 3 .int 1 [.ref (hm 0), .int i, .int q] D cy (wMD cy hm v_taped v_walkers v_loads v_pieces v_changeCosts v_planned v_isMarch v_clauseMany v_place v_end v_bad v_clauses v_codes v_open v_stacked v_isOver v_isBehind v_atW v_atL v_atT v_atH v_atM v_atI v_atQ v_packing v_packed v_goPace v_goMinutes v_spentAt v_ranChanges f_m_tape f_m_knee f_m_weight f_m_isLame f_m_loadWeight f_m_owner f_m_food f_m_miles f_m_slope f_m_clauseLetter f_m_sumFrom f_m_codeFrom f_m_codeTo f_m_code f_m_codeArg f_m_newLetter f_m_newSum f_m_newFrom f_m_newTo f_m_newCode f_m_newArg f_m_stack f_m_worth f_m_isRefused f_m_least f_m_packPounds f_m_packOwner f_m_room f_m_givenTo f_m_canBe f_m_setPounds f_m_plainTime f_m_muleTime f_m_planTo f_m_march f_m_tired f_m_ranMinutes f_m_tiredAhead f_m_isReached f_m_toEnd f_m_upTo f_m_upNext f_m_byChanges f_m_bandPaces) NT sz (fun (r : Int32) (u : Unit) => (r = ((600 * f_m_miles i.toNatClampNeg + q - 1) / q))) (fun u => wMD cy hm v_taped v_walkers v_loads v_pieces v_changeCosts v_planned v_isMarch v_clauseMany v_place v_end v_bad v_clauses v_codes v_open v_stacked v_isOver v_isBehind v_atW v_atL v_atT v_atH v_atM v_atI v_atQ v_packing v_packed v_goPace v_goMinutes v_spentAt v_ranChanges f_m_tape f_m_knee f_m_weight f_m_isLame f_m_loadWeight f_m_owner f_m_food f_m_miles f_m_slope f_m_clauseLetter f_m_sumFrom f_m_codeFrom f_m_codeTo f_m_code f_m_codeArg f_m_newLetter f_m_newSum f_m_newFrom f_m_newTo f_m_newCode f_m_newArg f_m_stack f_m_worth f_m_isRefused f_m_least f_m_packPounds f_m_packOwner f_m_room f_m_givenTo f_m_canBe f_m_setPounds f_m_plainTime f_m_muleTime f_m_planTo f_m_march f_m_tired f_m_ranMinutes f_m_tiredAhead f_m_isReached f_m_toEnd f_m_upTo f_m_upNext f_m_byChanges f_m_bandPaces) := by
  refine gMi_in (by decide) (Nat.le_of_ble_eq_true rfl) ?_
  intro p e s m args below meth c A ls Q hx hb hml hts hown hsz hP hK hD hN hAe hA hS hl hret
  subst hsz
  have hl : lv_has ls 3 [(0, .ref (hm 0)), (1, .int i), (2, .int q)] := hl
  have hrt := fun (r : Int32)  (hp : (r = ((600 * f_m_miles i.toNatClampNeg + q - 1) / q))) {H : Heap} {locs : List Loc} {pc : Nat} {ls : Array Slot} => hret r () (H := H) (locs := locs) (pc := pc) (ls := ls) hp
  clear hret
  refine lv_sipush (v := 600) hx hb dX10_minutesOf_0 (by decide) ?_
  refine lv_aload_n hx hb dX10_minutesOf_3 rfl (lv_at hl 0 rfl) ?_
  refine gt_MD_MD_miles hx hb hts hown hK hP lwd_163 dX10_minutesOf_4 ?_
  refine lv_iload_n hx hb dX10_minutesOf_7 rfl (lv_at hl 1 rfl) ?_
  refine al_m_miles hx hb hK hP hr_m_miles (i_in (rfl : i.toInt = i.toInt) (by omega) (by omega)) dX10_minutesOf_8 (fun n_1 en_1 bn_1 => ?_)
  refine lv_imul hx hb dX10_minutesOf_9 ?_
  refine lv_topi (fun n_2 en_2 => ?_)
  have tn_2 : n_2.toInt = 600 * n_1.toInt := i_mul en_2 (by decide : (600 : Int32).toInt = 600) (rfl : n_1.toInt = n_1.toInt) (by omega) (by omega)
  skip
  refine lv_iload_n hx hb dX10_minutesOf_10 rfl (lv_at hl 2 rfl) ?_
  refine lv_iadd hx hb dX10_minutesOf_11 ?_
  refine lv_topi (fun n_3 en_3 => ?_)
  skip
  refine lv_iconst (v := 1) hx hb dX10_minutesOf_12 (by decide) ?_
  refine lv_isub hx hb dX10_minutesOf_13 ?_
  refine lv_topi (fun n_4 en_4 => ?_)
  skip
  refine lv_iload_n hx hb dX10_minutesOf_14 rfl (lv_at hl 2 rfl) ?_
  refine lv_idiv hx hb dX10_minutesOf_15 (i_nz (rfl : q.toInt = q.toInt) (by omega)) ?_
  refine lv_topi (fun n_5 en_5 => ?_)
  exact hrt n_5  (by simp only [en_5, en_4, en_3, en_2, en_1]) hP hD hS rfl dX10_minutesOf_16
set_option maxHeartbeats 16000000 in
set_option maxRecDepth 100000 in
theorem c_X10_stateOf (l : Launch) (D : va_G) (cy : Nat → ClassId) (hm : Nat → Nat) (v_taped v_walkers v_loads v_pieces v_changeCosts v_planned v_isMarch v_clauseMany v_place v_end v_bad v_clauses v_codes v_open v_stacked v_isOver v_isBehind v_atW v_atL v_atT v_atH v_atM v_atI v_atQ v_packing v_packed v_goPace v_goMinutes v_spentAt v_ranChanges : Int32) (f_m_tape f_m_knee f_m_weight f_m_isLame f_m_loadWeight f_m_owner f_m_food f_m_miles f_m_slope f_m_clauseLetter f_m_sumFrom f_m_codeFrom f_m_codeTo f_m_code f_m_codeArg f_m_newLetter f_m_newSum f_m_newFrom f_m_newTo f_m_newCode f_m_newArg f_m_stack f_m_worth f_m_isRefused f_m_least f_m_packPounds f_m_packOwner f_m_room f_m_givenTo f_m_canBe f_m_setPounds f_m_plainTime f_m_muleTime f_m_planTo f_m_march f_m_tired f_m_ranMinutes f_m_tiredAhead f_m_isReached f_m_toEnd f_m_upTo f_m_upNext f_m_byChanges f_m_bandPaces : Nat → Int32) (sz : Nat) (i : Int32) (b : Int32) (t : Int32) (ha_i : 0 ≤ i.toInt ∧ i.toInt ≤ 10) (ha_b : 0 ≤ b.toInt ∧ b.toInt ≤ 6) (ha_t : 0 ≤ t.toInt ∧ t.toInt ≤ 1295) : gMi l yX10_stateOf cX10_stateOf 3 .int 1 [.int i, .int b, .int t] D cy (wMD cy hm v_taped v_walkers v_loads v_pieces v_changeCosts v_planned v_isMarch v_clauseMany v_place v_end v_bad v_clauses v_codes v_open v_stacked v_isOver v_isBehind v_atW v_atL v_atT v_atH v_atM v_atI v_atQ v_packing v_packed v_goPace v_goMinutes v_spentAt v_ranChanges f_m_tape f_m_knee f_m_weight f_m_isLame f_m_loadWeight f_m_owner f_m_food f_m_miles f_m_slope f_m_clauseLetter f_m_sumFrom f_m_codeFrom f_m_codeTo f_m_code f_m_codeArg f_m_newLetter f_m_newSum f_m_newFrom f_m_newTo f_m_newCode f_m_newArg f_m_stack f_m_worth f_m_isRefused f_m_least f_m_packPounds f_m_packOwner f_m_room f_m_givenTo f_m_canBe f_m_setPounds f_m_plainTime f_m_muleTime f_m_planTo f_m_march f_m_tired f_m_ranMinutes f_m_tiredAhead f_m_isReached f_m_toEnd f_m_upTo f_m_upNext f_m_byChanges f_m_bandPaces) NT sz (fun (r : Int32) (u : Unit) => (0 ≤ r.toInt ∧ r.toInt ≤ 99791) ∧ (r.toInt = (7 * i.toInt + b.toInt) * 1296 + t.toInt)) (fun u => wMD cy hm v_taped v_walkers v_loads v_pieces v_changeCosts v_planned v_isMarch v_clauseMany v_place v_end v_bad v_clauses v_codes v_open v_stacked v_isOver v_isBehind v_atW v_atL v_atT v_atH v_atM v_atI v_atQ v_packing v_packed v_goPace v_goMinutes v_spentAt v_ranChanges f_m_tape f_m_knee f_m_weight f_m_isLame f_m_loadWeight f_m_owner f_m_food f_m_miles f_m_slope f_m_clauseLetter f_m_sumFrom f_m_codeFrom f_m_codeTo f_m_code f_m_codeArg f_m_newLetter f_m_newSum f_m_newFrom f_m_newTo f_m_newCode f_m_newArg f_m_stack f_m_worth f_m_isRefused f_m_least f_m_packPounds f_m_packOwner f_m_room f_m_givenTo f_m_canBe f_m_setPounds f_m_plainTime f_m_muleTime f_m_planTo f_m_march f_m_tired f_m_ranMinutes f_m_tiredAhead f_m_isReached f_m_toEnd f_m_upTo f_m_upNext f_m_byChanges f_m_bandPaces) := by
  refine gMi_in (by decide) (Nat.le_of_ble_eq_true rfl) ?_
  intro p e s m args below meth c A ls Q hx hb hml hts hown hsz hP hK hD hN hAe hA hS hl hret
  subst hsz
  have hl : lv_has ls 3 [(0, .int i), (1, .int b), (2, .int t)] := hl
  have hrt := fun (r : Int32)  (hp : (0 ≤ r.toInt ∧ r.toInt ≤ 99791) ∧ (r.toInt = (7 * i.toInt + b.toInt) * 1296 + t.toInt)) {H : Heap} {locs : List Loc} {pc : Nat} {ls : Array Slot} => hret r () (H := H) (locs := locs) (pc := pc) (ls := ls) hp
  clear hret
  refine lv_bipush (v := 7) hx hb dX10_stateOf_0 (by decide) ?_
  refine lv_iload_n hx hb dX10_stateOf_2 rfl (lv_at hl 0 rfl) ?_
  refine lv_imul hx hb dX10_stateOf_3 ?_
  refine lv_topi (fun n_1 en_1 => ?_)
  have tn_1 : n_1.toInt = 7 * i.toInt := i_mul en_1 (by decide : (7 : Int32).toInt = 7) (rfl : i.toInt = i.toInt) (by omega) (by omega)
  refine lv_iload_n hx hb dX10_stateOf_4 rfl (lv_at hl 1 rfl) ?_
  refine lv_iadd hx hb dX10_stateOf_5 ?_
  refine lv_topi (fun n_2 en_2 => ?_)
  have tn_2 : n_2.toInt = (7 * i.toInt) + b.toInt := i_add en_2 tn_1 (rfl : b.toInt = b.toInt) (by omega) (by omega)
  refine lv_sipush (v := 1296) hx hb dX10_stateOf_6 (by decide) ?_
  refine lv_imul hx hb dX10_stateOf_9 ?_
  refine lv_topi (fun n_3 en_3 => ?_)
  have tn_3 : n_3.toInt = ((7 * i.toInt) + b.toInt) * 1296 := i_mul en_3 tn_2 (by decide : (1296 : Int32).toInt = 1296) (by omega) (by omega)
  refine lv_iload_n hx hb dX10_stateOf_10 rfl (lv_at hl 2 rfl) ?_
  refine lv_iadd hx hb dX10_stateOf_11 ?_
  refine lv_topi (fun n_4 en_4 => ?_)
  have tn_4 : n_4.toInt = (((7 * i.toInt) + b.toInt) * 1296) + t.toInt := i_add en_4 tn_3 (rfl : t.toInt = t.toInt) (by omega) (by omega)
  exact hrt n_4  ⟨(by omega), (by omega)⟩ hP hD hS rfl dX10_stateOf_12
set_option maxHeartbeats 16000000 in
set_option maxRecDepth 100000 in
theorem c_X10_cellOf (l : Launch) (D : va_G) (cy : Nat → ClassId) (hm : Nat → Nat) (v_taped v_walkers v_loads v_pieces v_changeCosts v_planned v_isMarch v_clauseMany v_place v_end v_bad v_clauses v_codes v_open v_stacked v_isOver v_isBehind v_atW v_atL v_atT v_atH v_atM v_atI v_atQ v_packing v_packed v_goPace v_goMinutes v_spentAt v_ranChanges : Int32) (f_m_tape f_m_knee f_m_weight f_m_isLame f_m_loadWeight f_m_owner f_m_food f_m_miles f_m_slope f_m_clauseLetter f_m_sumFrom f_m_codeFrom f_m_codeTo f_m_code f_m_codeArg f_m_newLetter f_m_newSum f_m_newFrom f_m_newTo f_m_newCode f_m_newArg f_m_stack f_m_worth f_m_isRefused f_m_least f_m_packPounds f_m_packOwner f_m_room f_m_givenTo f_m_canBe f_m_setPounds f_m_plainTime f_m_muleTime f_m_planTo f_m_march f_m_tired f_m_ranMinutes f_m_tiredAhead f_m_isReached f_m_toEnd f_m_upTo f_m_upNext f_m_byChanges f_m_bandPaces : Nat → Int32) (sz : Nat) (k : Int32) (t : Int32) (n : Int32) (ha_k : 0 ≤ k.toInt ∧ k.toInt ≤ 5) (ha_t : 0 ≤ t.toInt ∧ t.toInt ≤ 1295) (ha_n : 0 ≤ n.toInt ∧ n.toInt ≤ 9) : gMi l yX10_cellOf cX10_cellOf 3 .int 1 [.int k, .int t, .int n] D cy (wMD cy hm v_taped v_walkers v_loads v_pieces v_changeCosts v_planned v_isMarch v_clauseMany v_place v_end v_bad v_clauses v_codes v_open v_stacked v_isOver v_isBehind v_atW v_atL v_atT v_atH v_atM v_atI v_atQ v_packing v_packed v_goPace v_goMinutes v_spentAt v_ranChanges f_m_tape f_m_knee f_m_weight f_m_isLame f_m_loadWeight f_m_owner f_m_food f_m_miles f_m_slope f_m_clauseLetter f_m_sumFrom f_m_codeFrom f_m_codeTo f_m_code f_m_codeArg f_m_newLetter f_m_newSum f_m_newFrom f_m_newTo f_m_newCode f_m_newArg f_m_stack f_m_worth f_m_isRefused f_m_least f_m_packPounds f_m_packOwner f_m_room f_m_givenTo f_m_canBe f_m_setPounds f_m_plainTime f_m_muleTime f_m_planTo f_m_march f_m_tired f_m_ranMinutes f_m_tiredAhead f_m_isReached f_m_toEnd f_m_upTo f_m_upNext f_m_byChanges f_m_bandPaces) NT sz (fun (r : Int32) (u : Unit) => (0 ≤ r.toInt ∧ r.toInt ≤ 77759)) (fun u => wMD cy hm v_taped v_walkers v_loads v_pieces v_changeCosts v_planned v_isMarch v_clauseMany v_place v_end v_bad v_clauses v_codes v_open v_stacked v_isOver v_isBehind v_atW v_atL v_atT v_atH v_atM v_atI v_atQ v_packing v_packed v_goPace v_goMinutes v_spentAt v_ranChanges f_m_tape f_m_knee f_m_weight f_m_isLame f_m_loadWeight f_m_owner f_m_food f_m_miles f_m_slope f_m_clauseLetter f_m_sumFrom f_m_codeFrom f_m_codeTo f_m_code f_m_codeArg f_m_newLetter f_m_newSum f_m_newFrom f_m_newTo f_m_newCode f_m_newArg f_m_stack f_m_worth f_m_isRefused f_m_least f_m_packPounds f_m_packOwner f_m_room f_m_givenTo f_m_canBe f_m_setPounds f_m_plainTime f_m_muleTime f_m_planTo f_m_march f_m_tired f_m_ranMinutes f_m_tiredAhead f_m_isReached f_m_toEnd f_m_upTo f_m_upNext f_m_byChanges f_m_bandPaces) := by
  refine gMi_in (by decide) (Nat.le_of_ble_eq_true rfl) ?_
  intro p e s m args below meth c A ls Q hx hb hml hts hown hsz hP hK hD hN hAe hA hS hl hret
  subst hsz
  have hl : lv_has ls 3 [(0, .int k), (1, .int t), (2, .int n)] := hl
  have hrt := fun (r : Int32)  (hp : (0 ≤ r.toInt ∧ r.toInt ≤ 77759)) {H : Heap} {locs : List Loc} {pc : Nat} {ls : Array Slot} => hret r () (H := H) (locs := locs) (pc := pc) (ls := ls) hp
  clear hret
  refine lv_sipush (v := 1296) hx hb dX10_cellOf_0 (by decide) ?_
  refine lv_iload_n hx hb dX10_cellOf_3 rfl (lv_at hl 0 rfl) ?_
  refine lv_imul hx hb dX10_cellOf_4 ?_
  refine lv_topi (fun n_1 en_1 => ?_)
  have tn_1 : n_1.toInt = 1296 * k.toInt := i_mul en_1 (by decide : (1296 : Int32).toInt = 1296) (rfl : k.toInt = k.toInt) (by omega) (by omega)
  refine lv_iload_n hx hb dX10_cellOf_5 rfl (lv_at hl 1 rfl) ?_
  refine lv_iadd hx hb dX10_cellOf_6 ?_
  refine lv_topi (fun n_2 en_2 => ?_)
  have tn_2 : n_2.toInt = (1296 * k.toInt) + t.toInt := i_add en_2 tn_1 (rfl : t.toInt = t.toInt) (by omega) (by omega)
  refine lv_bipush (v := 10) hx hb dX10_cellOf_7 (by decide) ?_
  refine lv_imul hx hb dX10_cellOf_9 ?_
  refine lv_topi (fun n_3 en_3 => ?_)
  have tn_3 : n_3.toInt = ((1296 * k.toInt) + t.toInt) * 10 := i_mul en_3 tn_2 (by decide : (10 : Int32).toInt = 10) (by omega) (by omega)
  refine lv_iload_n hx hb dX10_cellOf_10 rfl (lv_at hl 2 rfl) ?_
  refine lv_iadd hx hb dX10_cellOf_11 ?_
  refine lv_topi (fun n_4 en_4 => ?_)
  have tn_4 : n_4.toInt = (((1296 * k.toInt) + t.toInt) * 10) + n.toInt := i_add en_4 tn_3 (rfl : n.toInt = n.toInt) (by omega) (by omega)
  exact hrt n_4  (by omega) hP hD hS rfl dX10_cellOf_12
set_option maxHeartbeats 16000000 in
set_option maxRecDepth 100000 in
theorem c_X10_everybody (l : Launch) (D : va_G) (cy : Nat → ClassId) (hm : Nat → Nat) (v_taped v_walkers v_loads v_pieces v_changeCosts v_planned v_isMarch v_clauseMany v_place v_end v_bad v_clauses v_codes v_open v_stacked v_isOver v_isBehind v_atW v_atL v_atT v_atH v_atM v_atI v_atQ v_packing v_packed v_goPace v_goMinutes v_spentAt v_ranChanges : Int32) (f_m_tape f_m_knee f_m_weight f_m_isLame f_m_loadWeight f_m_owner f_m_food f_m_miles f_m_slope f_m_clauseLetter f_m_sumFrom f_m_codeFrom f_m_codeTo f_m_code f_m_codeArg f_m_newLetter f_m_newSum f_m_newFrom f_m_newTo f_m_newCode f_m_newArg f_m_stack f_m_worth f_m_isRefused f_m_least f_m_packPounds f_m_packOwner f_m_room f_m_givenTo f_m_canBe f_m_setPounds f_m_plainTime f_m_muleTime f_m_planTo f_m_march f_m_tired f_m_ranMinutes f_m_tiredAhead f_m_isReached f_m_toEnd f_m_upTo f_m_upNext f_m_byChanges f_m_bandPaces : Nat → Int32) (sz : Nat) (hb_v_walkers : 0 ≤ v_walkers.toInt ∧ v_walkers.toInt ≤ 6) : gMi l yX10_everybody cX10_everybody 1 .int 1 [.ref (hm 0)] D cy (wMD cy hm v_taped v_walkers v_loads v_pieces v_changeCosts v_planned v_isMarch v_clauseMany v_place v_end v_bad v_clauses v_codes v_open v_stacked v_isOver v_isBehind v_atW v_atL v_atT v_atH v_atM v_atI v_atQ v_packing v_packed v_goPace v_goMinutes v_spentAt v_ranChanges f_m_tape f_m_knee f_m_weight f_m_isLame f_m_loadWeight f_m_owner f_m_food f_m_miles f_m_slope f_m_clauseLetter f_m_sumFrom f_m_codeFrom f_m_codeTo f_m_code f_m_codeArg f_m_newLetter f_m_newSum f_m_newFrom f_m_newTo f_m_newCode f_m_newArg f_m_stack f_m_worth f_m_isRefused f_m_least f_m_packPounds f_m_packOwner f_m_room f_m_givenTo f_m_canBe f_m_setPounds f_m_plainTime f_m_muleTime f_m_planTo f_m_march f_m_tired f_m_ranMinutes f_m_tiredAhead f_m_isReached f_m_toEnd f_m_upTo f_m_upNext f_m_byChanges f_m_bandPaces) NT sz (fun (r : Int32) (u : Unit) => True) (fun u => wMD cy hm v_taped v_walkers v_loads v_pieces v_changeCosts v_planned v_isMarch v_clauseMany v_place v_end v_bad v_clauses v_codes v_open v_stacked v_isOver v_isBehind v_atW v_atL v_atT v_atH v_atM v_atI v_atQ v_packing v_packed v_goPace v_goMinutes v_spentAt v_ranChanges f_m_tape f_m_knee f_m_weight f_m_isLame f_m_loadWeight f_m_owner f_m_food f_m_miles f_m_slope f_m_clauseLetter f_m_sumFrom f_m_codeFrom f_m_codeTo f_m_code f_m_codeArg f_m_newLetter f_m_newSum f_m_newFrom f_m_newTo f_m_newCode f_m_newArg f_m_stack f_m_worth f_m_isRefused f_m_least f_m_packPounds f_m_packOwner f_m_room f_m_givenTo f_m_canBe f_m_setPounds f_m_plainTime f_m_muleTime f_m_planTo f_m_march f_m_tired f_m_ranMinutes f_m_tiredAhead f_m_isReached f_m_toEnd f_m_upTo f_m_upNext f_m_byChanges f_m_bandPaces) := by
  refine gMi_in (by decide) (Nat.le_of_ble_eq_true rfl) ?_
  intro p e s m args below meth c A ls Q hx hb hml hts hown hsz hP hK hD hN hAe hA hS hl hret
  subst hsz
  have hl : lv_has ls 1 [(0, .ref (hm 0))] := hl
  have hrt := fun (r : Int32)   {H : Heap} {locs : List Loc} {pc : Nat} {ls : Array Slot} => hret r () (H := H) (locs := locs) (pc := pc) (ls := ls) trivial
  clear hret
  refine lv_iconst (v := 1) hx hb dX10_everybody_0 (by decide) ?_
  refine lv_aload_n hx hb dX10_everybody_1 rfl (lv_at hl 0 rfl) ?_
  refine gt_MD_MD_walkers hx hb hts hown hK hP lwd_221 dX10_everybody_2 ?_
  refine lv_ishl hx hb dX10_everybody_5 ?_
  refine lv_topi (fun n_1 en_1 => ?_)
  have bn_1 := (i_sh1 en_1 (rfl : v_walkers.toInt = v_walkers.toInt) (by omega)).2
  refine lv_iconst (v := 1) hx hb dX10_everybody_6 (by decide) ?_
  refine lv_isub hx hb dX10_everybody_7 ?_
  refine lv_topi (fun n_2 en_2 => ?_)
  have tn_2 : n_2.toInt = n_1.toInt - 1 := i_sub en_2 (rfl : n_1.toInt = n_1.toInt) (by decide : (1 : Int32).toInt = 1) (by omega) (by omega)
  exact hrt n_2   hP hD hS rfl dX10_everybody_8
set_option maxHeartbeats 16000000 in
set_option maxRecDepth 100000 in
theorem c_X10_canAsk (l : Launch) (D : va_G) (cy : Nat → ClassId) (hm : Nat → Nat) (v_taped v_walkers v_loads v_pieces v_changeCosts v_planned v_isMarch v_clauseMany v_place v_end v_bad v_clauses v_codes v_open v_stacked v_isOver v_isBehind v_atW v_atL v_atT v_atH v_atM v_atI v_atQ v_packing v_packed v_goPace v_goMinutes v_spentAt v_ranChanges : Int32) (f_m_tape f_m_knee f_m_weight f_m_isLame f_m_loadWeight f_m_owner f_m_food f_m_miles f_m_slope f_m_clauseLetter f_m_sumFrom f_m_codeFrom f_m_codeTo f_m_code f_m_codeArg f_m_newLetter f_m_newSum f_m_newFrom f_m_newTo f_m_newCode f_m_newArg f_m_stack f_m_worth f_m_isRefused f_m_least f_m_packPounds f_m_packOwner f_m_room f_m_givenTo f_m_canBe f_m_setPounds f_m_plainTime f_m_muleTime f_m_planTo f_m_march f_m_tired f_m_ranMinutes f_m_tiredAhead f_m_isReached f_m_toEnd f_m_upTo f_m_upNext f_m_byChanges f_m_bandPaces : Nat → Int32) (sz : Nat) (i : Int32) (all : Int32) (hb_v_walkers : 0 ≤ v_walkers.toInt ∧ v_walkers.toInt ≤ 6) (hb_v_pieces : 0 ≤ v_pieces.toInt ∧ v_pieces.toInt ≤ 10) : gMi l yX10_canAsk cX10_canAsk 3 .boolean 3 [.ref (hm 0), .int i, .int all] D cy (wMD cy hm v_taped v_walkers v_loads v_pieces v_changeCosts v_planned v_isMarch v_clauseMany v_place v_end v_bad v_clauses v_codes v_open v_stacked v_isOver v_isBehind v_atW v_atL v_atT v_atH v_atM v_atI v_atQ v_packing v_packed v_goPace v_goMinutes v_spentAt v_ranChanges f_m_tape f_m_knee f_m_weight f_m_isLame f_m_loadWeight f_m_owner f_m_food f_m_miles f_m_slope f_m_clauseLetter f_m_sumFrom f_m_codeFrom f_m_codeTo f_m_code f_m_codeArg f_m_newLetter f_m_newSum f_m_newFrom f_m_newTo f_m_newCode f_m_newArg f_m_stack f_m_worth f_m_isRefused f_m_least f_m_packPounds f_m_packOwner f_m_room f_m_givenTo f_m_canBe f_m_setPounds f_m_plainTime f_m_muleTime f_m_planTo f_m_march f_m_tired f_m_ranMinutes f_m_tiredAhead f_m_isReached f_m_toEnd f_m_upTo f_m_upNext f_m_byChanges f_m_bandPaces) NT sz (fun (r : Int32) (u : Unit) => (0 ≤ r.toInt ∧ r.toInt ≤ 1) ∧ ((r.toInt = 1 ∧ 0 < v_walkers.toInt ∧ 0 ≤ i.toInt ∧ i.toInt < v_pieces.toInt ∧ 0 ≤ all.toInt ∧ all.toInt < 46656) ∨ r.toInt = 0)) (fun u => wMD cy hm v_taped v_walkers v_loads v_pieces v_changeCosts v_planned v_isMarch v_clauseMany v_place v_end v_bad v_clauses v_codes v_open v_stacked v_isOver v_isBehind v_atW v_atL v_atT v_atH v_atM v_atI v_atQ v_packing v_packed v_goPace v_goMinutes v_spentAt v_ranChanges f_m_tape f_m_knee f_m_weight f_m_isLame f_m_loadWeight f_m_owner f_m_food f_m_miles f_m_slope f_m_clauseLetter f_m_sumFrom f_m_codeFrom f_m_codeTo f_m_code f_m_codeArg f_m_newLetter f_m_newSum f_m_newFrom f_m_newTo f_m_newCode f_m_newArg f_m_stack f_m_worth f_m_isRefused f_m_least f_m_packPounds f_m_packOwner f_m_room f_m_givenTo f_m_canBe f_m_setPounds f_m_plainTime f_m_muleTime f_m_planTo f_m_march f_m_tired f_m_ranMinutes f_m_tiredAhead f_m_isReached f_m_toEnd f_m_upTo f_m_upNext f_m_byChanges f_m_bandPaces) := by
  refine gMi_in (by decide) (Nat.le_of_ble_eq_true rfl) ?_
  intro p e s m args below meth c A ls Q hx hb hml hts hown hsz hP hK hD hN hAe hA hS hl hret
  subst hsz
  have hl : lv_has ls 3 [(0, .ref (hm 0)), (1, .int i), (2, .int all)] := hl
  have hrt := fun (r : Int32)  (hp : (0 ≤ r.toInt ∧ r.toInt ≤ 1) ∧ ((r.toInt = 1 ∧ 0 < v_walkers.toInt ∧ 0 ≤ i.toInt ∧ i.toInt < v_pieces.toInt ∧ 0 ≤ all.toInt ∧ all.toInt < 46656) ∨ r.toInt = 0)) {H : Heap} {locs : List Loc} {pc : Nat} {ls : Array Slot} => hret r () (H := H) (locs := locs) (pc := pc) (ls := ls) hp
  clear hret
  refine lv_aload_n hx hb dX10_canAsk_0 rfl (lv_at hl 0 rfl) ?_
  refine lv_iload_n hx hb dX10_canAsk_1 rfl (lv_at hl 1 rfl) ?_
  refine xi hD hS hA (xV (As := [.int i]) (rest := []) hx hb hml hown hts hK hP hD hS hA NT_ok hN hAe hl.1 ⟨Nat.le_refl _, Nat.le_refl _⟩ 0 rfl rfl rfl (c_X10_isPiece l D cy hm v_taped v_walkers v_loads v_pieces v_changeCosts v_planned v_isMarch v_clauseMany v_place v_end v_bad v_clauses v_codes v_open v_stacked v_isOver v_isBehind v_atW v_atL v_atT v_atH v_atM v_atI v_atQ v_packing v_packed v_goPace v_goMinutes v_spentAt v_ranChanges f_m_tape f_m_knee f_m_weight f_m_isLame f_m_loadWeight f_m_owner f_m_food f_m_miles f_m_slope f_m_clauseLetter f_m_sumFrom f_m_codeFrom f_m_codeTo f_m_code f_m_codeArg f_m_newLetter f_m_newSum f_m_newFrom f_m_newTo f_m_newCode f_m_newArg f_m_stack f_m_worth f_m_isRefused f_m_least f_m_packPounds f_m_packOwner f_m_room f_m_givenTo f_m_canBe f_m_setPounds f_m_plainTime f_m_muleTime f_m_planTo f_m_march f_m_tired f_m_ranMinutes f_m_tiredAhead f_m_isReached f_m_toEnd f_m_upTo f_m_upNext f_m_byChanges f_m_bandPaces s.heap.size i (by omega)) (gi_V lwd_549 lwd_550 lwd_551 lwd_5 lwd_552) ⟨rfl, hd_X10_isPiece⟩ ⟨Nat.le_of_ble_eq_true rfl, Nat.le_of_ble_eq_true rfl⟩ rfl (Nat.le_of_ble_eq_true rfl) dX10_canAsk_2) (fun r_2 u_1 H locs hw hP hD hS => ?_)
  try dsimp only at hw hP hD
  obtain ⟨p_3, p_4⟩ := hw
  refine lv_if_eq (tgt := 26) hx hb dX10_canAsk_5 (by decide) (fun c_5 => ?_) (fun c_5 => ?_)
  · have gc_5 : r_2.toInt = 0 := i_eq (rfl : r_2.toInt = r_2.toInt) (by decide : (0 : Int32).toInt = 0) c_5
    refine lv_iconst (v := 0) hx hb dX10_canAsk_26 (by decide) ?_
    have k_6 : (0 : Int32).toInt = 0 := by decide
    exact hrt 0  ⟨(by omega), (by omega)⟩ hP hD hS rfl dX10_canAsk_27
  · have gc_5 : r_2.toInt ≠ 0 := i_ne (rfl : r_2.toInt = r_2.toInt) (by decide : (0 : Int32).toInt = 0) c_5
    refine lv_iload_n hx hb dX10_canAsk_8 rfl (lv_at hl 2 rfl) ?_
    refine xi hD hS hA (xS (As := [.int all]) (rest := []) hx hb hml hown hts hK hP hD hS hA NT_ok hN hAe hl.1 ⟨Nat.le_refl _, Nat.le_refl _⟩ (c_X10_isTiredness l D cy hm v_taped v_walkers v_loads v_pieces v_changeCosts v_planned v_isMarch v_clauseMany v_place v_end v_bad v_clauses v_codes v_open v_stacked v_isOver v_isBehind v_atW v_atL v_atT v_atH v_atM v_atI v_atQ v_packing v_packed v_goPace v_goMinutes v_spentAt v_ranChanges f_m_tape f_m_knee f_m_weight f_m_isLame f_m_loadWeight f_m_owner f_m_food f_m_miles f_m_slope f_m_clauseLetter f_m_sumFrom f_m_codeFrom f_m_codeTo f_m_code f_m_codeArg f_m_newLetter f_m_newSum f_m_newFrom f_m_newTo f_m_newCode f_m_newArg f_m_stack f_m_worth f_m_isRefused f_m_least f_m_packPounds f_m_packOwner f_m_room f_m_givenTo f_m_canBe f_m_setPounds f_m_plainTime f_m_muleTime f_m_planTo f_m_march f_m_tired f_m_ranMinutes f_m_tiredAhead f_m_isReached f_m_toEnd f_m_upTo f_m_upNext f_m_byChanges f_m_bandPaces H.size all) (gi_S lwd_649 lwd_650 lwd_5 lwd_651) hd_X10_isTiredness ⟨Nat.le_of_ble_eq_true rfl, Nat.le_of_ble_eq_true rfl⟩ rfl (Nat.le_of_ble_eq_true rfl) dX10_canAsk_9) (fun r_8 u_7 H locs hw hP hD hS => ?_)
    try dsimp only at hw hP hD
    obtain ⟨p_9, p_10⟩ := hw
    refine lv_if_eq (tgt := 26) hx hb dX10_canAsk_12 (by decide) (fun c_11 => ?_) (fun c_11 => ?_)
    · have gc_11 : r_8.toInt = 0 := i_eq (rfl : r_8.toInt = r_8.toInt) (by decide : (0 : Int32).toInt = 0) c_11
      refine lv_iconst (v := 0) hx hb dX10_canAsk_26 (by decide) ?_
      have k_12 : (0 : Int32).toInt = 0 := by decide
      exact hrt 0  ⟨(by omega), (by omega)⟩ hP hD hS rfl dX10_canAsk_27
    · have gc_11 : r_8.toInt ≠ 0 := i_ne (rfl : r_8.toInt = r_8.toInt) (by decide : (0 : Int32).toInt = 0) c_11
      refine lv_aload_n hx hb dX10_canAsk_15 rfl (lv_at hl 0 rfl) ?_
      refine gt_MD_MD_walkers hx hb hts hown hK hP lwd_221 dX10_canAsk_16 ?_
      refine lv_if_le (tgt := 26) hx hb dX10_canAsk_19 (by decide) (fun c_13 => ?_) (fun c_13 => ?_)
      · have gc_13 : v_walkers.toInt ≤ 0 := i_le (rfl : v_walkers.toInt = v_walkers.toInt) (by decide : (0 : Int32).toInt = 0) c_13
        refine lv_iconst (v := 0) hx hb dX10_canAsk_26 (by decide) ?_
        have k_14 : (0 : Int32).toInt = 0 := by decide
        exact hrt 0  ⟨(by omega), (by omega)⟩ hP hD hS rfl dX10_canAsk_27
      · have gc_13 : 0 < v_walkers.toInt := i_nle (rfl : v_walkers.toInt = v_walkers.toInt) (by decide : (0 : Int32).toInt = 0) c_13
        refine lv_iconst (v := 1) hx hb dX10_canAsk_22 (by decide) ?_
        refine lv_goto (tgt := 27) hx hb dX10_canAsk_23 (by decide) ?_
        have k_15 : (1 : Int32).toInt = 1 := by decide
        exact hrt 1  ⟨(by omega), (by omega)⟩ hP hD hS rfl dX10_canAsk_27
set_option maxHeartbeats 16000000 in
set_option maxRecDepth 100000 in
theorem c_X10_tiredOf (l : Launch) (D : va_G) (cy : Nat → ClassId) (hm : Nat → Nat) (v_taped v_walkers v_loads v_pieces v_changeCosts v_planned v_isMarch v_clauseMany v_place v_end v_bad v_clauses v_codes v_open v_stacked v_isOver v_isBehind v_atW v_atL v_atT v_atH v_atM v_atI v_atQ v_packing v_packed v_goPace v_goMinutes v_spentAt v_ranChanges : Int32) (f_m_tape f_m_knee f_m_weight f_m_isLame f_m_loadWeight f_m_owner f_m_food f_m_miles f_m_slope f_m_clauseLetter f_m_sumFrom f_m_codeFrom f_m_codeTo f_m_code f_m_codeArg f_m_newLetter f_m_newSum f_m_newFrom f_m_newTo f_m_newCode f_m_newArg f_m_stack f_m_worth f_m_isRefused f_m_least f_m_packPounds f_m_packOwner f_m_room f_m_givenTo f_m_canBe f_m_setPounds f_m_plainTime f_m_muleTime f_m_planTo f_m_march f_m_tired f_m_ranMinutes f_m_tiredAhead f_m_isReached f_m_toEnd f_m_upTo f_m_upNext f_m_byChanges f_m_bandPaces : Nat → Int32) (sz : Nat) (all : Int32) (w : Int32) (ha_all : 0 ≤ all.toInt ∧ all.toInt ≤ 46655) (ha_w : 0 ≤ w.toInt ∧ w.toInt ≤ 5) : gMi l yX10_tiredOf cX10_tiredOf 4 .int 1 [.int all, .int w] D cy (wMD cy hm v_taped v_walkers v_loads v_pieces v_changeCosts v_planned v_isMarch v_clauseMany v_place v_end v_bad v_clauses v_codes v_open v_stacked v_isOver v_isBehind v_atW v_atL v_atT v_atH v_atM v_atI v_atQ v_packing v_packed v_goPace v_goMinutes v_spentAt v_ranChanges f_m_tape f_m_knee f_m_weight f_m_isLame f_m_loadWeight f_m_owner f_m_food f_m_miles f_m_slope f_m_clauseLetter f_m_sumFrom f_m_codeFrom f_m_codeTo f_m_code f_m_codeArg f_m_newLetter f_m_newSum f_m_newFrom f_m_newTo f_m_newCode f_m_newArg f_m_stack f_m_worth f_m_isRefused f_m_least f_m_packPounds f_m_packOwner f_m_room f_m_givenTo f_m_canBe f_m_setPounds f_m_plainTime f_m_muleTime f_m_planTo f_m_march f_m_tired f_m_ranMinutes f_m_tiredAhead f_m_isReached f_m_toEnd f_m_upTo f_m_upNext f_m_byChanges f_m_bandPaces) NT sz (fun (r : Int32) (u : Unit) => (0 ≤ r.toInt ∧ r.toInt ≤ 5)) (fun u => wMD cy hm v_taped v_walkers v_loads v_pieces v_changeCosts v_planned v_isMarch v_clauseMany v_place v_end v_bad v_clauses v_codes v_open v_stacked v_isOver v_isBehind v_atW v_atL v_atT v_atH v_atM v_atI v_atQ v_packing v_packed v_goPace v_goMinutes v_spentAt v_ranChanges f_m_tape f_m_knee f_m_weight f_m_isLame f_m_loadWeight f_m_owner f_m_food f_m_miles f_m_slope f_m_clauseLetter f_m_sumFrom f_m_codeFrom f_m_codeTo f_m_code f_m_codeArg f_m_newLetter f_m_newSum f_m_newFrom f_m_newTo f_m_newCode f_m_newArg f_m_stack f_m_worth f_m_isRefused f_m_least f_m_packPounds f_m_packOwner f_m_room f_m_givenTo f_m_canBe f_m_setPounds f_m_plainTime f_m_muleTime f_m_planTo f_m_march f_m_tired f_m_ranMinutes f_m_tiredAhead f_m_isReached f_m_toEnd f_m_upTo f_m_upNext f_m_byChanges f_m_bandPaces) := by
  refine gMi_in (by decide) (Nat.le_of_ble_eq_true rfl) ?_
  intro p e s m args below meth c A ls Q hx hb hml hts hown hsz hP hK hD hN hAe hA hS hl hret
  subst hsz
  have hl : lv_has ls 4 [(0, .int all), (1, .int w)] := hl
  have hrt := fun (r : Int32)  (hp : (0 ≤ r.toInt ∧ r.toInt ≤ 5)) {H : Heap} {locs : List Loc} {pc : Nat} {ls : Array Slot} => hret r () (H := H) (locs := locs) (pc := pc) (ls := ls) hp
  clear hret
  refine lv_iload_n hx hb dX10_tiredOf_0 rfl (lv_at hl 0 rfl) ?_
  refine lv_istore_n (lv' := [(2, .int all), (0, .int all), (1, .int w)]) hx hb dX10_tiredOf_1 rfl hl (by decide) rfl (fun ls hl => ?_)
  refine lv_iconst (v := 0) hx hb dX10_tiredOf_2 (by decide) ?_
  refine lv_istore_n (lv' := [(3, .int 0), (2, .int all), (0, .int all), (1, .int w)]) hx hb dX10_tiredOf_3 rfl hl (by decide) rfl (fun ls hl => ?_)
  have L4_5 : ∀ (n : Nat) (l_3 : Int32) (l_4 : Int32), (0 ≤ l_3.toInt ∧ l_3.toInt ≤ 46655) → (0 ≤ l_4.toInt ∧ l_4.toInt ≤ 5) → 6 - l_4.toInt < n → ∀ (H : Heap) (locs : List Loc) (ls : Array Slot), va_P D vwCl (wMD cy hm v_taped v_walkers v_loads v_pieces v_changeCosts v_planned v_isMarch v_clauseMany v_place v_end v_bad v_clauses v_codes v_open v_stacked v_isOver v_isBehind v_atW v_atL v_atT v_atH v_atM v_atI v_atQ v_packing v_packed v_goPace v_goMinutes v_spentAt v_ranChanges f_m_tape f_m_knee f_m_weight f_m_isLame f_m_loadWeight f_m_owner f_m_food f_m_miles f_m_slope f_m_clauseLetter f_m_sumFrom f_m_codeFrom f_m_codeTo f_m_code f_m_codeArg f_m_newLetter f_m_newSum f_m_newFrom f_m_newTo f_m_newCode f_m_newArg f_m_stack f_m_worth f_m_isRefused f_m_least f_m_packPounds f_m_packOwner f_m_room f_m_givenTo f_m_canBe f_m_setPounds f_m_plainTime f_m_muleTime f_m_planTo f_m_march f_m_tired f_m_ranMinutes f_m_tiredAhead f_m_isReached f_m_toEnd f_m_upTo f_m_upNext f_m_byChanges f_m_bandPaces) H → va_D A (wMD cy hm v_taped v_walkers v_loads v_pieces v_changeCosts v_planned v_isMarch v_clauseMany v_place v_end v_bad v_clauses v_codes v_open v_stacked v_isOver v_isBehind v_atW v_atL v_atT v_atH v_atM v_atI v_atQ v_packing v_packed v_goPace v_goMinutes v_spentAt v_ranChanges f_m_tape f_m_knee f_m_weight f_m_isLame f_m_loadWeight f_m_owner f_m_food f_m_miles f_m_slope f_m_clauseLetter f_m_sumFrom f_m_codeFrom f_m_codeTo f_m_code f_m_codeArg f_m_newLetter f_m_newSum f_m_newFrom f_m_newTo f_m_newCode f_m_newArg f_m_stack f_m_worth f_m_isRefused f_m_least f_m_packPounds f_m_packOwner f_m_room f_m_givenTo f_m_canBe f_m_setPounds f_m_plainTime f_m_muleTime f_m_planTo f_m_march f_m_tired f_m_ranMinutes f_m_tiredAhead f_m_isReached f_m_toEnd f_m_upTo f_m_upNext f_m_byChanges f_m_bandPaces) → va_S A s.heap H locs → lv_has ls 4 [(3, .int l_4), (2, .int l_3), (0, .int all), (1, .int w)] → W p l e (gRm 1) s m args below meth c H locs 0 0 Q (F0 m 4 ls []) := by
    intro n
    induction n with
    | zero => intro l_3 l_4 hL4_5_0 hL4_5_1 hm; exact absurd hm (by omega)
    | succ n ih4_5 =>
      intro l_3 l_4 hL4_5_0 hL4_5_1 hmL4_5 H locs ls hP hD hS hl
      refine lv_iload_n hx hb dX10_tiredOf_4 rfl (lv_at hl 0 rfl) ?_
      refine lv_iload_n hx hb dX10_tiredOf_5 rfl (lv_at hl 3 rfl) ?_
      refine lv_icmp_ge (tgt := 20) hx hb dX10_tiredOf_6 (by decide) (fun c_6 => ?_) (fun c_6 => ?_)
      · have gc_6 : w.toInt ≤ l_4.toInt := i_le (rfl : w.toInt = w.toInt) (rfl : l_4.toInt = l_4.toInt) c_6
        refine lv_iload_n hx hb dX10_tiredOf_20 rfl (lv_at hl 1 rfl) ?_
        refine lv_bipush (v := 6) hx hb dX10_tiredOf_21 (by decide) ?_
        refine lv_irem hx hb dX10_tiredOf_23 (by decide) ?_
        refine lv_topi (fun n_7 en_7 => ?_)
        have tn_7 : n_7.toInt = l_3.toInt % 6 := i_rem en_7 (rfl : l_3.toInt = l_3.toInt) (by decide : (6 : Int32).toInt = 6) (by omega) (by omega)
        exact hrt n_7  (by omega) hP hD hS rfl dX10_tiredOf_24
      · have gc_6 : l_4.toInt < w.toInt := i_nle (rfl : w.toInt = w.toInt) (rfl : l_4.toInt = l_4.toInt) c_6
        refine lv_iload_n hx hb dX10_tiredOf_9 rfl (lv_at hl 1 rfl) ?_
        refine lv_bipush (v := 6) hx hb dX10_tiredOf_10 (by decide) ?_
        refine lv_idiv hx hb dX10_tiredOf_12 (by decide) ?_
        refine lv_topi (fun n_8 en_8 => ?_)
        have tn_8 : n_8.toInt = l_3.toInt / 6 := i_div en_8 (rfl : l_3.toInt = l_3.toInt) (by decide : (6 : Int32).toInt = 6) (by omega) (by omega)
        refine lv_istore_n (lv' := [(2, .int n_8), (3, .int l_4), (0, .int all), (1, .int w)]) hx hb dX10_tiredOf_13 rfl hl (by decide) rfl (fun ls hl => ?_)
        obtain ⟨n_9, en_9⟩ : ∃ y : Int32, y = l_4 + 1 := ⟨_, rfl⟩
        have tn_9 : n_9.toInt = l_4.toInt + 1 := i_add en_9 (rfl : l_4.toInt = l_4.toInt) (by decide : (1 : Int32).toInt = 1) (by omega) (by omega)
        refine lv_iinc (v := n_9) (lv' := [(3, .int n_9), (2, .int n_8), (0, .int all), (1, .int w)]) hx hb dX10_tiredOf_14 hl (k := 1) rfl (by rw [en_9]; rfl) (by decide) rfl (fun ls hl => ?_)
        refine lv_goto (tgt := 4) hx hb dX10_tiredOf_17 (by decide) ?_
        exact ih4_5 n_8 n_9 (by omega) (by omega) (by omega) _ _ _ hP hD hS (lv_sub hl [0, 1, 2, 3] rfl)
  have k_10 : (0 : Int32).toInt = 0 := by decide
  exact L4_5 8589934592 all 0 (by omega) (by omega) (by omega) _ _ _ hP hD hS (lv_sub hl [0, 1, 2, 3] rfl)
set_option maxHeartbeats 16000000 in
set_option maxRecDepth 100000 in
theorem c_X10_walker (l : Launch) (D : va_G) (cy : Nat → ClassId) (hm : Nat → Nat) (v_taped v_walkers v_loads v_pieces v_changeCosts v_planned v_isMarch v_clauseMany v_place v_end v_bad v_clauses v_codes v_open v_stacked v_isOver v_isBehind v_atW v_atL v_atT v_atH v_atM v_atI v_atQ v_packing v_packed v_goPace v_goMinutes v_spentAt v_ranChanges : Int32) (f_m_tape f_m_knee f_m_weight f_m_isLame f_m_loadWeight f_m_owner f_m_food f_m_miles f_m_slope f_m_clauseLetter f_m_sumFrom f_m_codeFrom f_m_codeTo f_m_code f_m_codeArg f_m_newLetter f_m_newSum f_m_newFrom f_m_newTo f_m_newCode f_m_newArg f_m_stack f_m_worth f_m_isRefused f_m_least f_m_packPounds f_m_packOwner f_m_room f_m_givenTo f_m_canBe f_m_setPounds f_m_plainTime f_m_muleTime f_m_planTo f_m_march f_m_tired f_m_ranMinutes f_m_tiredAhead f_m_isReached f_m_toEnd f_m_upTo f_m_upNext f_m_byChanges f_m_bandPaces : Nat → Int32) (sz : Nat) (k : Int32) (b : Int32) (hb_v_walkers : 0 ≤ v_walkers.toInt ∧ v_walkers.toInt ≤ 6) (hb_v_isMarch : 0 ≤ v_isMarch.toInt ∧ v_isMarch.toInt ≤ 1) (hr_m_weight : rg (0) 250 f_m_weight) : gMi l yX10_walker cX10_walker 3 .int 2 [.ref (hm 0), .int k, .int b] D cy (wMD cy hm v_taped v_walkers v_loads v_pieces v_changeCosts v_planned v_isMarch v_clauseMany v_place v_end v_bad v_clauses v_codes v_open v_stacked v_isOver v_isBehind v_atW v_atL v_atT v_atH v_atM v_atI v_atQ v_packing v_packed v_goPace v_goMinutes v_spentAt v_ranChanges f_m_tape f_m_knee f_m_weight f_m_isLame f_m_loadWeight f_m_owner f_m_food f_m_miles f_m_slope f_m_clauseLetter f_m_sumFrom f_m_codeFrom f_m_codeTo f_m_code f_m_codeArg f_m_newLetter f_m_newSum f_m_newFrom f_m_newTo f_m_newCode f_m_newArg f_m_stack f_m_worth f_m_isRefused f_m_least f_m_packPounds f_m_packOwner f_m_room f_m_givenTo f_m_canBe f_m_setPounds f_m_plainTime f_m_muleTime f_m_planTo f_m_march f_m_tired f_m_ranMinutes f_m_tiredAhead f_m_isReached f_m_toEnd f_m_upTo f_m_upNext f_m_byChanges f_m_bandPaces) NT sz (fun (r : Int32) (u : Int32 × Int32 × (Nat → Int32) × (Nat → Int32)) => ((r.toInt = v_walkers.toInt ∧ v_walkers.toInt < 6 ∧ 0 ≤ k.toInt ∧ k.toInt ≤ 9 ∧ 20 ≤ b.toInt ∧ b.toInt ≤ 250 ∧ (u.1).toInt = v_walkers.toInt + 1 ∧ (u.2.1).toInt = 0) ∨ (r.toInt = -1 ∧ ¬ (v_walkers.toInt < 6 ∧ 0 ≤ k.toInt ∧ k.toInt ≤ 9 ∧ 20 ≤ b.toInt ∧ b.toInt ≤ 250) ∧ (u.1).toInt = v_walkers.toInt ∧ (u.2.1).toInt = v_isMarch.toInt)) ∧ (0 ≤ (u.1).toInt ∧ (u.1).toInt ≤ 6) ∧ (0 ≤ (u.2.1).toInt ∧ (u.2.1).toInt ≤ 1) ∧ (rg (0) 250 (u.2.2.2))) (fun u => wMD cy hm v_taped (u.1) v_loads v_pieces v_changeCosts v_planned (u.2.1) v_clauseMany v_place v_end v_bad v_clauses v_codes v_open v_stacked v_isOver v_isBehind v_atW v_atL v_atT v_atH v_atM v_atI v_atQ v_packing v_packed v_goPace v_goMinutes v_spentAt v_ranChanges f_m_tape (u.2.2.1) (u.2.2.2) f_m_isLame f_m_loadWeight f_m_owner f_m_food f_m_miles f_m_slope f_m_clauseLetter f_m_sumFrom f_m_codeFrom f_m_codeTo f_m_code f_m_codeArg f_m_newLetter f_m_newSum f_m_newFrom f_m_newTo f_m_newCode f_m_newArg f_m_stack f_m_worth f_m_isRefused f_m_least f_m_packPounds f_m_packOwner f_m_room f_m_givenTo f_m_canBe f_m_setPounds f_m_plainTime f_m_muleTime f_m_planTo f_m_march f_m_tired f_m_ranMinutes f_m_tiredAhead f_m_isReached f_m_toEnd f_m_upTo f_m_upNext f_m_byChanges f_m_bandPaces) := by
  refine gMi_in (by decide) (Nat.le_of_ble_eq_true rfl) ?_
  intro p e s m args below meth c A ls Q hx hb hml hts hown hsz hP hK hD hN hAe hA hS hl hret
  subst hsz
  have hl : lv_has ls 3 [(0, .ref (hm 0)), (1, .int k), (2, .int b)] := hl
  have hrt := fun (r : Int32) (v_walkers' : Int32) (v_isMarch' : Int32) (f_m_knee' : Nat → Int32) (f_m_weight' : Nat → Int32) (hp : ((r.toInt = v_walkers.toInt ∧ v_walkers.toInt < 6 ∧ 0 ≤ k.toInt ∧ k.toInt ≤ 9 ∧ 20 ≤ b.toInt ∧ b.toInt ≤ 250 ∧ v_walkers'.toInt = v_walkers.toInt + 1 ∧ v_isMarch'.toInt = 0) ∨ (r.toInt = -1 ∧ ¬ (v_walkers.toInt < 6 ∧ 0 ≤ k.toInt ∧ k.toInt ≤ 9 ∧ 20 ≤ b.toInt ∧ b.toInt ≤ 250) ∧ v_walkers'.toInt = v_walkers.toInt ∧ v_isMarch'.toInt = v_isMarch.toInt)) ∧ (0 ≤ v_walkers'.toInt ∧ v_walkers'.toInt ≤ 6) ∧ (0 ≤ v_isMarch'.toInt ∧ v_isMarch'.toInt ≤ 1) ∧ (rg (0) 250 f_m_weight')) {H : Heap} {locs : List Loc} {pc : Nat} {ls : Array Slot} => hret r (v_walkers', v_isMarch', f_m_knee', f_m_weight') (H := H) (locs := locs) (pc := pc) (ls := ls) hp
  clear hret
  refine lv_aload_n hx hb dX10_walker_0 rfl (lv_at hl 0 rfl) ?_
  refine gt_MD_MD_walkers hx hb hts hown hK hP lwd_221 dX10_walker_1 ?_
  refine lv_bipush (v := 6) hx hb dX10_walker_4 (by decide) ?_
  refine lv_icmp_eq (tgt := 35) hx hb dX10_walker_6 (by decide) (fun c_1 => ?_) (fun c_1 => ?_)
  · have gc_1 : v_walkers.toInt = 6 := i_eq (rfl : v_walkers.toInt = v_walkers.toInt) (by decide : (6 : Int32).toInt = 6) c_1
    refine lv_iconst (v := (-1)) hx hb dX10_walker_35 (by decide) ?_
    have k_2 : ((-1) : Int32).toInt = (-1) := by decide
    exact hrt (-1) v_walkers v_isMarch f_m_knee f_m_weight ⟨(by omega), (by omega), (by omega), hr_m_weight⟩ hP hD hS rfl dX10_walker_36
  · have gc_1 : v_walkers.toInt ≠ 6 := i_ne (rfl : v_walkers.toInt = v_walkers.toInt) (by decide : (6 : Int32).toInt = 6) c_1
    refine lv_iload_n hx hb dX10_walker_9 rfl (lv_at hl 1 rfl) ?_
    refine lv_i2l (v := k.toInt64) hx hb dX10_walker_10 rfl ?_
    have hl_3 : k.toInt64.toInt = k.toInt := i_l (rfl : k.toInt = k.toInt)
    refine lv_lconst (v := 0) hx hb dX10_walker_11 (by decide) ?_
    refine lv_ldc2 hx hb hown (hts _ lwd_222) dX10_walker_12 ?_
    have k_4 : (0 : Int64).toInt = 0 := by decide
    have k_5 : (9 : Int64).toInt = 9 := by decide
    refine xi hD hS hA (xS (As := [.long k.toInt64, .long 0, .long 9]) (rest := []) hx hb hml hown hts hK hP hD hS hA NT_ok hN hAe hl.1 ⟨Nat.le_refl _, Nat.le_refl _⟩ (c_X10_lies l D cy hm v_taped v_walkers v_loads v_pieces v_changeCosts v_planned v_isMarch v_clauseMany v_place v_end v_bad v_clauses v_codes v_open v_stacked v_isOver v_isBehind v_atW v_atL v_atT v_atH v_atM v_atI v_atQ v_packing v_packed v_goPace v_goMinutes v_spentAt v_ranChanges f_m_tape f_m_knee f_m_weight f_m_isLame f_m_loadWeight f_m_owner f_m_food f_m_miles f_m_slope f_m_clauseLetter f_m_sumFrom f_m_codeFrom f_m_codeTo f_m_code f_m_codeArg f_m_newLetter f_m_newSum f_m_newFrom f_m_newTo f_m_newCode f_m_newArg f_m_stack f_m_worth f_m_isRefused f_m_least f_m_packPounds f_m_packOwner f_m_room f_m_givenTo f_m_canBe f_m_setPounds f_m_plainTime f_m_muleTime f_m_planTo f_m_march f_m_tired f_m_ranMinutes f_m_tiredAhead f_m_isReached f_m_toEnd f_m_upTo f_m_upNext f_m_byChanges f_m_bandPaces s.heap.size k.toInt64 0 9) (gi_S lwd_226 lwd_227 lwd_5 lwd_228) hd_X10_lies ⟨Nat.le_of_ble_eq_true rfl, Nat.le_of_ble_eq_true rfl⟩ rfl (Nat.le_of_ble_eq_true rfl) dX10_walker_15) (fun r_7 u_6 H locs hw hP hD hS => ?_)
    try dsimp only at hw hP hD
    obtain ⟨p_8, p_9⟩ := hw
    refine lv_if_eq (tgt := 35) hx hb dX10_walker_18 (by decide) (fun c_10 => ?_) (fun c_10 => ?_)
    · have gc_10 : r_7.toInt = 0 := i_eq (rfl : r_7.toInt = r_7.toInt) (by decide : (0 : Int32).toInt = 0) c_10
      refine lv_iconst (v := (-1)) hx hb dX10_walker_35 (by decide) ?_
      have k_11 : ((-1) : Int32).toInt = (-1) := by decide
      exact hrt (-1) v_walkers v_isMarch f_m_knee f_m_weight ⟨(by omega), (by omega), (by omega), hr_m_weight⟩ hP hD hS rfl dX10_walker_36
    · have gc_10 : r_7.toInt ≠ 0 := i_ne (rfl : r_7.toInt = r_7.toInt) (by decide : (0 : Int32).toInt = 0) c_10
      refine lv_iload_n hx hb dX10_walker_21 rfl (lv_at hl 2 rfl) ?_
      refine lv_i2l (v := b.toInt64) hx hb dX10_walker_22 rfl ?_
      have hl_12 : b.toInt64.toInt = b.toInt := i_l (rfl : b.toInt = b.toInt)
      refine lv_ldc2 hx hb hown (hts _ lwd_223) dX10_walker_23 ?_
      refine lv_ldc2 hx hb hown (hts _ lwd_224) dX10_walker_26 ?_
      have k_13 : (20 : Int64).toInt = 20 := by decide
      have k_14 : (250 : Int64).toInt = 250 := by decide
      refine xi hD hS hA (xS (As := [.long b.toInt64, .long 20, .long 250]) (rest := []) hx hb hml hown hts hK hP hD hS hA NT_ok hN hAe hl.1 ⟨Nat.le_refl _, Nat.le_refl _⟩ (c_X10_lies l D cy hm v_taped v_walkers v_loads v_pieces v_changeCosts v_planned v_isMarch v_clauseMany v_place v_end v_bad v_clauses v_codes v_open v_stacked v_isOver v_isBehind v_atW v_atL v_atT v_atH v_atM v_atI v_atQ v_packing v_packed v_goPace v_goMinutes v_spentAt v_ranChanges f_m_tape f_m_knee f_m_weight f_m_isLame f_m_loadWeight f_m_owner f_m_food f_m_miles f_m_slope f_m_clauseLetter f_m_sumFrom f_m_codeFrom f_m_codeTo f_m_code f_m_codeArg f_m_newLetter f_m_newSum f_m_newFrom f_m_newTo f_m_newCode f_m_newArg f_m_stack f_m_worth f_m_isRefused f_m_least f_m_packPounds f_m_packOwner f_m_room f_m_givenTo f_m_canBe f_m_setPounds f_m_plainTime f_m_muleTime f_m_planTo f_m_march f_m_tired f_m_ranMinutes f_m_tiredAhead f_m_isReached f_m_toEnd f_m_upTo f_m_upNext f_m_byChanges f_m_bandPaces H.size b.toInt64 20 250) (gi_S lwd_226 lwd_227 lwd_5 lwd_228) hd_X10_lies ⟨Nat.le_of_ble_eq_true rfl, Nat.le_of_ble_eq_true rfl⟩ rfl (Nat.le_of_ble_eq_true rfl) dX10_walker_29) (fun r_16 u_15 H locs hw hP hD hS => ?_)
      try dsimp only at hw hP hD
      obtain ⟨p_17, p_18⟩ := hw
      refine lv_if_ne (tgt := 37) hx hb dX10_walker_32 (by decide) (fun c_19 => ?_) (fun c_19 => ?_)
      · have gc_19 : r_16.toInt ≠ 0 := i_ne (rfl : r_16.toInt = r_16.toInt) (by decide : (0 : Int32).toInt = 0) c_19
        refine lv_aload_n hx hb dX10_walker_37 rfl (lv_at hl 0 rfl) ?_
        refine gt_MD_MD_knee hx hb hts hown hK hP lwd_157 dX10_walker_38 ?_
        refine lv_aload_n hx hb dX10_walker_41 rfl (lv_at hl 0 rfl) ?_
        refine gt_MD_MD_walkers hx hb hts hown hK hP lwd_221 dX10_walker_42 ?_
        refine lv_iload_n hx hb dX10_walker_45 rfl (lv_at hl 1 rfl) ?_
        refine as_m_knee (x := k) hx hb hK hP hD hS (i_in (rfl : v_walkers.toInt = v_walkers.toInt) (by omega) (by omega)) dX10_walker_46 (fun f_20 ef_20 H locs hP hD hS => ?_)
        refine lv_aload_n hx hb dX10_walker_47 rfl (lv_at hl 0 rfl) ?_
        refine gt_MD_MD_weight hx hb hts hown hK hP lwd_158 dX10_walker_48 ?_
        refine lv_aload_n hx hb dX10_walker_51 rfl (lv_at hl 0 rfl) ?_
        refine gt_MD_MD_walkers hx hb hts hown hK hP lwd_221 dX10_walker_52 ?_
        refine lv_iload_n hx hb dX10_walker_55 rfl (lv_at hl 2 rfl) ?_
        refine as_m_weight (x := b) hx hb hK hP hD hS hr_m_weight (i_in (rfl : v_walkers.toInt = v_walkers.toInt) (by omega) (by omega)) (by omega) dX10_walker_56 (fun f_21 ef_21 rf_21 H locs hP hD hS => ?_)
        refine lv_aload_n hx hb dX10_walker_57 rfl (lv_at hl 0 rfl) ?_
        refine lv_dup hx hb dX10_walker_58 rfl ?_
        refine gt_MD_MD_walkers hx hb hts hown hK hP lwd_221 dX10_walker_59 ?_
        refine lv_iconst (v := 1) hx hb dX10_walker_62 (by decide) ?_
        refine lv_iadd hx hb dX10_walker_63 ?_
        refine lv_topi (fun n_22 en_22 => ?_)
        have tn_22 : n_22.toInt = v_walkers.toInt + 1 := i_add en_22 (rfl : v_walkers.toInt = v_walkers.toInt) (by decide : (1 : Int32).toInt = 1) (by omega) (by omega)
        refine pt_MD_MD_walkers (x := n_22) hx hb hts hown hK hP hD hS lwd_221 dX10_walker_64 (fun H locs hP hD hS => ?_)
        refine lv_aload_n hx hb dX10_walker_67 rfl (lv_at hl 0 rfl) ?_
        refine lv_iconst (v := 0) hx hb dX10_walker_68 (by decide) ?_
        refine pt_MD_MD_isMarch (x := 0) hx hb hts hown hK hP hD hS lwd_225 (by decide) dX10_walker_69 (fun H locs hP hD hS => ?_)
        refine lv_aload_n hx hb dX10_walker_72 rfl (lv_at hl 0 rfl) ?_
        refine gt_MD_MD_walkers hx hb hts hown hK hP lwd_221 dX10_walker_73 ?_
        refine lv_iconst (v := 1) hx hb dX10_walker_76 (by decide) ?_
        refine lv_isub hx hb dX10_walker_77 ?_
        refine lv_topi (fun n_23 en_23 => ?_)
        have tn_23 : n_23.toInt = (v_walkers.toInt + 1) - 1 := i_sub en_23 tn_22 (by decide : (1 : Int32).toInt = 1) (by omega) (by omega)
        have k_24 : (0 : Int32).toInt = 0 := by decide
        exact hrt n_23 n_22 0 f_20 f_21 ⟨(by omega), (by omega), (by omega), rf_21⟩ hP hD hS rfl dX10_walker_78
      · have gc_19 : r_16.toInt = 0 := i_eq (rfl : r_16.toInt = r_16.toInt) (by decide : (0 : Int32).toInt = 0) c_19
        refine lv_iconst (v := (-1)) hx hb dX10_walker_35 (by decide) ?_
        have k_25 : ((-1) : Int32).toInt = (-1) := by decide
        exact hrt (-1) v_walkers v_isMarch f_m_knee f_m_weight ⟨(by omega), (by omega), (by omega), hr_m_weight⟩ hP hD hS rfl dX10_walker_36
set_option maxHeartbeats 16000000 in
set_option maxRecDepth 100000 in
theorem c_X10_load (l : Launch) (D : va_G) (cy : Nat → ClassId) (hm : Nat → Nat) (v_taped v_walkers v_loads v_pieces v_changeCosts v_planned v_isMarch v_clauseMany v_place v_end v_bad v_clauses v_codes v_open v_stacked v_isOver v_isBehind v_atW v_atL v_atT v_atH v_atM v_atI v_atQ v_packing v_packed v_goPace v_goMinutes v_spentAt v_ranChanges : Int32) (f_m_tape f_m_knee f_m_weight f_m_isLame f_m_loadWeight f_m_owner f_m_food f_m_miles f_m_slope f_m_clauseLetter f_m_sumFrom f_m_codeFrom f_m_codeTo f_m_code f_m_codeArg f_m_newLetter f_m_newSum f_m_newFrom f_m_newTo f_m_newCode f_m_newArg f_m_stack f_m_worth f_m_isRefused f_m_least f_m_packPounds f_m_packOwner f_m_room f_m_givenTo f_m_canBe f_m_setPounds f_m_plainTime f_m_muleTime f_m_planTo f_m_march f_m_tired f_m_ranMinutes f_m_tiredAhead f_m_isReached f_m_toEnd f_m_upTo f_m_upNext f_m_byChanges f_m_bandPaces : Nat → Int32) (sz : Nat) (b : Int32) (o : Int32) (f : Int32) (hb_v_walkers : 0 ≤ v_walkers.toInt ∧ v_walkers.toInt ≤ 6) (hb_v_loads : 0 ≤ v_loads.toInt ∧ v_loads.toInt ≤ 9) (hb_v_isMarch : 0 ≤ v_isMarch.toInt ∧ v_isMarch.toInt ≤ 1) (hr_m_loadWeight : rg (0) 120 f_m_loadWeight) (hr_m_owner : rg (-1) 5 f_m_owner) (hr_m_food : rg (0) 20 f_m_food) : gMi l yX10_load cX10_load 4 .int 3 [.ref (hm 0), .int b, .int o, .int f] D cy (wMD cy hm v_taped v_walkers v_loads v_pieces v_changeCosts v_planned v_isMarch v_clauseMany v_place v_end v_bad v_clauses v_codes v_open v_stacked v_isOver v_isBehind v_atW v_atL v_atT v_atH v_atM v_atI v_atQ v_packing v_packed v_goPace v_goMinutes v_spentAt v_ranChanges f_m_tape f_m_knee f_m_weight f_m_isLame f_m_loadWeight f_m_owner f_m_food f_m_miles f_m_slope f_m_clauseLetter f_m_sumFrom f_m_codeFrom f_m_codeTo f_m_code f_m_codeArg f_m_newLetter f_m_newSum f_m_newFrom f_m_newTo f_m_newCode f_m_newArg f_m_stack f_m_worth f_m_isRefused f_m_least f_m_packPounds f_m_packOwner f_m_room f_m_givenTo f_m_canBe f_m_setPounds f_m_plainTime f_m_muleTime f_m_planTo f_m_march f_m_tired f_m_ranMinutes f_m_tiredAhead f_m_isReached f_m_toEnd f_m_upTo f_m_upNext f_m_byChanges f_m_bandPaces) NT sz (fun (r : Int32) (u : Int32 × Int32 × Int32 × (Nat → Int32) × (Nat → Int32) × (Nat → Int32)) => ((r.toInt = v_loads.toInt ∧ v_loads.toInt < 9 ∧ 1 ≤ b.toInt ∧ b.toInt ≤ 120 ∧ (o.toInt = -1 ∨ 0 ≤ o.toInt ∧ o.toInt < v_walkers.toInt) ∧ 0 ≤ f.toInt ∧ f.toInt ≤ 20 ∧ (u.1).toInt = v_loads.toInt + 1 ∧ (u.2.2.1).toInt = 0 ∧ (u.2.1).toInt = 0) ∨ (r.toInt = -1 ∧ ¬ (v_loads.toInt < 9 ∧ 1 ≤ b.toInt ∧ b.toInt ≤ 120 ∧ (o.toInt = -1 ∨ 0 ≤ o.toInt ∧ o.toInt < v_walkers.toInt) ∧ 0 ≤ f.toInt ∧ f.toInt ≤ 20) ∧ (u.1).toInt = v_loads.toInt ∧ (u.2.2.1).toInt = v_isMarch.toInt ∧ (u.2.1).toInt = v_planned.toInt)) ∧ ((r.toInt ≠ -1 → (u.2.2.2.2.1) = upd f_m_owner v_loads.toNatClampNeg o) ∧ (r.toInt = -1 → (u.2.2.2.2.1) = f_m_owner)) ∧ (0 ≤ (u.1).toInt ∧ (u.1).toInt ≤ 9) ∧ (0 ≤ (u.2.2.1).toInt ∧ (u.2.2.1).toInt ≤ 1) ∧ (rg (0) 120 (u.2.2.2.1)) ∧ (rg (-1) 5 (u.2.2.2.2.1)) ∧ (rg (0) 20 (u.2.2.2.2.2))) (fun u => wMD cy hm v_taped v_walkers (u.1) v_pieces v_changeCosts (u.2.1) (u.2.2.1) v_clauseMany v_place v_end v_bad v_clauses v_codes v_open v_stacked v_isOver v_isBehind v_atW v_atL v_atT v_atH v_atM v_atI v_atQ v_packing v_packed v_goPace v_goMinutes v_spentAt v_ranChanges f_m_tape f_m_knee f_m_weight f_m_isLame (u.2.2.2.1) (u.2.2.2.2.1) (u.2.2.2.2.2) f_m_miles f_m_slope f_m_clauseLetter f_m_sumFrom f_m_codeFrom f_m_codeTo f_m_code f_m_codeArg f_m_newLetter f_m_newSum f_m_newFrom f_m_newTo f_m_newCode f_m_newArg f_m_stack f_m_worth f_m_isRefused f_m_least f_m_packPounds f_m_packOwner f_m_room f_m_givenTo f_m_canBe f_m_setPounds f_m_plainTime f_m_muleTime f_m_planTo f_m_march f_m_tired f_m_ranMinutes f_m_tiredAhead f_m_isReached f_m_toEnd f_m_upTo f_m_upNext f_m_byChanges f_m_bandPaces) := by
  refine gMi_in (by decide) (Nat.le_of_ble_eq_true rfl) ?_
  intro p e s m args below meth c A ls Q hx hb hml hts hown hsz hP hK hD hN hAe hA hS hl hret
  subst hsz
  have hl : lv_has ls 4 [(0, .ref (hm 0)), (1, .int b), (2, .int o), (3, .int f)] := hl
  have hrt := fun (r : Int32) (v_loads' : Int32) (v_planned' : Int32) (v_isMarch' : Int32) (f_m_loadWeight' : Nat → Int32) (f_m_owner' : Nat → Int32) (f_m_food' : Nat → Int32) (hp : ((r.toInt = v_loads.toInt ∧ v_loads.toInt < 9 ∧ 1 ≤ b.toInt ∧ b.toInt ≤ 120 ∧ (o.toInt = -1 ∨ 0 ≤ o.toInt ∧ o.toInt < v_walkers.toInt) ∧ 0 ≤ f.toInt ∧ f.toInt ≤ 20 ∧ v_loads'.toInt = v_loads.toInt + 1 ∧ v_isMarch'.toInt = 0 ∧ v_planned'.toInt = 0) ∨ (r.toInt = -1 ∧ ¬ (v_loads.toInt < 9 ∧ 1 ≤ b.toInt ∧ b.toInt ≤ 120 ∧ (o.toInt = -1 ∨ 0 ≤ o.toInt ∧ o.toInt < v_walkers.toInt) ∧ 0 ≤ f.toInt ∧ f.toInt ≤ 20) ∧ v_loads'.toInt = v_loads.toInt ∧ v_isMarch'.toInt = v_isMarch.toInt ∧ v_planned'.toInt = v_planned.toInt)) ∧ ((r.toInt ≠ -1 → f_m_owner' = upd f_m_owner v_loads.toNatClampNeg o) ∧ (r.toInt = -1 → f_m_owner' = f_m_owner)) ∧ (0 ≤ v_loads'.toInt ∧ v_loads'.toInt ≤ 9) ∧ (0 ≤ v_isMarch'.toInt ∧ v_isMarch'.toInt ≤ 1) ∧ (rg (0) 120 f_m_loadWeight') ∧ (rg (-1) 5 f_m_owner') ∧ (rg (0) 20 f_m_food')) {H : Heap} {locs : List Loc} {pc : Nat} {ls : Array Slot} => hret r (v_loads', v_planned', v_isMarch', f_m_loadWeight', f_m_owner', f_m_food') (H := H) (locs := locs) (pc := pc) (ls := ls) hp
  clear hret
  refine lv_aload_n hx hb dX10_load_0 rfl (lv_at hl 0 rfl) ?_
  refine gt_MD_MD_loads hx hb hts hown hK hP lwd_247 dX10_load_1 ?_
  refine lv_bipush (v := 9) hx hb dX10_load_4 (by decide) ?_
  refine lv_icmp_eq (tgt := 46) hx hb dX10_load_6 (by decide) (fun c_1 => ?_) (fun c_1 => ?_)
  · have gc_1 : v_loads.toInt = 9 := i_eq (rfl : v_loads.toInt = v_loads.toInt) (by decide : (9 : Int32).toInt = 9) c_1
    refine lv_iconst (v := (-1)) hx hb dX10_load_46 (by decide) ?_
    have k_2 : ((-1) : Int32).toInt = (-1) := by decide
    exact hrt (-1) v_loads v_planned v_isMarch f_m_loadWeight f_m_owner f_m_food ⟨(by omega), ⟨fun h => absurd h (by omega), fun _ => rfl⟩, (by omega), (by omega), hr_m_loadWeight, hr_m_owner, hr_m_food⟩ hP hD hS rfl dX10_load_47
  · have gc_1 : v_loads.toInt ≠ 9 := i_ne (rfl : v_loads.toInt = v_loads.toInt) (by decide : (9 : Int32).toInt = 9) c_1
    refine lv_iload_n hx hb dX10_load_9 rfl (lv_at hl 1 rfl) ?_
    refine lv_i2l (v := b.toInt64) hx hb dX10_load_10 rfl ?_
    have hl_3 : b.toInt64.toInt = b.toInt := i_l (rfl : b.toInt = b.toInt)
    refine lv_lconst (v := 1) hx hb dX10_load_11 (by decide) ?_
    refine lv_ldc2 hx hb hown (hts _ lwd_248) dX10_load_12 ?_
    have k_4 : (1 : Int64).toInt = 1 := by decide
    have k_5 : (120 : Int64).toInt = 120 := by decide
    refine xi hD hS hA (xS (As := [.long b.toInt64, .long 1, .long 120]) (rest := []) hx hb hml hown hts hK hP hD hS hA NT_ok hN hAe hl.1 ⟨Nat.le_refl _, Nat.le_refl _⟩ (c_X10_lies l D cy hm v_taped v_walkers v_loads v_pieces v_changeCosts v_planned v_isMarch v_clauseMany v_place v_end v_bad v_clauses v_codes v_open v_stacked v_isOver v_isBehind v_atW v_atL v_atT v_atH v_atM v_atI v_atQ v_packing v_packed v_goPace v_goMinutes v_spentAt v_ranChanges f_m_tape f_m_knee f_m_weight f_m_isLame f_m_loadWeight f_m_owner f_m_food f_m_miles f_m_slope f_m_clauseLetter f_m_sumFrom f_m_codeFrom f_m_codeTo f_m_code f_m_codeArg f_m_newLetter f_m_newSum f_m_newFrom f_m_newTo f_m_newCode f_m_newArg f_m_stack f_m_worth f_m_isRefused f_m_least f_m_packPounds f_m_packOwner f_m_room f_m_givenTo f_m_canBe f_m_setPounds f_m_plainTime f_m_muleTime f_m_planTo f_m_march f_m_tired f_m_ranMinutes f_m_tiredAhead f_m_isReached f_m_toEnd f_m_upTo f_m_upNext f_m_byChanges f_m_bandPaces s.heap.size b.toInt64 1 120) (gi_S lwd_226 lwd_227 lwd_5 lwd_228) hd_X10_lies ⟨Nat.le_of_ble_eq_true rfl, Nat.le_of_ble_eq_true rfl⟩ rfl (Nat.le_of_ble_eq_true rfl) dX10_load_15) (fun r_7 u_6 H locs hw hP hD hS => ?_)
    try dsimp only at hw hP hD
    obtain ⟨p_8, p_9⟩ := hw
    refine lv_if_eq (tgt := 46) hx hb dX10_load_18 (by decide) (fun c_10 => ?_) (fun c_10 => ?_)
    · have gc_10 : r_7.toInt = 0 := i_eq (rfl : r_7.toInt = r_7.toInt) (by decide : (0 : Int32).toInt = 0) c_10
      refine lv_iconst (v := (-1)) hx hb dX10_load_46 (by decide) ?_
      have k_11 : ((-1) : Int32).toInt = (-1) := by decide
      exact hrt (-1) v_loads v_planned v_isMarch f_m_loadWeight f_m_owner f_m_food ⟨(by omega), ⟨fun h => absurd h (by omega), fun _ => rfl⟩, (by omega), (by omega), hr_m_loadWeight, hr_m_owner, hr_m_food⟩ hP hD hS rfl dX10_load_47
    · have gc_10 : r_7.toInt ≠ 0 := i_ne (rfl : r_7.toInt = r_7.toInt) (by decide : (0 : Int32).toInt = 0) c_10
      refine lv_iload_n hx hb dX10_load_21 rfl (lv_at hl 2 rfl) ?_
      refine lv_iconst (v := (-1)) hx hb dX10_load_22 (by decide) ?_
      refine lv_icmp_eq (tgt := 34) hx hb dX10_load_23 (by decide) (fun c_12 => ?_) (fun c_12 => ?_)
      · have gc_12 : o.toInt = (-1) := i_eq (rfl : o.toInt = o.toInt) (by decide : ((-1) : Int32).toInt = (-1)) c_12
        refine lv_iload_n hx hb dX10_load_34 rfl (lv_at hl 3 rfl) ?_
        refine lv_i2l (v := f.toInt64) hx hb dX10_load_35 rfl ?_
        have hl_13 : f.toInt64.toInt = f.toInt := i_l (rfl : f.toInt = f.toInt)
        refine lv_lconst (v := 0) hx hb dX10_load_36 (by decide) ?_
        refine lv_ldc2 hx hb hown (hts _ lwd_223) dX10_load_37 ?_
        have k_14 : (0 : Int64).toInt = 0 := by decide
        have k_15 : (20 : Int64).toInt = 20 := by decide
        refine xi hD hS hA (xS (As := [.long f.toInt64, .long 0, .long 20]) (rest := []) hx hb hml hown hts hK hP hD hS hA NT_ok hN hAe hl.1 ⟨Nat.le_refl _, Nat.le_refl _⟩ (c_X10_lies l D cy hm v_taped v_walkers v_loads v_pieces v_changeCosts v_planned v_isMarch v_clauseMany v_place v_end v_bad v_clauses v_codes v_open v_stacked v_isOver v_isBehind v_atW v_atL v_atT v_atH v_atM v_atI v_atQ v_packing v_packed v_goPace v_goMinutes v_spentAt v_ranChanges f_m_tape f_m_knee f_m_weight f_m_isLame f_m_loadWeight f_m_owner f_m_food f_m_miles f_m_slope f_m_clauseLetter f_m_sumFrom f_m_codeFrom f_m_codeTo f_m_code f_m_codeArg f_m_newLetter f_m_newSum f_m_newFrom f_m_newTo f_m_newCode f_m_newArg f_m_stack f_m_worth f_m_isRefused f_m_least f_m_packPounds f_m_packOwner f_m_room f_m_givenTo f_m_canBe f_m_setPounds f_m_plainTime f_m_muleTime f_m_planTo f_m_march f_m_tired f_m_ranMinutes f_m_tiredAhead f_m_isReached f_m_toEnd f_m_upTo f_m_upNext f_m_byChanges f_m_bandPaces H.size f.toInt64 0 20) (gi_S lwd_226 lwd_227 lwd_5 lwd_228) hd_X10_lies ⟨Nat.le_of_ble_eq_true rfl, Nat.le_of_ble_eq_true rfl⟩ rfl (Nat.le_of_ble_eq_true rfl) dX10_load_40) (fun r_17 u_16 H locs hw hP hD hS => ?_)
        try dsimp only at hw hP hD
        obtain ⟨p_18, p_19⟩ := hw
        refine lv_if_ne (tgt := 48) hx hb dX10_load_43 (by decide) (fun c_20 => ?_) (fun c_20 => ?_)
        · have gc_20 : r_17.toInt ≠ 0 := i_ne (rfl : r_17.toInt = r_17.toInt) (by decide : (0 : Int32).toInt = 0) c_20
          refine lv_aload_n hx hb dX10_load_48 rfl (lv_at hl 0 rfl) ?_
          refine gt_MD_MD_loadWeight hx hb hts hown hK hP lwd_160 dX10_load_49 ?_
          refine lv_aload_n hx hb dX10_load_52 rfl (lv_at hl 0 rfl) ?_
          refine gt_MD_MD_loads hx hb hts hown hK hP lwd_247 dX10_load_53 ?_
          refine lv_iload_n hx hb dX10_load_56 rfl (lv_at hl 1 rfl) ?_
          refine as_m_loadWeight (x := b) hx hb hK hP hD hS hr_m_loadWeight (i_in (rfl : v_loads.toInt = v_loads.toInt) (by omega) (by omega)) (by omega) dX10_load_57 (fun f_21 ef_21 rf_21 H locs hP hD hS => ?_)
          refine lv_aload_n hx hb dX10_load_58 rfl (lv_at hl 0 rfl) ?_
          refine gt_MD_MD_owner hx hb hts hown hK hP lwd_161 dX10_load_59 ?_
          refine lv_aload_n hx hb dX10_load_62 rfl (lv_at hl 0 rfl) ?_
          refine gt_MD_MD_loads hx hb hts hown hK hP lwd_247 dX10_load_63 ?_
          refine lv_iload_n hx hb dX10_load_66 rfl (lv_at hl 2 rfl) ?_
          refine as_m_owner (x := o) hx hb hK hP hD hS hr_m_owner (i_in (rfl : v_loads.toInt = v_loads.toInt) (by omega) (by omega)) (by omega) dX10_load_67 (fun f_22 ef_22 rf_22 H locs hP hD hS => ?_)
          refine lv_aload_n hx hb dX10_load_68 rfl (lv_at hl 0 rfl) ?_
          refine gt_MD_MD_food hx hb hts hown hK hP lwd_162 dX10_load_69 ?_
          refine lv_aload_n hx hb dX10_load_72 rfl (lv_at hl 0 rfl) ?_
          refine gt_MD_MD_loads hx hb hts hown hK hP lwd_247 dX10_load_73 ?_
          refine lv_iload_n hx hb dX10_load_76 rfl (lv_at hl 3 rfl) ?_
          refine as_m_food (x := f) hx hb hK hP hD hS hr_m_food (i_in (rfl : v_loads.toInt = v_loads.toInt) (by omega) (by omega)) (by omega) dX10_load_77 (fun f_23 ef_23 rf_23 H locs hP hD hS => ?_)
          refine lv_aload_n hx hb dX10_load_78 rfl (lv_at hl 0 rfl) ?_
          refine lv_dup hx hb dX10_load_79 rfl ?_
          refine gt_MD_MD_loads hx hb hts hown hK hP lwd_247 dX10_load_80 ?_
          refine lv_iconst (v := 1) hx hb dX10_load_83 (by decide) ?_
          refine lv_iadd hx hb dX10_load_84 ?_
          refine lv_topi (fun n_24 en_24 => ?_)
          have tn_24 : n_24.toInt = v_loads.toInt + 1 := i_add en_24 (rfl : v_loads.toInt = v_loads.toInt) (by decide : (1 : Int32).toInt = 1) (by omega) (by omega)
          refine pt_MD_MD_loads (x := n_24) hx hb hts hown hK hP hD hS lwd_247 dX10_load_85 (fun H locs hP hD hS => ?_)
          refine lv_aload_n hx hb dX10_load_88 rfl (lv_at hl 0 rfl) ?_
          refine lv_iconst (v := 0) hx hb dX10_load_89 (by decide) ?_
          refine pt_MD_MD_planned (x := 0) hx hb hts hown hK hP hD hS lwd_249 dX10_load_90 (fun H locs hP hD hS => ?_)
          refine lv_aload_n hx hb dX10_load_93 rfl (lv_at hl 0 rfl) ?_
          refine lv_iconst (v := 0) hx hb dX10_load_94 (by decide) ?_
          refine pt_MD_MD_isMarch (x := 0) hx hb hts hown hK hP hD hS lwd_225 (by decide) dX10_load_95 (fun H locs hP hD hS => ?_)
          refine lv_aload_n hx hb dX10_load_98 rfl (lv_at hl 0 rfl) ?_
          refine gt_MD_MD_loads hx hb hts hown hK hP lwd_247 dX10_load_99 ?_
          refine lv_iconst (v := 1) hx hb dX10_load_102 (by decide) ?_
          refine lv_isub hx hb dX10_load_103 ?_
          refine lv_topi (fun n_25 en_25 => ?_)
          have tn_25 : n_25.toInt = (v_loads.toInt + 1) - 1 := i_sub en_25 tn_24 (by decide : (1 : Int32).toInt = 1) (by omega) (by omega)
          have k_26 : (0 : Int32).toInt = 0 := by decide
          have k_27 : (0 : Int32).toInt = 0 := by decide
          exact hrt n_25 n_24 0 0 f_21 f_22 f_23 ⟨(by omega), ⟨fun _ => ef_22, fun h => absurd h (by omega)⟩, (by omega), (by omega), rf_21, rf_22, rf_23⟩ hP hD hS rfl dX10_load_104
        · have gc_20 : r_17.toInt = 0 := i_eq (rfl : r_17.toInt = r_17.toInt) (by decide : (0 : Int32).toInt = 0) c_20
          refine lv_iconst (v := (-1)) hx hb dX10_load_46 (by decide) ?_
          have k_28 : ((-1) : Int32).toInt = (-1) := by decide
          exact hrt (-1) v_loads v_planned v_isMarch f_m_loadWeight f_m_owner f_m_food ⟨(by omega), ⟨fun h => absurd h (by omega), fun _ => rfl⟩, (by omega), (by omega), hr_m_loadWeight, hr_m_owner, hr_m_food⟩ hP hD hS rfl dX10_load_47
      · have gc_12 : o.toInt ≠ (-1) := i_ne (rfl : o.toInt = o.toInt) (by decide : ((-1) : Int32).toInt = (-1)) c_12
        refine lv_aload_n hx hb dX10_load_26 rfl (lv_at hl 0 rfl) ?_
        refine lv_iload_n hx hb dX10_load_27 rfl (lv_at hl 2 rfl) ?_
        refine xi hD hS hA (xV (As := [.int o]) (rest := []) hx hb hml hown hts hK hP hD hS hA NT_ok hN hAe hl.1 ⟨Nat.le_refl _, Nat.le_refl _⟩ 0 rfl rfl rfl (c_X10_isWalker l D cy hm v_taped v_walkers v_loads v_pieces v_changeCosts v_planned v_isMarch v_clauseMany v_place v_end v_bad v_clauses v_codes v_open v_stacked v_isOver v_isBehind v_atW v_atL v_atT v_atH v_atM v_atI v_atQ v_packing v_packed v_goPace v_goMinutes v_spentAt v_ranChanges f_m_tape f_m_knee f_m_weight f_m_isLame f_m_loadWeight f_m_owner f_m_food f_m_miles f_m_slope f_m_clauseLetter f_m_sumFrom f_m_codeFrom f_m_codeTo f_m_code f_m_codeArg f_m_newLetter f_m_newSum f_m_newFrom f_m_newTo f_m_newCode f_m_newArg f_m_stack f_m_worth f_m_isRefused f_m_least f_m_packPounds f_m_packOwner f_m_room f_m_givenTo f_m_canBe f_m_setPounds f_m_plainTime f_m_muleTime f_m_planTo f_m_march f_m_tired f_m_ranMinutes f_m_tiredAhead f_m_isReached f_m_toEnd f_m_upTo f_m_upNext f_m_byChanges f_m_bandPaces H.size o (by omega)) (gi_V lwd_250 lwd_251 lwd_252 lwd_5 lwd_253) ⟨rfl, hd_X10_isWalker⟩ ⟨Nat.le_of_ble_eq_true rfl, Nat.le_of_ble_eq_true rfl⟩ rfl (Nat.le_of_ble_eq_true rfl) dX10_load_28) (fun r_30 u_29 H locs hw hP hD hS => ?_)
        try dsimp only at hw hP hD
        obtain ⟨p_31, p_32⟩ := hw
        refine lv_if_eq (tgt := 46) hx hb dX10_load_31 (by decide) (fun c_33 => ?_) (fun c_33 => ?_)
        · have gc_33 : r_30.toInt = 0 := i_eq (rfl : r_30.toInt = r_30.toInt) (by decide : (0 : Int32).toInt = 0) c_33
          refine lv_iconst (v := (-1)) hx hb dX10_load_46 (by decide) ?_
          have k_34 : ((-1) : Int32).toInt = (-1) := by decide
          exact hrt (-1) v_loads v_planned v_isMarch f_m_loadWeight f_m_owner f_m_food ⟨(by omega), ⟨fun h => absurd h (by omega), fun _ => rfl⟩, (by omega), (by omega), hr_m_loadWeight, hr_m_owner, hr_m_food⟩ hP hD hS rfl dX10_load_47
        · have gc_33 : r_30.toInt ≠ 0 := i_ne (rfl : r_30.toInt = r_30.toInt) (by decide : (0 : Int32).toInt = 0) c_33
          refine lv_iload_n hx hb dX10_load_34 rfl (lv_at hl 3 rfl) ?_
          refine lv_i2l (v := f.toInt64) hx hb dX10_load_35 rfl ?_
          have hl_35 : f.toInt64.toInt = f.toInt := i_l (rfl : f.toInt = f.toInt)
          refine lv_lconst (v := 0) hx hb dX10_load_36 (by decide) ?_
          refine lv_ldc2 hx hb hown (hts _ lwd_223) dX10_load_37 ?_
          have k_36 : (0 : Int64).toInt = 0 := by decide
          have k_37 : (20 : Int64).toInt = 20 := by decide
          refine xi hD hS hA (xS (As := [.long f.toInt64, .long 0, .long 20]) (rest := []) hx hb hml hown hts hK hP hD hS hA NT_ok hN hAe hl.1 ⟨Nat.le_refl _, Nat.le_refl _⟩ (c_X10_lies l D cy hm v_taped v_walkers v_loads v_pieces v_changeCosts v_planned v_isMarch v_clauseMany v_place v_end v_bad v_clauses v_codes v_open v_stacked v_isOver v_isBehind v_atW v_atL v_atT v_atH v_atM v_atI v_atQ v_packing v_packed v_goPace v_goMinutes v_spentAt v_ranChanges f_m_tape f_m_knee f_m_weight f_m_isLame f_m_loadWeight f_m_owner f_m_food f_m_miles f_m_slope f_m_clauseLetter f_m_sumFrom f_m_codeFrom f_m_codeTo f_m_code f_m_codeArg f_m_newLetter f_m_newSum f_m_newFrom f_m_newTo f_m_newCode f_m_newArg f_m_stack f_m_worth f_m_isRefused f_m_least f_m_packPounds f_m_packOwner f_m_room f_m_givenTo f_m_canBe f_m_setPounds f_m_plainTime f_m_muleTime f_m_planTo f_m_march f_m_tired f_m_ranMinutes f_m_tiredAhead f_m_isReached f_m_toEnd f_m_upTo f_m_upNext f_m_byChanges f_m_bandPaces H.size f.toInt64 0 20) (gi_S lwd_226 lwd_227 lwd_5 lwd_228) hd_X10_lies ⟨Nat.le_of_ble_eq_true rfl, Nat.le_of_ble_eq_true rfl⟩ rfl (Nat.le_of_ble_eq_true rfl) dX10_load_40) (fun r_39 u_38 H locs hw hP hD hS => ?_)
          try dsimp only at hw hP hD
          obtain ⟨p_40, p_41⟩ := hw
          refine lv_if_ne (tgt := 48) hx hb dX10_load_43 (by decide) (fun c_42 => ?_) (fun c_42 => ?_)
          · have gc_42 : r_39.toInt ≠ 0 := i_ne (rfl : r_39.toInt = r_39.toInt) (by decide : (0 : Int32).toInt = 0) c_42
            refine lv_aload_n hx hb dX10_load_48 rfl (lv_at hl 0 rfl) ?_
            refine gt_MD_MD_loadWeight hx hb hts hown hK hP lwd_160 dX10_load_49 ?_
            refine lv_aload_n hx hb dX10_load_52 rfl (lv_at hl 0 rfl) ?_
            refine gt_MD_MD_loads hx hb hts hown hK hP lwd_247 dX10_load_53 ?_
            refine lv_iload_n hx hb dX10_load_56 rfl (lv_at hl 1 rfl) ?_
            refine as_m_loadWeight (x := b) hx hb hK hP hD hS hr_m_loadWeight (i_in (rfl : v_loads.toInt = v_loads.toInt) (by omega) (by omega)) (by omega) dX10_load_57 (fun f_43 ef_43 rf_43 H locs hP hD hS => ?_)
            refine lv_aload_n hx hb dX10_load_58 rfl (lv_at hl 0 rfl) ?_
            refine gt_MD_MD_owner hx hb hts hown hK hP lwd_161 dX10_load_59 ?_
            refine lv_aload_n hx hb dX10_load_62 rfl (lv_at hl 0 rfl) ?_
            refine gt_MD_MD_loads hx hb hts hown hK hP lwd_247 dX10_load_63 ?_
            refine lv_iload_n hx hb dX10_load_66 rfl (lv_at hl 2 rfl) ?_
            refine as_m_owner (x := o) hx hb hK hP hD hS hr_m_owner (i_in (rfl : v_loads.toInt = v_loads.toInt) (by omega) (by omega)) (by omega) dX10_load_67 (fun f_44 ef_44 rf_44 H locs hP hD hS => ?_)
            refine lv_aload_n hx hb dX10_load_68 rfl (lv_at hl 0 rfl) ?_
            refine gt_MD_MD_food hx hb hts hown hK hP lwd_162 dX10_load_69 ?_
            refine lv_aload_n hx hb dX10_load_72 rfl (lv_at hl 0 rfl) ?_
            refine gt_MD_MD_loads hx hb hts hown hK hP lwd_247 dX10_load_73 ?_
            refine lv_iload_n hx hb dX10_load_76 rfl (lv_at hl 3 rfl) ?_
            refine as_m_food (x := f) hx hb hK hP hD hS hr_m_food (i_in (rfl : v_loads.toInt = v_loads.toInt) (by omega) (by omega)) (by omega) dX10_load_77 (fun f_45 ef_45 rf_45 H locs hP hD hS => ?_)
            refine lv_aload_n hx hb dX10_load_78 rfl (lv_at hl 0 rfl) ?_
            refine lv_dup hx hb dX10_load_79 rfl ?_
            refine gt_MD_MD_loads hx hb hts hown hK hP lwd_247 dX10_load_80 ?_
            refine lv_iconst (v := 1) hx hb dX10_load_83 (by decide) ?_
            refine lv_iadd hx hb dX10_load_84 ?_
            refine lv_topi (fun n_46 en_46 => ?_)
            have tn_46 : n_46.toInt = v_loads.toInt + 1 := i_add en_46 (rfl : v_loads.toInt = v_loads.toInt) (by decide : (1 : Int32).toInt = 1) (by omega) (by omega)
            refine pt_MD_MD_loads (x := n_46) hx hb hts hown hK hP hD hS lwd_247 dX10_load_85 (fun H locs hP hD hS => ?_)
            refine lv_aload_n hx hb dX10_load_88 rfl (lv_at hl 0 rfl) ?_
            refine lv_iconst (v := 0) hx hb dX10_load_89 (by decide) ?_
            refine pt_MD_MD_planned (x := 0) hx hb hts hown hK hP hD hS lwd_249 dX10_load_90 (fun H locs hP hD hS => ?_)
            refine lv_aload_n hx hb dX10_load_93 rfl (lv_at hl 0 rfl) ?_
            refine lv_iconst (v := 0) hx hb dX10_load_94 (by decide) ?_
            refine pt_MD_MD_isMarch (x := 0) hx hb hts hown hK hP hD hS lwd_225 (by decide) dX10_load_95 (fun H locs hP hD hS => ?_)
            refine lv_aload_n hx hb dX10_load_98 rfl (lv_at hl 0 rfl) ?_
            refine gt_MD_MD_loads hx hb hts hown hK hP lwd_247 dX10_load_99 ?_
            refine lv_iconst (v := 1) hx hb dX10_load_102 (by decide) ?_
            refine lv_isub hx hb dX10_load_103 ?_
            refine lv_topi (fun n_47 en_47 => ?_)
            have tn_47 : n_47.toInt = (v_loads.toInt + 1) - 1 := i_sub en_47 tn_46 (by decide : (1 : Int32).toInt = 1) (by omega) (by omega)
            have k_48 : (0 : Int32).toInt = 0 := by decide
            have k_49 : (0 : Int32).toInt = 0 := by decide
            exact hrt n_47 n_46 0 0 f_43 f_44 f_45 ⟨(by omega), ⟨fun _ => ef_44, fun h => absurd h (by omega)⟩, (by omega), (by omega), rf_43, rf_44, rf_45⟩ hP hD hS rfl dX10_load_104
          · have gc_42 : r_39.toInt = 0 := i_eq (rfl : r_39.toInt = r_39.toInt) (by decide : (0 : Int32).toInt = 0) c_42
            refine lv_iconst (v := (-1)) hx hb dX10_load_46 (by decide) ?_
            have k_50 : ((-1) : Int32).toInt = (-1) := by decide
            exact hrt (-1) v_loads v_planned v_isMarch f_m_loadWeight f_m_owner f_m_food ⟨(by omega), ⟨fun h => absurd h (by omega), fun _ => rfl⟩, (by omega), (by omega), hr_m_loadWeight, hr_m_owner, hr_m_food⟩ hP hD hS rfl dX10_load_47
set_option maxHeartbeats 16000000 in
set_option maxRecDepth 100000 in
theorem c_X10_piece (l : Launch) (D : va_G) (cy : Nat → ClassId) (hm : Nat → Nat) (v_taped v_walkers v_loads v_pieces v_changeCosts v_planned v_isMarch v_clauseMany v_place v_end v_bad v_clauses v_codes v_open v_stacked v_isOver v_isBehind v_atW v_atL v_atT v_atH v_atM v_atI v_atQ v_packing v_packed v_goPace v_goMinutes v_spentAt v_ranChanges : Int32) (f_m_tape f_m_knee f_m_weight f_m_isLame f_m_loadWeight f_m_owner f_m_food f_m_miles f_m_slope f_m_clauseLetter f_m_sumFrom f_m_codeFrom f_m_codeTo f_m_code f_m_codeArg f_m_newLetter f_m_newSum f_m_newFrom f_m_newTo f_m_newCode f_m_newArg f_m_stack f_m_worth f_m_isRefused f_m_least f_m_packPounds f_m_packOwner f_m_room f_m_givenTo f_m_canBe f_m_setPounds f_m_plainTime f_m_muleTime f_m_planTo f_m_march f_m_tired f_m_ranMinutes f_m_tiredAhead f_m_isReached f_m_toEnd f_m_upTo f_m_upNext f_m_byChanges f_m_bandPaces : Nat → Int32) (sz : Nat) (m1 : Int32) (h : Int32) (hb_v_pieces : 0 ≤ v_pieces.toInt ∧ v_pieces.toInt ≤ 10) (hb_v_isMarch : 0 ≤ v_isMarch.toInt ∧ v_isMarch.toInt ≤ 1) (hr_m_miles : rg (0) 20 f_m_miles) : gMi l yX10_piece cX10_piece 3 .int 2 [.ref (hm 0), .int m1, .int h] D cy (wMD cy hm v_taped v_walkers v_loads v_pieces v_changeCosts v_planned v_isMarch v_clauseMany v_place v_end v_bad v_clauses v_codes v_open v_stacked v_isOver v_isBehind v_atW v_atL v_atT v_atH v_atM v_atI v_atQ v_packing v_packed v_goPace v_goMinutes v_spentAt v_ranChanges f_m_tape f_m_knee f_m_weight f_m_isLame f_m_loadWeight f_m_owner f_m_food f_m_miles f_m_slope f_m_clauseLetter f_m_sumFrom f_m_codeFrom f_m_codeTo f_m_code f_m_codeArg f_m_newLetter f_m_newSum f_m_newFrom f_m_newTo f_m_newCode f_m_newArg f_m_stack f_m_worth f_m_isRefused f_m_least f_m_packPounds f_m_packOwner f_m_room f_m_givenTo f_m_canBe f_m_setPounds f_m_plainTime f_m_muleTime f_m_planTo f_m_march f_m_tired f_m_ranMinutes f_m_tiredAhead f_m_isReached f_m_toEnd f_m_upTo f_m_upNext f_m_byChanges f_m_bandPaces) NT sz (fun (r : Int32) (u : Int32 × Int32 × (Nat → Int32) × (Nat → Int32)) => ((r.toInt = v_pieces.toInt ∧ v_pieces.toInt < 10 ∧ 1 ≤ m1.toInt ∧ m1.toInt ≤ 20 ∧ -9 ≤ h.toInt ∧ h.toInt ≤ 9 ∧ (u.1).toInt = v_pieces.toInt + 1 ∧ (u.2.1).toInt = 0) ∨ (r.toInt = -1 ∧ ¬ (v_pieces.toInt < 10 ∧ 1 ≤ m1.toInt ∧ m1.toInt ≤ 20 ∧ -9 ≤ h.toInt ∧ h.toInt ≤ 9) ∧ (u.1).toInt = v_pieces.toInt ∧ (u.2.1).toInt = v_isMarch.toInt)) ∧ (0 ≤ (u.1).toInt ∧ (u.1).toInt ≤ 10) ∧ (0 ≤ (u.2.1).toInt ∧ (u.2.1).toInt ≤ 1) ∧ (rg (0) 20 (u.2.2.1))) (fun u => wMD cy hm v_taped v_walkers v_loads (u.1) v_changeCosts v_planned (u.2.1) v_clauseMany v_place v_end v_bad v_clauses v_codes v_open v_stacked v_isOver v_isBehind v_atW v_atL v_atT v_atH v_atM v_atI v_atQ v_packing v_packed v_goPace v_goMinutes v_spentAt v_ranChanges f_m_tape f_m_knee f_m_weight f_m_isLame f_m_loadWeight f_m_owner f_m_food (u.2.2.1) (u.2.2.2) f_m_clauseLetter f_m_sumFrom f_m_codeFrom f_m_codeTo f_m_code f_m_codeArg f_m_newLetter f_m_newSum f_m_newFrom f_m_newTo f_m_newCode f_m_newArg f_m_stack f_m_worth f_m_isRefused f_m_least f_m_packPounds f_m_packOwner f_m_room f_m_givenTo f_m_canBe f_m_setPounds f_m_plainTime f_m_muleTime f_m_planTo f_m_march f_m_tired f_m_ranMinutes f_m_tiredAhead f_m_isReached f_m_toEnd f_m_upTo f_m_upNext f_m_byChanges f_m_bandPaces) := by
  refine gMi_in (by decide) (Nat.le_of_ble_eq_true rfl) ?_
  intro p e s m args below meth c A ls Q hx hb hml hts hown hsz hP hK hD hN hAe hA hS hl hret
  subst hsz
  have hl : lv_has ls 3 [(0, .ref (hm 0)), (1, .int m1), (2, .int h)] := hl
  have hrt := fun (r : Int32) (v_pieces' : Int32) (v_isMarch' : Int32) (f_m_miles' : Nat → Int32) (f_m_slope' : Nat → Int32) (hp : ((r.toInt = v_pieces.toInt ∧ v_pieces.toInt < 10 ∧ 1 ≤ m1.toInt ∧ m1.toInt ≤ 20 ∧ -9 ≤ h.toInt ∧ h.toInt ≤ 9 ∧ v_pieces'.toInt = v_pieces.toInt + 1 ∧ v_isMarch'.toInt = 0) ∨ (r.toInt = -1 ∧ ¬ (v_pieces.toInt < 10 ∧ 1 ≤ m1.toInt ∧ m1.toInt ≤ 20 ∧ -9 ≤ h.toInt ∧ h.toInt ≤ 9) ∧ v_pieces'.toInt = v_pieces.toInt ∧ v_isMarch'.toInt = v_isMarch.toInt)) ∧ (0 ≤ v_pieces'.toInt ∧ v_pieces'.toInt ≤ 10) ∧ (0 ≤ v_isMarch'.toInt ∧ v_isMarch'.toInt ≤ 1) ∧ (rg (0) 20 f_m_miles')) {H : Heap} {locs : List Loc} {pc : Nat} {ls : Array Slot} => hret r (v_pieces', v_isMarch', f_m_miles', f_m_slope') (H := H) (locs := locs) (pc := pc) (ls := ls) hp
  clear hret
  refine lv_aload_n hx hb dX10_piece_0 rfl (lv_at hl 0 rfl) ?_
  refine gt_MD_MD_pieces hx hb hts hown hK hP lwd_265 dX10_piece_1 ?_
  refine lv_bipush (v := 10) hx hb dX10_piece_4 (by decide) ?_
  refine lv_icmp_eq (tgt := 35) hx hb dX10_piece_6 (by decide) (fun c_1 => ?_) (fun c_1 => ?_)
  · have gc_1 : v_pieces.toInt = 10 := i_eq (rfl : v_pieces.toInt = v_pieces.toInt) (by decide : (10 : Int32).toInt = 10) c_1
    refine lv_iconst (v := (-1)) hx hb dX10_piece_35 (by decide) ?_
    have k_2 : ((-1) : Int32).toInt = (-1) := by decide
    exact hrt (-1) v_pieces v_isMarch f_m_miles f_m_slope ⟨(by omega), (by omega), (by omega), hr_m_miles⟩ hP hD hS rfl dX10_piece_36
  · have gc_1 : v_pieces.toInt ≠ 10 := i_ne (rfl : v_pieces.toInt = v_pieces.toInt) (by decide : (10 : Int32).toInt = 10) c_1
    refine lv_iload_n hx hb dX10_piece_9 rfl (lv_at hl 1 rfl) ?_
    refine lv_i2l (v := m1.toInt64) hx hb dX10_piece_10 rfl ?_
    have hl_3 : m1.toInt64.toInt = m1.toInt := i_l (rfl : m1.toInt = m1.toInt)
    refine lv_lconst (v := 1) hx hb dX10_piece_11 (by decide) ?_
    refine lv_ldc2 hx hb hown (hts _ lwd_223) dX10_piece_12 ?_
    have k_4 : (1 : Int64).toInt = 1 := by decide
    have k_5 : (20 : Int64).toInt = 20 := by decide
    refine xi hD hS hA (xS (As := [.long m1.toInt64, .long 1, .long 20]) (rest := []) hx hb hml hown hts hK hP hD hS hA NT_ok hN hAe hl.1 ⟨Nat.le_refl _, Nat.le_refl _⟩ (c_X10_lies l D cy hm v_taped v_walkers v_loads v_pieces v_changeCosts v_planned v_isMarch v_clauseMany v_place v_end v_bad v_clauses v_codes v_open v_stacked v_isOver v_isBehind v_atW v_atL v_atT v_atH v_atM v_atI v_atQ v_packing v_packed v_goPace v_goMinutes v_spentAt v_ranChanges f_m_tape f_m_knee f_m_weight f_m_isLame f_m_loadWeight f_m_owner f_m_food f_m_miles f_m_slope f_m_clauseLetter f_m_sumFrom f_m_codeFrom f_m_codeTo f_m_code f_m_codeArg f_m_newLetter f_m_newSum f_m_newFrom f_m_newTo f_m_newCode f_m_newArg f_m_stack f_m_worth f_m_isRefused f_m_least f_m_packPounds f_m_packOwner f_m_room f_m_givenTo f_m_canBe f_m_setPounds f_m_plainTime f_m_muleTime f_m_planTo f_m_march f_m_tired f_m_ranMinutes f_m_tiredAhead f_m_isReached f_m_toEnd f_m_upTo f_m_upNext f_m_byChanges f_m_bandPaces s.heap.size m1.toInt64 1 20) (gi_S lwd_226 lwd_227 lwd_5 lwd_228) hd_X10_lies ⟨Nat.le_of_ble_eq_true rfl, Nat.le_of_ble_eq_true rfl⟩ rfl (Nat.le_of_ble_eq_true rfl) dX10_piece_15) (fun r_7 u_6 H locs hw hP hD hS => ?_)
    try dsimp only at hw hP hD
    obtain ⟨p_8, p_9⟩ := hw
    refine lv_if_eq (tgt := 35) hx hb dX10_piece_18 (by decide) (fun c_10 => ?_) (fun c_10 => ?_)
    · have gc_10 : r_7.toInt = 0 := i_eq (rfl : r_7.toInt = r_7.toInt) (by decide : (0 : Int32).toInt = 0) c_10
      refine lv_iconst (v := (-1)) hx hb dX10_piece_35 (by decide) ?_
      have k_11 : ((-1) : Int32).toInt = (-1) := by decide
      exact hrt (-1) v_pieces v_isMarch f_m_miles f_m_slope ⟨(by omega), (by omega), (by omega), hr_m_miles⟩ hP hD hS rfl dX10_piece_36
    · have gc_10 : r_7.toInt ≠ 0 := i_ne (rfl : r_7.toInt = r_7.toInt) (by decide : (0 : Int32).toInt = 0) c_10
      refine lv_iload_n hx hb dX10_piece_21 rfl (lv_at hl 2 rfl) ?_
      refine lv_i2l (v := h.toInt64) hx hb dX10_piece_22 rfl ?_
      have hl_12 : h.toInt64.toInt = h.toInt := i_l (rfl : h.toInt = h.toInt)
      refine lv_ldc2 hx hb hown (hts _ lwd_266) dX10_piece_23 ?_
      refine lv_ldc2 hx hb hown (hts _ lwd_222) dX10_piece_26 ?_
      have k_13 : ((-9) : Int64).toInt = (-9) := by decide
      have k_14 : (9 : Int64).toInt = 9 := by decide
      refine xi hD hS hA (xS (As := [.long h.toInt64, .long (-9), .long 9]) (rest := []) hx hb hml hown hts hK hP hD hS hA NT_ok hN hAe hl.1 ⟨Nat.le_refl _, Nat.le_refl _⟩ (c_X10_lies l D cy hm v_taped v_walkers v_loads v_pieces v_changeCosts v_planned v_isMarch v_clauseMany v_place v_end v_bad v_clauses v_codes v_open v_stacked v_isOver v_isBehind v_atW v_atL v_atT v_atH v_atM v_atI v_atQ v_packing v_packed v_goPace v_goMinutes v_spentAt v_ranChanges f_m_tape f_m_knee f_m_weight f_m_isLame f_m_loadWeight f_m_owner f_m_food f_m_miles f_m_slope f_m_clauseLetter f_m_sumFrom f_m_codeFrom f_m_codeTo f_m_code f_m_codeArg f_m_newLetter f_m_newSum f_m_newFrom f_m_newTo f_m_newCode f_m_newArg f_m_stack f_m_worth f_m_isRefused f_m_least f_m_packPounds f_m_packOwner f_m_room f_m_givenTo f_m_canBe f_m_setPounds f_m_plainTime f_m_muleTime f_m_planTo f_m_march f_m_tired f_m_ranMinutes f_m_tiredAhead f_m_isReached f_m_toEnd f_m_upTo f_m_upNext f_m_byChanges f_m_bandPaces H.size h.toInt64 (-9) 9) (gi_S lwd_226 lwd_227 lwd_5 lwd_228) hd_X10_lies ⟨Nat.le_of_ble_eq_true rfl, Nat.le_of_ble_eq_true rfl⟩ rfl (Nat.le_of_ble_eq_true rfl) dX10_piece_29) (fun r_16 u_15 H locs hw hP hD hS => ?_)
      try dsimp only at hw hP hD
      obtain ⟨p_17, p_18⟩ := hw
      refine lv_if_ne (tgt := 37) hx hb dX10_piece_32 (by decide) (fun c_19 => ?_) (fun c_19 => ?_)
      · have gc_19 : r_16.toInt ≠ 0 := i_ne (rfl : r_16.toInt = r_16.toInt) (by decide : (0 : Int32).toInt = 0) c_19
        refine lv_aload_n hx hb dX10_piece_37 rfl (lv_at hl 0 rfl) ?_
        refine gt_MD_MD_miles hx hb hts hown hK hP lwd_163 dX10_piece_38 ?_
        refine lv_aload_n hx hb dX10_piece_41 rfl (lv_at hl 0 rfl) ?_
        refine gt_MD_MD_pieces hx hb hts hown hK hP lwd_265 dX10_piece_42 ?_
        refine lv_iload_n hx hb dX10_piece_45 rfl (lv_at hl 1 rfl) ?_
        refine as_m_miles (x := m1) hx hb hK hP hD hS hr_m_miles (i_in (rfl : v_pieces.toInt = v_pieces.toInt) (by omega) (by omega)) (by omega) dX10_piece_46 (fun f_20 ef_20 rf_20 H locs hP hD hS => ?_)
        refine lv_aload_n hx hb dX10_piece_47 rfl (lv_at hl 0 rfl) ?_
        refine gt_MD_MD_slope hx hb hts hown hK hP lwd_164 dX10_piece_48 ?_
        refine lv_aload_n hx hb dX10_piece_51 rfl (lv_at hl 0 rfl) ?_
        refine gt_MD_MD_pieces hx hb hts hown hK hP lwd_265 dX10_piece_52 ?_
        refine lv_iload_n hx hb dX10_piece_55 rfl (lv_at hl 2 rfl) ?_
        refine as_m_slope (x := h) hx hb hK hP hD hS (i_in (rfl : v_pieces.toInt = v_pieces.toInt) (by omega) (by omega)) dX10_piece_56 (fun f_21 ef_21 H locs hP hD hS => ?_)
        refine lv_aload_n hx hb dX10_piece_57 rfl (lv_at hl 0 rfl) ?_
        refine lv_dup hx hb dX10_piece_58 rfl ?_
        refine gt_MD_MD_pieces hx hb hts hown hK hP lwd_265 dX10_piece_59 ?_
        refine lv_iconst (v := 1) hx hb dX10_piece_62 (by decide) ?_
        refine lv_iadd hx hb dX10_piece_63 ?_
        refine lv_topi (fun n_22 en_22 => ?_)
        have tn_22 : n_22.toInt = v_pieces.toInt + 1 := i_add en_22 (rfl : v_pieces.toInt = v_pieces.toInt) (by decide : (1 : Int32).toInt = 1) (by omega) (by omega)
        refine pt_MD_MD_pieces (x := n_22) hx hb hts hown hK hP hD hS lwd_265 dX10_piece_64 (fun H locs hP hD hS => ?_)
        refine lv_aload_n hx hb dX10_piece_67 rfl (lv_at hl 0 rfl) ?_
        refine lv_iconst (v := 0) hx hb dX10_piece_68 (by decide) ?_
        refine pt_MD_MD_isMarch (x := 0) hx hb hts hown hK hP hD hS lwd_225 (by decide) dX10_piece_69 (fun H locs hP hD hS => ?_)
        refine lv_aload_n hx hb dX10_piece_72 rfl (lv_at hl 0 rfl) ?_
        refine gt_MD_MD_pieces hx hb hts hown hK hP lwd_265 dX10_piece_73 ?_
        refine lv_iconst (v := 1) hx hb dX10_piece_76 (by decide) ?_
        refine lv_isub hx hb dX10_piece_77 ?_
        refine lv_topi (fun n_23 en_23 => ?_)
        have tn_23 : n_23.toInt = (v_pieces.toInt + 1) - 1 := i_sub en_23 tn_22 (by decide : (1 : Int32).toInt = 1) (by omega) (by omega)
        have k_24 : (0 : Int32).toInt = 0 := by decide
        exact hrt n_23 n_22 0 f_20 f_21 ⟨(by omega), (by omega), (by omega), rf_20⟩ hP hD hS rfl dX10_piece_78
      · have gc_19 : r_16.toInt = 0 := i_eq (rfl : r_16.toInt = r_16.toInt) (by decide : (0 : Int32).toInt = 0) c_19
        refine lv_iconst (v := (-1)) hx hb dX10_piece_35 (by decide) ?_
        have k_25 : ((-1) : Int32).toInt = (-1) := by decide
        exact hrt (-1) v_pieces v_isMarch f_m_miles f_m_slope ⟨(by omega), (by omega), (by omega), hr_m_miles⟩ hP hD hS rfl dX10_piece_36
set_option maxHeartbeats 16000000 in
set_option maxRecDepth 100000 in
theorem c_X10_lame (l : Launch) (D : va_G) (cy : Nat → ClassId) (hm : Nat → Nat) (v_taped v_walkers v_loads v_pieces v_changeCosts v_planned v_isMarch v_clauseMany v_place v_end v_bad v_clauses v_codes v_open v_stacked v_isOver v_isBehind v_atW v_atL v_atT v_atH v_atM v_atI v_atQ v_packing v_packed v_goPace v_goMinutes v_spentAt v_ranChanges : Int32) (f_m_tape f_m_knee f_m_weight f_m_isLame f_m_loadWeight f_m_owner f_m_food f_m_miles f_m_slope f_m_clauseLetter f_m_sumFrom f_m_codeFrom f_m_codeTo f_m_code f_m_codeArg f_m_newLetter f_m_newSum f_m_newFrom f_m_newTo f_m_newCode f_m_newArg f_m_stack f_m_worth f_m_isRefused f_m_least f_m_packPounds f_m_packOwner f_m_room f_m_givenTo f_m_canBe f_m_setPounds f_m_plainTime f_m_muleTime f_m_planTo f_m_march f_m_tired f_m_ranMinutes f_m_tiredAhead f_m_isReached f_m_toEnd f_m_upTo f_m_upNext f_m_byChanges f_m_bandPaces : Nat → Int32) (sz : Nat) (w : Int32) (is : Int32) (hb_v_walkers : 0 ≤ v_walkers.toInt ∧ v_walkers.toInt ≤ 6) (hr_m_isLame : rg (0) 1 f_m_isLame) (ha_is : 0 ≤ is.toInt ∧ is.toInt ≤ 1) : gMi l yX10_lame cX10_lame 3 .boolean 3 [.ref (hm 0), .int w, .int is] D cy (wMD cy hm v_taped v_walkers v_loads v_pieces v_changeCosts v_planned v_isMarch v_clauseMany v_place v_end v_bad v_clauses v_codes v_open v_stacked v_isOver v_isBehind v_atW v_atL v_atT v_atH v_atM v_atI v_atQ v_packing v_packed v_goPace v_goMinutes v_spentAt v_ranChanges f_m_tape f_m_knee f_m_weight f_m_isLame f_m_loadWeight f_m_owner f_m_food f_m_miles f_m_slope f_m_clauseLetter f_m_sumFrom f_m_codeFrom f_m_codeTo f_m_code f_m_codeArg f_m_newLetter f_m_newSum f_m_newFrom f_m_newTo f_m_newCode f_m_newArg f_m_stack f_m_worth f_m_isRefused f_m_least f_m_packPounds f_m_packOwner f_m_room f_m_givenTo f_m_canBe f_m_setPounds f_m_plainTime f_m_muleTime f_m_planTo f_m_march f_m_tired f_m_ranMinutes f_m_tiredAhead f_m_isReached f_m_toEnd f_m_upTo f_m_upNext f_m_byChanges f_m_bandPaces) NT sz (fun (r : Int32) (u : (Nat → Int32)) => (0 ≤ r.toInt ∧ r.toInt ≤ 1) ∧ ((r.toInt = 1 ∧ 0 ≤ w.toInt ∧ w.toInt < v_walkers.toInt ∧ (f_m_isLame w.toNatClampNeg).toInt ≠ is.toInt) ∨ (r.toInt = 0 ∧ ¬ (0 ≤ w.toInt ∧ w.toInt < v_walkers.toInt ∧ (f_m_isLame w.toNatClampNeg).toInt ≠ is.toInt))) ∧ ((r.toInt ≠ 0 → u = upd f_m_isLame w.toNatClampNeg is) ∧ (r.toInt = 0 → u = f_m_isLame)) ∧ (rg (0) 1 u)) (fun u => wMD cy hm v_taped v_walkers v_loads v_pieces v_changeCosts v_planned v_isMarch v_clauseMany v_place v_end v_bad v_clauses v_codes v_open v_stacked v_isOver v_isBehind v_atW v_atL v_atT v_atH v_atM v_atI v_atQ v_packing v_packed v_goPace v_goMinutes v_spentAt v_ranChanges f_m_tape f_m_knee f_m_weight u f_m_loadWeight f_m_owner f_m_food f_m_miles f_m_slope f_m_clauseLetter f_m_sumFrom f_m_codeFrom f_m_codeTo f_m_code f_m_codeArg f_m_newLetter f_m_newSum f_m_newFrom f_m_newTo f_m_newCode f_m_newArg f_m_stack f_m_worth f_m_isRefused f_m_least f_m_packPounds f_m_packOwner f_m_room f_m_givenTo f_m_canBe f_m_setPounds f_m_plainTime f_m_muleTime f_m_planTo f_m_march f_m_tired f_m_ranMinutes f_m_tiredAhead f_m_isReached f_m_toEnd f_m_upTo f_m_upNext f_m_byChanges f_m_bandPaces) := by
  refine gMi_in (by decide) (Nat.le_of_ble_eq_true rfl) ?_
  intro p e s m args below meth c A ls Q hx hb hml hts hown hsz hP hK hD hN hAe hA hS hl hret
  subst hsz
  have hl : lv_has ls 3 [(0, .ref (hm 0)), (1, .int w), (2, .int is)] := hl
  have hrt := fun (r : Int32) (f_m_isLame' : Nat → Int32) (hp : (0 ≤ r.toInt ∧ r.toInt ≤ 1) ∧ ((r.toInt = 1 ∧ 0 ≤ w.toInt ∧ w.toInt < v_walkers.toInt ∧ (f_m_isLame w.toNatClampNeg).toInt ≠ is.toInt) ∨ (r.toInt = 0 ∧ ¬ (0 ≤ w.toInt ∧ w.toInt < v_walkers.toInt ∧ (f_m_isLame w.toNatClampNeg).toInt ≠ is.toInt))) ∧ ((r.toInt ≠ 0 → f_m_isLame' = upd f_m_isLame w.toNatClampNeg is) ∧ (r.toInt = 0 → f_m_isLame' = f_m_isLame)) ∧ (rg (0) 1 f_m_isLame')) {H : Heap} {locs : List Loc} {pc : Nat} {ls : Array Slot} => hret r f_m_isLame' (H := H) (locs := locs) (pc := pc) (ls := ls) hp
  clear hret
  refine lv_aload_n hx hb dX10_lame_0 rfl (lv_at hl 0 rfl) ?_
  refine lv_iload_n hx hb dX10_lame_1 rfl (lv_at hl 1 rfl) ?_
  refine xi hD hS hA (xV (As := [.int w]) (rest := []) hx hb hml hown hts hK hP hD hS hA NT_ok hN hAe hl.1 ⟨Nat.le_refl _, Nat.le_refl _⟩ 0 rfl rfl rfl (c_X10_isWalker l D cy hm v_taped v_walkers v_loads v_pieces v_changeCosts v_planned v_isMarch v_clauseMany v_place v_end v_bad v_clauses v_codes v_open v_stacked v_isOver v_isBehind v_atW v_atL v_atT v_atH v_atM v_atI v_atQ v_packing v_packed v_goPace v_goMinutes v_spentAt v_ranChanges f_m_tape f_m_knee f_m_weight f_m_isLame f_m_loadWeight f_m_owner f_m_food f_m_miles f_m_slope f_m_clauseLetter f_m_sumFrom f_m_codeFrom f_m_codeTo f_m_code f_m_codeArg f_m_newLetter f_m_newSum f_m_newFrom f_m_newTo f_m_newCode f_m_newArg f_m_stack f_m_worth f_m_isRefused f_m_least f_m_packPounds f_m_packOwner f_m_room f_m_givenTo f_m_canBe f_m_setPounds f_m_plainTime f_m_muleTime f_m_planTo f_m_march f_m_tired f_m_ranMinutes f_m_tiredAhead f_m_isReached f_m_toEnd f_m_upTo f_m_upNext f_m_byChanges f_m_bandPaces s.heap.size w (by omega)) (gi_V lwd_250 lwd_251 lwd_252 lwd_5 lwd_253) ⟨rfl, hd_X10_isWalker⟩ ⟨Nat.le_of_ble_eq_true rfl, Nat.le_of_ble_eq_true rfl⟩ rfl (Nat.le_of_ble_eq_true rfl) dX10_lame_2) (fun r_2 u_1 H locs hw hP hD hS => ?_)
  try dsimp only at hw hP hD
  obtain ⟨p_3, p_4⟩ := hw
  refine lv_if_eq (tgt := 18) hx hb dX10_lame_5 (by decide) (fun c_5 => ?_) (fun c_5 => ?_)
  · have gc_5 : r_2.toInt = 0 := i_eq (rfl : r_2.toInt = r_2.toInt) (by decide : (0 : Int32).toInt = 0) c_5
    refine lv_iconst (v := 0) hx hb dX10_lame_18 (by decide) ?_
    have k_6 : (0 : Int32).toInt = 0 := by decide
    exact hrt 0 f_m_isLame ⟨(by omega), (by omega), ⟨fun h => absurd h (by omega), fun _ => rfl⟩, hr_m_isLame⟩ hP hD hS rfl dX10_lame_19
  · have gc_5 : r_2.toInt ≠ 0 := i_ne (rfl : r_2.toInt = r_2.toInt) (by decide : (0 : Int32).toInt = 0) c_5
    refine lv_aload_n hx hb dX10_lame_8 rfl (lv_at hl 0 rfl) ?_
    refine gt_MD_MD_isLame hx hb hts hown hK hP lwd_159 dX10_lame_9 ?_
    refine lv_iload_n hx hb dX10_lame_12 rfl (lv_at hl 1 rfl) ?_
    refine al_m_isLame hx hb hK hP hr_m_isLame (i_in (rfl : w.toInt = w.toInt) (by omega) (by omega)) dX10_lame_13 (fun n_7 en_7 bn_7 => ?_)
    have qn_7 := congrArg Int32.toInt en_7
    refine lv_iload_n hx hb dX10_lame_14 rfl (lv_at hl 2 rfl) ?_
    refine lv_icmp_ne (tgt := 20) hx hb dX10_lame_15 (by decide) (fun c_8 => ?_) (fun c_8 => ?_)
    · have gc_8 : n_7.toInt ≠ is.toInt := i_ne (rfl : n_7.toInt = n_7.toInt) (rfl : is.toInt = is.toInt) c_8
      refine lv_aload_n hx hb dX10_lame_20 rfl (lv_at hl 0 rfl) ?_
      refine gt_MD_MD_isLame hx hb hts hown hK hP lwd_159 dX10_lame_21 ?_
      refine lv_iload_n hx hb dX10_lame_24 rfl (lv_at hl 1 rfl) ?_
      refine lv_iload_n hx hb dX10_lame_25 rfl (lv_at hl 2 rfl) ?_
      refine as_m_isLame (x := is) hx hb hK hP hD hS hr_m_isLame (i_in (rfl : w.toInt = w.toInt) (by omega) (by omega)) (by omega) dX10_lame_26 (fun f_9 ef_9 rf_9 H locs hP hD hS => ?_)
      refine lv_iconst (v := 1) hx hb dX10_lame_27 (by decide) ?_
      have k_10 : (1 : Int32).toInt = 1 := by decide
      exact hrt 1 f_9 ⟨(by omega), (by omega), ⟨fun _ => ef_9, fun h => absurd h (by omega)⟩, rf_9⟩ hP hD hS rfl dX10_lame_28
    · have gc_8 : n_7.toInt = is.toInt := i_eq (rfl : n_7.toInt = n_7.toInt) (rfl : is.toInt = is.toInt) c_8
      refine lv_iconst (v := 0) hx hb dX10_lame_18 (by decide) ?_
      have k_11 : (0 : Int32).toInt = 0 := by decide
      exact hrt 0 f_m_isLame ⟨(by omega), (by omega), ⟨fun h => absurd h (by omega), fun _ => rfl⟩, hr_m_isLame⟩ hP hD hS rfl dX10_lame_19
set_option maxHeartbeats 16000000 in
set_option maxRecDepth 100000 in
theorem c_X10_change (l : Launch) (D : va_G) (cy : Nat → ClassId) (hm : Nat → Nat) (v_taped v_walkers v_loads v_pieces v_changeCosts v_planned v_isMarch v_clauseMany v_place v_end v_bad v_clauses v_codes v_open v_stacked v_isOver v_isBehind v_atW v_atL v_atT v_atH v_atM v_atI v_atQ v_packing v_packed v_goPace v_goMinutes v_spentAt v_ranChanges : Int32) (f_m_tape f_m_knee f_m_weight f_m_isLame f_m_loadWeight f_m_owner f_m_food f_m_miles f_m_slope f_m_clauseLetter f_m_sumFrom f_m_codeFrom f_m_codeTo f_m_code f_m_codeArg f_m_newLetter f_m_newSum f_m_newFrom f_m_newTo f_m_newCode f_m_newArg f_m_stack f_m_worth f_m_isRefused f_m_least f_m_packPounds f_m_packOwner f_m_room f_m_givenTo f_m_canBe f_m_setPounds f_m_plainTime f_m_muleTime f_m_planTo f_m_march f_m_tired f_m_ranMinutes f_m_tiredAhead f_m_isReached f_m_toEnd f_m_upTo f_m_upNext f_m_byChanges f_m_bandPaces : Nat → Int32) (sz : Nat) (q : Int32) : gMi l yX10_change cX10_change 2 .boolean 2 [.ref (hm 0), .int q] D cy (wMD cy hm v_taped v_walkers v_loads v_pieces v_changeCosts v_planned v_isMarch v_clauseMany v_place v_end v_bad v_clauses v_codes v_open v_stacked v_isOver v_isBehind v_atW v_atL v_atT v_atH v_atM v_atI v_atQ v_packing v_packed v_goPace v_goMinutes v_spentAt v_ranChanges f_m_tape f_m_knee f_m_weight f_m_isLame f_m_loadWeight f_m_owner f_m_food f_m_miles f_m_slope f_m_clauseLetter f_m_sumFrom f_m_codeFrom f_m_codeTo f_m_code f_m_codeArg f_m_newLetter f_m_newSum f_m_newFrom f_m_newTo f_m_newCode f_m_newArg f_m_stack f_m_worth f_m_isRefused f_m_least f_m_packPounds f_m_packOwner f_m_room f_m_givenTo f_m_canBe f_m_setPounds f_m_plainTime f_m_muleTime f_m_planTo f_m_march f_m_tired f_m_ranMinutes f_m_tiredAhead f_m_isReached f_m_toEnd f_m_upTo f_m_upNext f_m_byChanges f_m_bandPaces) NT sz (fun (r : Int32) (u : Int32) => (0 ≤ r.toInt ∧ r.toInt ≤ 1) ∧ ((r.toInt = 1 ∧ 0 ≤ q.toInt ∧ q.toInt ≤ 120) ∨ (r.toInt = 0 ∧ ¬ (0 ≤ q.toInt ∧ q.toInt ≤ 120)))) (fun u => wMD cy hm v_taped v_walkers v_loads v_pieces u v_planned v_isMarch v_clauseMany v_place v_end v_bad v_clauses v_codes v_open v_stacked v_isOver v_isBehind v_atW v_atL v_atT v_atH v_atM v_atI v_atQ v_packing v_packed v_goPace v_goMinutes v_spentAt v_ranChanges f_m_tape f_m_knee f_m_weight f_m_isLame f_m_loadWeight f_m_owner f_m_food f_m_miles f_m_slope f_m_clauseLetter f_m_sumFrom f_m_codeFrom f_m_codeTo f_m_code f_m_codeArg f_m_newLetter f_m_newSum f_m_newFrom f_m_newTo f_m_newCode f_m_newArg f_m_stack f_m_worth f_m_isRefused f_m_least f_m_packPounds f_m_packOwner f_m_room f_m_givenTo f_m_canBe f_m_setPounds f_m_plainTime f_m_muleTime f_m_planTo f_m_march f_m_tired f_m_ranMinutes f_m_tiredAhead f_m_isReached f_m_toEnd f_m_upTo f_m_upNext f_m_byChanges f_m_bandPaces) := by
  refine gMi_in (by decide) (Nat.le_of_ble_eq_true rfl) ?_
  intro p e s m args below meth c A ls Q hx hb hml hts hown hsz hP hK hD hN hAe hA hS hl hret
  subst hsz
  have hl : lv_has ls 2 [(0, .ref (hm 0)), (1, .int q)] := hl
  have hrt := fun (r : Int32) (v_changeCosts' : Int32) (hp : (0 ≤ r.toInt ∧ r.toInt ≤ 1) ∧ ((r.toInt = 1 ∧ 0 ≤ q.toInt ∧ q.toInt ≤ 120) ∨ (r.toInt = 0 ∧ ¬ (0 ≤ q.toInt ∧ q.toInt ≤ 120)))) {H : Heap} {locs : List Loc} {pc : Nat} {ls : Array Slot} => hret r v_changeCosts' (H := H) (locs := locs) (pc := pc) (ls := ls) hp
  clear hret
  refine lv_iload_n hx hb dX10_change_0 rfl (lv_at hl 1 rfl) ?_
  refine lv_i2l (v := q.toInt64) hx hb dX10_change_1 rfl ?_
  have hl_1 : q.toInt64.toInt = q.toInt := i_l (rfl : q.toInt = q.toInt)
  refine lv_lconst (v := 0) hx hb dX10_change_2 (by decide) ?_
  refine lv_ldc2 hx hb hown (hts _ lwd_248) dX10_change_3 ?_
  have k_2 : (0 : Int64).toInt = 0 := by decide
  have k_3 : (120 : Int64).toInt = 120 := by decide
  refine xi hD hS hA (xS (As := [.long q.toInt64, .long 0, .long 120]) (rest := []) hx hb hml hown hts hK hP hD hS hA NT_ok hN hAe hl.1 ⟨Nat.le_refl _, Nat.le_refl _⟩ (c_X10_lies l D cy hm v_taped v_walkers v_loads v_pieces v_changeCosts v_planned v_isMarch v_clauseMany v_place v_end v_bad v_clauses v_codes v_open v_stacked v_isOver v_isBehind v_atW v_atL v_atT v_atH v_atM v_atI v_atQ v_packing v_packed v_goPace v_goMinutes v_spentAt v_ranChanges f_m_tape f_m_knee f_m_weight f_m_isLame f_m_loadWeight f_m_owner f_m_food f_m_miles f_m_slope f_m_clauseLetter f_m_sumFrom f_m_codeFrom f_m_codeTo f_m_code f_m_codeArg f_m_newLetter f_m_newSum f_m_newFrom f_m_newTo f_m_newCode f_m_newArg f_m_stack f_m_worth f_m_isRefused f_m_least f_m_packPounds f_m_packOwner f_m_room f_m_givenTo f_m_canBe f_m_setPounds f_m_plainTime f_m_muleTime f_m_planTo f_m_march f_m_tired f_m_ranMinutes f_m_tiredAhead f_m_isReached f_m_toEnd f_m_upTo f_m_upNext f_m_byChanges f_m_bandPaces s.heap.size q.toInt64 0 120) (gi_S lwd_226 lwd_227 lwd_5 lwd_228) hd_X10_lies ⟨Nat.le_of_ble_eq_true rfl, Nat.le_of_ble_eq_true rfl⟩ rfl (Nat.le_of_ble_eq_true rfl) dX10_change_6) (fun r_5 u_4 H locs hw hP hD hS => ?_)
  try dsimp only at hw hP hD
  obtain ⟨p_6, p_7⟩ := hw
  refine lv_if_ne (tgt := 14) hx hb dX10_change_9 (by decide) (fun c_8 => ?_) (fun c_8 => ?_)
  · have gc_8 : r_5.toInt ≠ 0 := i_ne (rfl : r_5.toInt = r_5.toInt) (by decide : (0 : Int32).toInt = 0) c_8
    refine lv_aload_n hx hb dX10_change_14 rfl (lv_at hl 0 rfl) ?_
    refine lv_iload_n hx hb dX10_change_15 rfl (lv_at hl 1 rfl) ?_
    refine pt_MD_MD_changeCosts (x := q) hx hb hts hown hK hP hD hS lwd_156 dX10_change_16 (fun H locs hP hD hS => ?_)
    refine lv_iconst (v := 1) hx hb dX10_change_19 (by decide) ?_
    have k_9 : (1 : Int32).toInt = 1 := by decide
    exact hrt 1 q ⟨(by omega), (by omega)⟩ hP hD hS rfl dX10_change_20
  · have gc_8 : r_5.toInt = 0 := i_eq (rfl : r_5.toInt = r_5.toInt) (by decide : (0 : Int32).toInt = 0) c_8
    refine lv_iconst (v := 0) hx hb dX10_change_12 (by decide) ?_
    have k_10 : (0 : Int32).toInt = 0 := by decide
    exact hrt 0 v_changeCosts ⟨(by omega), (by omega)⟩ hP hD hS rfl dX10_change_13
