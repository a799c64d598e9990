set_option maxHeartbeats 16000000 in
set_option maxRecDepth 100000 in
theorem c_X10_fits (l : Launch) (D : va_G) (cy : Nat → ClassId) (hm : Nat → Nat) (v_taped v_walkers v_loads v_pieces v_changeCosts v_planned v_isMarch v_clauseMany v_place v_end v_bad v_clauses v_codes v_open v_stacked v_isOver v_isBehind v_atW v_atL v_atT v_atH v_atM v_atI v_atQ v_packing v_packed v_goPace v_goMinutes v_spentAt v_ranChanges : Int32) (f_m_tape f_m_knee f_m_weight f_m_isLame f_m_loadWeight f_m_owner f_m_food f_m_miles f_m_slope f_m_clauseLetter f_m_sumFrom f_m_codeFrom f_m_codeTo f_m_code f_m_codeArg f_m_newLetter f_m_newSum f_m_newFrom f_m_newTo f_m_newCode f_m_newArg f_m_stack f_m_worth f_m_isRefused f_m_least f_m_packPounds f_m_packOwner f_m_room f_m_givenTo f_m_canBe f_m_setPounds f_m_plainTime f_m_muleTime f_m_planTo f_m_march f_m_tired f_m_ranMinutes f_m_tiredAhead f_m_isReached f_m_toEnd f_m_upTo f_m_upNext f_m_byChanges f_m_bandPaces : Nat → Int32) (sz : Nat) (hb_v_walkers : 0 ≤ v_walkers.toInt ∧ v_walkers.toInt ≤ 6) (hb_v_packed : 0 ≤ v_packed.toInt ∧ v_packed.toInt ≤ 10) (hr_m_packPounds : rg (0) 250 f_m_packPounds) (hr_m_canBe : rg (0) 1 f_m_canBe) : gMi l yX10_fits cX10_fits 6 .boolean 2 [.ref (hm 0)] D cy (wMD cy hm v_taped v_walkers v_loads v_pieces v_changeCosts v_planned v_isMarch v_clauseMany v_place v_end v_bad v_clauses v_codes v_open v_stacked v_isOver v_isBehind v_atW v_atL v_atT v_atH v_atM v_atI v_atQ v_packing v_packed v_goPace v_goMinutes v_spentAt v_ranChanges f_m_tape f_m_knee f_m_weight f_m_isLame f_m_loadWeight f_m_owner f_m_food f_m_miles f_m_slope f_m_clauseLetter f_m_sumFrom f_m_codeFrom f_m_codeTo f_m_code f_m_codeArg f_m_newLetter f_m_newSum f_m_newFrom f_m_newTo f_m_newCode f_m_newArg f_m_stack f_m_worth f_m_isRefused f_m_least f_m_packPounds f_m_packOwner f_m_room f_m_givenTo f_m_canBe f_m_setPounds f_m_plainTime f_m_muleTime f_m_planTo f_m_march f_m_tired f_m_ranMinutes f_m_tiredAhead f_m_isReached f_m_toEnd f_m_upTo f_m_upNext f_m_byChanges f_m_bandPaces) NT sz (fun (r : Int32) (u : (Nat → Int32) × (Nat → Int32)) => (0 ≤ r.toInt ∧ r.toInt ≤ 1) ∧ ((r.toInt = 1 → can (fun i => (f_m_packPounds i).toInt) (fun i => (f_m_room i).toInt) (pkB v_packing) v_packed.toNatClampNeg v_walkers.toNatClampNeg (leftN f_m_givenTo v_packed.toNatClampNeg)) ∧ (can (fun i => (f_m_packPounds i).toInt) (fun i => (f_m_room i).toInt) (pkB v_packing) v_packed.toNatClampNeg v_walkers.toNatClampNeg (leftN f_m_givenTo v_packed.toNatClampNeg) → r.toInt = 1)) ∧ (rg (0) 1 (u.1))) (fun u => wMD cy hm v_taped v_walkers v_loads v_pieces v_changeCosts v_planned v_isMarch v_clauseMany v_place v_end v_bad v_clauses v_codes v_open v_stacked v_isOver v_isBehind v_atW v_atL v_atT v_atH v_atM v_atI v_atQ v_packing v_packed v_goPace v_goMinutes v_spentAt v_ranChanges f_m_tape f_m_knee f_m_weight f_m_isLame f_m_loadWeight f_m_owner f_m_food f_m_miles f_m_slope f_m_clauseLetter f_m_sumFrom f_m_codeFrom f_m_codeTo f_m_code f_m_codeArg f_m_newLetter f_m_newSum f_m_newFrom f_m_newTo f_m_newCode f_m_newArg f_m_stack f_m_worth f_m_isRefused f_m_least f_m_packPounds f_m_packOwner f_m_room f_m_givenTo (u.1) (u.2) f_m_plainTime f_m_muleTime f_m_planTo f_m_march f_m_tired f_m_ranMinutes f_m_tiredAhead f_m_isReached f_m_toEnd f_m_upTo f_m_upNext f_m_byChanges f_m_bandPaces) := by
  refine gMi_in (by decide) (Nat.le_of_ble_eq_true rfl) ?_
  intro p e s m args below meth c A ls Q hx hb hml hts hown hsz hP hK hD hN hAe hA hS hl hret
  subst hsz
  have hl : lv_has ls 6 [(0, .ref (hm 0))] := hl
  have hrt := fun (r : Int32) (f_m_canBe' : Nat → Int32) (f_m_setPounds' : Nat → Int32) (hp : (0 ≤ r.toInt ∧ r.toInt ≤ 1) ∧ ((r.toInt = 1 → can (fun i => (f_m_packPounds i).toInt) (fun i => (f_m_room i).toInt) (pkB v_packing) v_packed.toNatClampNeg v_walkers.toNatClampNeg (leftN f_m_givenTo v_packed.toNatClampNeg)) ∧ (can (fun i => (f_m_packPounds i).toInt) (fun i => (f_m_room i).toInt) (pkB v_packing) v_packed.toNatClampNeg v_walkers.toNatClampNeg (leftN f_m_givenTo v_packed.toNatClampNeg) → r.toInt = 1)) ∧ (rg (0) 1 f_m_canBe')) {H : Heap} {locs : List Loc} {pc : Nat} {ls : Array Slot} => hret r (f_m_canBe', f_m_setPounds') (H := H) (locs := locs) (pc := pc) (ls := ls) hp
  clear hret
  refine lv_iconst (v := 0) hx hb dX10_fits_0 (by decide) ?_
  refine lv_istore_n (lv' := [(1, .int 0), (0, .ref (hm 0))]) hx hb dX10_fits_1 rfl hl (by decide) rfl (fun ls hl => ?_)
  refine lv_iconst (v := 0) hx hb dX10_fits_2 (by decide) ?_
  refine lv_istore_n (lv' := [(2, .int 0), (1, .int 0), (0, .ref (hm 0))]) hx hb dX10_fits_3 rfl hl (by decide) rfl (fun ls hl => ?_)
  have L4_5 : ∀ (n : Nat) (l_3 : Int32) (l_4 : Int32), (0 ≤ l_3.toInt ∧ l_3.toInt ≤ 1023) → (0 ≤ l_4.toInt ∧ l_4.toInt ≤ 10) → (l_3.toNatClampNeg = leftN f_m_givenTo l_4.toNatClampNeg) → (l_4.toInt ≤ v_packed.toInt) → 11 - l_4.toInt < n → ∀ (H : Heap) (locs : List Loc) (ls : Array Slot), va_P D vwCl (wMD cy hm v_taped v_walkers v_loads v_pieces v_changeCosts v_planned v_isMarch v_clauseMany v_place v_end v_bad v_clauses v_codes v_open v_stacked v_isOver v_isBehind v_atW v_atL v_atT v_atH v_atM v_atI v_atQ v_packing v_packed v_goPace v_goMinutes v_spentAt v_ranChanges f_m_tape f_m_knee f_m_weight f_m_isLame f_m_loadWeight f_m_owner f_m_food f_m_miles f_m_slope f_m_clauseLetter f_m_sumFrom f_m_codeFrom f_m_codeTo f_m_code f_m_codeArg f_m_newLetter f_m_newSum f_m_newFrom f_m_newTo f_m_newCode f_m_newArg f_m_stack f_m_worth f_m_isRefused f_m_least f_m_packPounds f_m_packOwner f_m_room f_m_givenTo f_m_canBe f_m_setPounds f_m_plainTime f_m_muleTime f_m_planTo f_m_march f_m_tired f_m_ranMinutes f_m_tiredAhead f_m_isReached f_m_toEnd f_m_upTo f_m_upNext f_m_byChanges f_m_bandPaces) H → va_D A (wMD cy hm v_taped v_walkers v_loads v_pieces v_changeCosts v_planned v_isMarch v_clauseMany v_place v_end v_bad v_clauses v_codes v_open v_stacked v_isOver v_isBehind v_atW v_atL v_atT v_atH v_atM v_atI v_atQ v_packing v_packed v_goPace v_goMinutes v_spentAt v_ranChanges f_m_tape f_m_knee f_m_weight f_m_isLame f_m_loadWeight f_m_owner f_m_food f_m_miles f_m_slope f_m_clauseLetter f_m_sumFrom f_m_codeFrom f_m_codeTo f_m_code f_m_codeArg f_m_newLetter f_m_newSum f_m_newFrom f_m_newTo f_m_newCode f_m_newArg f_m_stack f_m_worth f_m_isRefused f_m_least f_m_packPounds f_m_packOwner f_m_room f_m_givenTo f_m_canBe f_m_setPounds f_m_plainTime f_m_muleTime f_m_planTo f_m_march f_m_tired f_m_ranMinutes f_m_tiredAhead f_m_isReached f_m_toEnd f_m_upTo f_m_upNext f_m_byChanges f_m_bandPaces) → va_S A s.heap H locs → lv_has ls 6 [(2, .int l_4), (1, .int l_3), (0, .ref (hm 0))] → W p l e (gRm 2) s m args below meth c H locs 0 0 Q (F0 m 4 ls []) := by
    intro n
    induction n with
    | zero => intro l_3 l_4 hL4_5_0 hL4_5_1 hL4_5_2 hL4_5_3 hm; exact absurd hm (by omega)
    | succ n ih4_5 =>
      intro l_3 l_4 hL4_5_0 hL4_5_1 hL4_5_2 hL4_5_3 hmL4_5 H locs ls hP hD hS hl
      refine lv_iload_n hx hb dX10_fits_4 rfl (lv_at hl 0 rfl) ?_
      refine lv_aload_n hx hb dX10_fits_5 rfl (lv_at hl 2 rfl) ?_
      refine gt_MD_MD_packed hx hb hts hown hK hP lwd_745 dX10_fits_6 ?_
      refine lv_icmp_ge (tgt := 38) hx hb dX10_fits_9 (by decide) (fun c_6 => ?_) (fun c_6 => ?_)
      · have gc_6 : v_packed.toInt ≤ l_4.toInt := i_le (rfl : v_packed.toInt = v_packed.toInt) (rfl : l_4.toInt = l_4.toInt) c_6
        have hleft : l_3.toNatClampNeg = leftN f_m_givenTo v_packed.toNatClampNeg := by
          rw [hL4_5_2, show l_4.toNatClampNeg = v_packed.toNatClampNeg by rw [i_ix (rfl : l_4.toInt = l_4.toInt), i_ix (rfl : v_packed.toInt = v_packed.toInt)]; omega]
        skip
        refine lv_iconst (v := 1) hx hb dX10_fits_38 (by decide) ?_
        refine lv_aload_n hx hb dX10_fits_39 rfl (lv_at hl 2 rfl) ?_
        refine gt_MD_MD_packed hx hb hts hown hK hP lwd_745 dX10_fits_40 ?_
        refine lv_ishl hx hb dX10_fits_43 ?_
        refine lv_topi (fun n_7 en_7 => ?_)
        have bn_7 := (i_sh1 en_7 (rfl : v_packed.toInt = v_packed.toInt) (by omega)).2
        have hsh : n_7.toNatClampNeg = 2 ^ v_packed.toNatClampNeg := sh1_tn en_7 (rfl : v_packed.toInt = v_packed.toInt) (by omega)
        skip
        refine lv_iconst (v := 1) hx hb dX10_fits_44 (by decide) ?_
        refine lv_isub hx hb dX10_fits_45 ?_
        refine lv_topi (fun n_8 en_8 => ?_)
        have tn_8 : n_8.toInt = n_7.toInt - 1 := i_sub en_8 (rfl : n_7.toInt = n_7.toInt) (by decide : (1 : Int32).toInt = 1) (by omega) (by omega)
        refine lv_istore_n (lv' := [(2, .int n_8), (1, .int l_3), (0, .ref (hm 0))]) hx hb dX10_fits_46 rfl hl (by decide) rfl (fun ls hl => ?_)
        refine lv_iconst (v := 0) hx hb dX10_fits_47 (by decide) ?_
        refine lv_istore_n (lv' := [(3, .int 0), (2, .int n_8), (1, .int l_3), (0, .ref (hm 0))]) hx hb dX10_fits_48 rfl hl (by decide) rfl (fun ls hl => ?_)
        have L49_15 : ∀ (n : Nat) (f_12 : Nat → Int32) (f_13 : Nat → Int32) (l_14 : Int32), (rg (0) 1 f_12) → (0 ≤ l_14.toInt ∧ l_14.toInt ≤ 1024) → (∀ j : Nat, (j : Int) < l_14.toInt → (f_12 j).toInt = (if j = 0 then 1 else 0) ∧ (f_13 j).toInt = spF (fun i => (f_m_packPounds i).toInt) v_packed.toNatClampNeg j) → 1025 - l_14.toInt < n → ∀ (H : Heap) (locs : List Loc) (ls : Array Slot), va_P D vwCl (wMD cy hm v_taped v_walkers v_loads v_pieces v_changeCosts v_planned v_isMarch v_clauseMany v_place v_end v_bad v_clauses v_codes v_open v_stacked v_isOver v_isBehind v_atW v_atL v_atT v_atH v_atM v_atI v_atQ v_packing v_packed v_goPace v_goMinutes v_spentAt v_ranChanges f_m_tape f_m_knee f_m_weight f_m_isLame f_m_loadWeight f_m_owner f_m_food f_m_miles f_m_slope f_m_clauseLetter f_m_sumFrom f_m_codeFrom f_m_codeTo f_m_code f_m_codeArg f_m_newLetter f_m_newSum f_m_newFrom f_m_newTo f_m_newCode f_m_newArg f_m_stack f_m_worth f_m_isRefused f_m_least f_m_packPounds f_m_packOwner f_m_room f_m_givenTo f_12 f_13 f_m_plainTime f_m_muleTime f_m_planTo f_m_march f_m_tired f_m_ranMinutes f_m_tiredAhead f_m_isReached f_m_toEnd f_m_upTo f_m_upNext f_m_byChanges f_m_bandPaces) H → va_D A (wMD cy hm v_taped v_walkers v_loads v_pieces v_changeCosts v_planned v_isMarch v_clauseMany v_place v_end v_bad v_clauses v_codes v_open v_stacked v_isOver v_isBehind v_atW v_atL v_atT v_atH v_atM v_atI v_atQ v_packing v_packed v_goPace v_goMinutes v_spentAt v_ranChanges f_m_tape f_m_knee f_m_weight f_m_isLame f_m_loadWeight f_m_owner f_m_food f_m_miles f_m_slope f_m_clauseLetter f_m_sumFrom f_m_codeFrom f_m_codeTo f_m_code f_m_codeArg f_m_newLetter f_m_newSum f_m_newFrom f_m_newTo f_m_newCode f_m_newArg f_m_stack f_m_worth f_m_isRefused f_m_least f_m_packPounds f_m_packOwner f_m_room f_m_givenTo f_12 f_13 f_m_plainTime f_m_muleTime f_m_planTo f_m_march f_m_tired f_m_ranMinutes f_m_tiredAhead f_m_isReached f_m_toEnd f_m_upTo f_m_upNext f_m_byChanges f_m_bandPaces) → va_S A s.heap H locs → lv_has ls 6 [(3, .int l_14), (2, .int n_8), (1, .int l_3), (0, .ref (hm 0))] → W p l e (gRm 2) s m args below meth c H locs 0 0 Q (F0 m 49 ls []) := by
          intro n
          induction n with
          | zero => intro f_12 f_13 l_14 hL49_15_0 hL49_15_1 hL49_15_2 hm; exact absurd hm (by omega)
          | succ n ih49_15 =>
            intro f_12 f_13 l_14 hL49_15_0 hL49_15_1 hL49_15_2 hmL49_15 H locs ls hP hD hS hl
            refine lv_iload_n hx hb dX10_fits_49 rfl (lv_at hl 0 rfl) ?_
            refine lv_iload_n hx hb dX10_fits_50 rfl (lv_at hl 1 rfl) ?_
            refine lv_icmp_gt (tgt := 129) hx hb dX10_fits_51 (by decide) (fun c_16 => ?_) (fun c_16 => ?_)
            · have gc_16 : n_7.toInt - 1 < l_14.toInt := i_lt tn_8 (rfl : l_14.toInt = l_14.toInt) c_16
              have hspn : ∀ j : Nat, j < 2 ^ v_packed.toNatClampNeg → (f_13 j).toInt = spF (fun i => (f_m_packPounds i).toInt) v_packed.toNatClampNeg j := fun j hj => (hL49_15_2 j (by rw [← hsh, i_ix (rfl : n_7.toInt = n_7.toInt)] at hj; omega)).2
              have hcb0 : L3 f_12 (fun s9 => can (fun i => (f_m_packPounds i).toInt) (fun i => (f_m_room i).toInt) (pkB v_packing) v_packed.toNatClampNeg 0 s9) (leftN f_m_givenTo v_packed.toNatClampNeg) := fun s hs => by
                have h1 := sbs_le hs
                have h2 := leftN_lt f_m_givenTo v_packed.toNatClampNeg
                have h4 : s < 2 ^ v_packed.toNatClampNeg := by omega
                have h3 := (hL49_15_2 s (by rw [← hsh, i_ix (rfl : n_7.toInt = n_7.toInt)] at h4; omega)).1
                rw [h3]
                show (if s = 0 then (1 : Int) else 0) = 1 ↔ s = 0
                by_cases q : s = 0
                · rw [if_pos q]; exact ⟨fun _ => q, fun _ => rfl⟩
                · rw [if_neg q]; exact ⟨fun z => absurd z (by decide), fun z => absurd z q⟩
              skip
              refine lv_iconst (v := 0) hx hb dX10_fits_129 (by decide) ?_
              refine lv_istore_n (lv' := [(3, .int 0), (2, .int n_8), (1, .int l_3), (0, .ref (hm 0))]) hx hb dX10_fits_130 rfl hl (by decide) rfl (fun ls hl => ?_)
              have L131_21 : ∀ (n : Nat) (f_19 : Nat → Int32) (l_20 : Int32), (rg (0) 1 f_19) → (0 ≤ l_20.toInt ∧ l_20.toInt ≤ 6) → (L3 f_19 (fun s9 => can (fun i => (f_m_packPounds i).toInt) (fun i => (f_m_room i).toInt) (pkB v_packing) v_packed.toNatClampNeg l_20.toNatClampNeg s9) (leftN f_m_givenTo v_packed.toNatClampNeg)) → (l_20.toInt ≤ v_walkers.toInt) → 7 - l_20.toInt < n → ∀ (H : Heap) (locs : List Loc) (ls : Array Slot), va_P D vwCl (wMD cy hm v_taped v_walkers v_loads v_pieces v_changeCosts v_planned v_isMarch v_clauseMany v_place v_end v_bad v_clauses v_codes v_open v_stacked v_isOver v_isBehind v_atW v_atL v_atT v_atH v_atM v_atI v_atQ v_packing v_packed v_goPace v_goMinutes v_spentAt v_ranChanges f_m_tape f_m_knee f_m_weight f_m_isLame f_m_loadWeight f_m_owner f_m_food f_m_miles f_m_slope f_m_clauseLetter f_m_sumFrom f_m_codeFrom f_m_codeTo f_m_code f_m_codeArg f_m_newLetter f_m_newSum f_m_newFrom f_m_newTo f_m_newCode f_m_newArg f_m_stack f_m_worth f_m_isRefused f_m_least f_m_packPounds f_m_packOwner f_m_room f_m_givenTo f_19 f_13 f_m_plainTime f_m_muleTime f_m_planTo f_m_march f_m_tired f_m_ranMinutes f_m_tiredAhead f_m_isReached f_m_toEnd f_m_upTo f_m_upNext f_m_byChanges f_m_bandPaces) H → va_D A (wMD cy hm v_taped v_walkers v_loads v_pieces v_changeCosts v_planned v_isMarch v_clauseMany v_place v_end v_bad v_clauses v_codes v_open v_stacked v_isOver v_isBehind v_atW v_atL v_atT v_atH v_atM v_atI v_atQ v_packing v_packed v_goPace v_goMinutes v_spentAt v_ranChanges f_m_tape f_m_knee f_m_weight f_m_isLame f_m_loadWeight f_m_owner f_m_food f_m_miles f_m_slope f_m_clauseLetter f_m_sumFrom f_m_codeFrom f_m_codeTo f_m_code f_m_codeArg f_m_newLetter f_m_newSum f_m_newFrom f_m_newTo f_m_newCode f_m_newArg f_m_stack f_m_worth f_m_isRefused f_m_least f_m_packPounds f_m_packOwner f_m_room f_m_givenTo f_19 f_13 f_m_plainTime f_m_muleTime f_m_planTo f_m_march f_m_tired f_m_ranMinutes f_m_tiredAhead f_m_isReached f_m_toEnd f_m_upTo f_m_upNext f_m_byChanges f_m_bandPaces) → va_S A s.heap H locs → lv_has ls 6 [(3, .int l_20), (2, .int n_8), (1, .int l_3), (0, .ref (hm 0))] → W p l e (gRm 2) s m args below meth c H locs 0 0 Q (F0 m 131 ls []) := by
                intro n
                induction n with
                | zero => intro f_19 l_20 hL131_21_0 hL131_21_1 hL131_21_2 hL131_21_3 hm; exact absurd hm (by omega)
                | succ n ih131_21 =>
                  intro f_19 l_20 hL131_21_0 hL131_21_1 hL131_21_2 hL131_21_3 hmL131_21 H locs ls hP hD hS hl
                  refine lv_iload_n hx hb dX10_fits_131 rfl (lv_at hl 0 rfl) ?_
                  refine lv_aload_n hx hb dX10_fits_132 rfl (lv_at hl 3 rfl) ?_
                  refine gt_MD_MD_walkers hx hb hts hown hK hP lwd_221 dX10_fits_133 ?_
                  refine lv_icmp_ge (tgt := 248) hx hb dX10_fits_136 (by decide) (fun c_22 => ?_) (fun c_22 => ?_)
                  · have gc_22 : v_walkers.toInt ≤ l_20.toInt := i_le (rfl : v_walkers.toInt = v_walkers.toInt) (rfl : l_20.toInt = l_20.toInt) c_22
                    have hwn : l_20.toNatClampNeg = v_walkers.toNatClampNeg := by rw [i_ix (rfl : l_20.toInt = l_20.toInt), i_ix (rfl : v_walkers.toInt = v_walkers.toInt)]; omega
                    have hl3 := hL131_21_2
                    skip
                    refine lv_aload_n hx hb dX10_fits_248 rfl (lv_at hl 3 rfl) ?_
                    refine gt_MD_MD_canBe hx hb hts hown hK hP lwd_185 dX10_fits_249 ?_
                    refine lv_iload_n hx hb dX10_fits_252 rfl (lv_at hl 2 rfl) ?_
                    refine al_m_canBe hx hb hK hP hL131_21_0 (i_in (rfl : l_3.toInt = l_3.toInt) (by omega) (by omega)) dX10_fits_253 (fun n_23 en_23 bn_23 => ?_)
                    exact hrt n_23 f_19 f_13 ⟨(by omega), (by rw [hwn] at hl3; have h9 := hl3 _ (sbs_rf _); rw [← hleft, ← en_23] at h9; rw [← hleft]; exact ⟨fun z => h9.mp z, fun z => h9.mpr z⟩), hL131_21_0⟩ hP hD hS (nar_b (i_01' (by omega))) dX10_fits_254
                  · have gc_22 : l_20.toInt < v_walkers.toInt := i_nle (rfl : v_walkers.toInt = v_walkers.toInt) (rfl : l_20.toInt = l_20.toInt) c_22
                    skip
                    refine lv_aload_n hx hb dX10_fits_139 rfl (lv_at hl 3 rfl) ?_
                    refine gt_MD_MD_packing hx hb hts hown hK hP lwd_744 dX10_fits_140 ?_
                    refine lv_iload_n hx hb dX10_fits_143 rfl (lv_at hl 0 rfl) ?_
                    refine xi hD hS hA (xS (As := [.int v_packing, .int l_20]) (rest := []) hx hb hml hown hts hK hP hD hS hA NT_ok hN hAe hl.1 ⟨Nat.le_refl _, Nat.le_refl _⟩ (c_X10_has l D cy hm v_taped v_walkers v_loads v_pieces v_changeCosts v_planned v_isMarch v_clauseMany v_place v_end v_bad v_clauses v_codes v_open v_stacked v_isOver v_isBehind v_atW v_atL v_atT v_atH v_atM v_atI v_atQ v_packing v_packed v_goPace v_goMinutes v_spentAt v_ranChanges f_m_tape f_m_knee f_m_weight f_m_isLame f_m_loadWeight f_m_owner f_m_food f_m_miles f_m_slope f_m_clauseLetter f_m_sumFrom f_m_codeFrom f_m_codeTo f_m_code f_m_codeArg f_m_newLetter f_m_newSum f_m_newFrom f_m_newTo f_m_newCode f_m_newArg f_m_stack f_m_worth f_m_isRefused f_m_least f_m_packPounds f_m_packOwner f_m_room f_m_givenTo f_19 f_13 f_m_plainTime f_m_muleTime f_m_planTo f_m_march f_m_tired f_m_ranMinutes f_m_tiredAhead f_m_isReached f_m_toEnd f_m_upTo f_m_upNext f_m_byChanges f_m_bandPaces H.size v_packing l_20) (gi_S lwd_750 lwd_751 lwd_5 lwd_752) hd_X10_has ⟨Nat.le_of_ble_eq_true rfl, Nat.le_of_ble_eq_true rfl⟩ rfl (Nat.le_of_ble_eq_true rfl) dX10_fits_144) (fun r_25 u_24 H locs hw hP hD hS => ?_)
                    try dsimp only at hw hP hD
                    obtain ⟨p_26, p_27⟩ := hw
                    refine lv_if_ne (tgt := 153) hx hb dX10_fits_147 (by decide) (fun c_28 => ?_) (fun c_28 => ?_)
                    · have gc_28 : r_25.toInt ≠ 0 := i_ne (rfl : r_25.toInt = r_25.toInt) (by decide : (0 : Int32).toInt = 0) c_28
                      refine lv_iload_n hx hb dX10_fits_153 rfl (lv_at hl 2 rfl) ?_
                      refine lv_istore (lv' := [(4, .int l_3), (3, .int l_20), (2, .int n_8), (1, .int l_3), (0, .ref (hm 0))]) hx hb dX10_fits_154 hl (by decide) rfl (fun ls hl => ?_)
                      have L156_33 : ∀ (n : Nat) (f_31 : Nat → Int32) (l_32 : Int32), (rg (0) 1 f_31) → (0 ≤ l_32.toInt ∧ l_32.toInt ≤ 1023) → (L4 f_31 (fun s9 => can (fun i => (f_m_packPounds i).toInt) (fun i => (f_m_room i).toInt) (pkB v_packing) v_packed.toNatClampNeg l_20.toNatClampNeg s9) (fun s9 => can (fun i => (f_m_packPounds i).toInt) (fun i => (f_m_room i).toInt) (pkB v_packing) v_packed.toNatClampNeg (l_20.toNatClampNeg + 1) s9) (leftN f_m_givenTo v_packed.toNatClampNeg) l_32.toNatClampNeg) → l_32.toInt + 1 < n → ∀ (H : Heap) (locs : List Loc) (ls : Array Slot), va_P D vwCl (wMD cy hm v_taped v_walkers v_loads v_pieces v_changeCosts v_planned v_isMarch v_clauseMany v_place v_end v_bad v_clauses v_codes v_open v_stacked v_isOver v_isBehind v_atW v_atL v_atT v_atH v_atM v_atI v_atQ v_packing v_packed v_goPace v_goMinutes v_spentAt v_ranChanges f_m_tape f_m_knee f_m_weight f_m_isLame f_m_loadWeight f_m_owner f_m_food f_m_miles f_m_slope f_m_clauseLetter f_m_sumFrom f_m_codeFrom f_m_codeTo f_m_code f_m_codeArg f_m_newLetter f_m_newSum f_m_newFrom f_m_newTo f_m_newCode f_m_newArg f_m_stack f_m_worth f_m_isRefused f_m_least f_m_packPounds f_m_packOwner f_m_room f_m_givenTo f_31 f_13 f_m_plainTime f_m_muleTime f_m_planTo f_m_march f_m_tired f_m_ranMinutes f_m_tiredAhead f_m_isReached f_m_toEnd f_m_upTo f_m_upNext f_m_byChanges f_m_bandPaces) H → va_D A (wMD cy hm v_taped v_walkers v_loads v_pieces v_changeCosts v_planned v_isMarch v_clauseMany v_place v_end v_bad v_clauses v_codes v_open v_stacked v_isOver v_isBehind v_atW v_atL v_atT v_atH v_atM v_atI v_atQ v_packing v_packed v_goPace v_goMinutes v_spentAt v_ranChanges f_m_tape f_m_knee f_m_weight f_m_isLame f_m_loadWeight f_m_owner f_m_food f_m_miles f_m_slope f_m_clauseLetter f_m_sumFrom f_m_codeFrom f_m_codeTo f_m_code f_m_codeArg f_m_newLetter f_m_newSum f_m_newFrom f_m_newTo f_m_newCode f_m_newArg f_m_stack f_m_worth f_m_isRefused f_m_least f_m_packPounds f_m_packOwner f_m_room f_m_givenTo f_31 f_13 f_m_plainTime f_m_muleTime f_m_planTo f_m_march f_m_tired f_m_ranMinutes f_m_tiredAhead f_m_isReached f_m_toEnd f_m_upTo f_m_upNext f_m_byChanges f_m_bandPaces) → va_S A s.heap H locs → lv_has ls 6 [(4, .int l_32), (3, .int l_20), (2, .int n_8), (1, .int l_3), (0, .ref (hm 0))] → W p l e (gRm 2) s m args below meth c H locs 0 0 Q (F0 m 156 ls []) := by
                        intro n
                        induction n with
                        | zero => intro f_31 l_32 hL156_33_0 hL156_33_1 hL156_33_2 hm; exact absurd hm (by omega)
                        | succ n ih156_33 =>
                          intro f_31 l_32 hL156_33_0 hL156_33_1 hL156_33_2 hmL156_33 H locs ls hP hD hS hl
                          refine lv_iload hx hb dX10_fits_156 (lv_at hl 0 rfl) ?_
                          refine lv_if_le (tgt := 242) hx hb dX10_fits_158 (by decide) (fun c_34 => ?_) (fun c_34 => ?_)
                          · have gc_34 : l_32.toInt ≤ 0 := i_le (rfl : l_32.toInt = l_32.toInt) (by decide : (0 : Int32).toInt = 0) c_34
                            obtain ⟨n_35, en_35⟩ : ∃ y : Int32, y = l_20 + 1 := ⟨_, rfl⟩
                            have tn_35 : n_35.toInt = l_20.toInt + 1 := i_add en_35 (rfl : l_20.toInt = l_20.toInt) (by decide : (1 : Int32).toInt = 1) (by omega) (by omega)
                            refine lv_iinc (v := n_35) (lv' := [(3, .int n_35), (4, .int l_32), (2, .int n_8), (1, .int l_3), (0, .ref (hm 0))]) hx hb dX10_fits_242 hl (k := 1) rfl (by rw [en_35]; rfl) (by decide) rfl (fun ls hl => ?_)
                            refine lv_goto (tgt := 131) hx hb dX10_fits_245 (by decide) ?_
                            exact ih131_21 f_31 n_35 hL156_33_0 (by omega) (by
                              have e9 : n_35.toNatClampNeg = l_20.toNatClampNeg + 1 := by rw [i_ix tn_35, i_ix (rfl : l_20.toInt = l_20.toInt)]; omega
                              rw [e9]
                              have hz : l_32.toNatClampNeg = 0 := by rw [i_ix (rfl : l_32.toInt = l_32.toInt)]; omega
                              have h4 := hL156_33_2
                              rw [hz] at h4
                              exact L4_end h4 (can_0 _) (can_0 _)) (by omega) (by omega) _ _ _ hP hD hS (lv_sub hl [0, 2, 3, 4] rfl)
                          · have gc_34 : 0 < l_32.toInt := i_nle (rfl : l_32.toInt = l_32.toInt) (by decide : (0 : Int32).toInt = 0) c_34
                            skip
                            refine lv_iload hx hb dX10_fits_161 (lv_at hl 0 rfl) ?_
                            refine lv_istore (lv' := [(5, .int l_32), (4, .int l_32), (3, .int l_20), (2, .int n_8), (1, .int l_3), (0, .ref (hm 0))]) hx hb dX10_fits_163 hl (by decide) rfl (fun ls hl => ?_)
                            have L165_40 : ∀ (n : Nat) (f_38 : Nat → Int32) (l_39 : Int32), (rg (0) 1 f_38) → (0 ≤ l_39.toInt ∧ l_39.toInt ≤ 1023) → (L5 f_38 (fun s9 => can (fun i => (f_m_packPounds i).toInt) (fun i => (f_m_room i).toInt) (pkB v_packing) v_packed.toNatClampNeg l_20.toNatClampNeg s9) (fun s9 => can (fun i => (f_m_packPounds i).toInt) (fun i => (f_m_room i).toInt) (pkB v_packing) v_packed.toNatClampNeg (l_20.toNatClampNeg + 1) s9) (leftN f_m_givenTo v_packed.toNatClampNeg) l_32.toNatClampNeg (fun t9 => spF (fun i => (f_m_packPounds i).toInt) v_packed.toNatClampNeg t9 ≤ (f_m_room l_20.toNatClampNeg).toInt ∧ can (fun i => (f_m_packPounds i).toInt) (fun i => (f_m_room i).toInt) (pkB v_packing) v_packed.toNatClampNeg l_20.toNatClampNeg (dif l_32.toNatClampNeg t9)) l_39.toNatClampNeg) → l_39.toInt + 1 < n → ∀ (H : Heap) (locs : List Loc) (ls : Array Slot), va_P D vwCl (wMD cy hm v_taped v_walkers v_loads v_pieces v_changeCosts v_planned v_isMarch v_clauseMany v_place v_end v_bad v_clauses v_codes v_open v_stacked v_isOver v_isBehind v_atW v_atL v_atT v_atH v_atM v_atI v_atQ v_packing v_packed v_goPace v_goMinutes v_spentAt v_ranChanges f_m_tape f_m_knee f_m_weight f_m_isLame f_m_loadWeight f_m_owner f_m_food f_m_miles f_m_slope f_m_clauseLetter f_m_sumFrom f_m_codeFrom f_m_codeTo f_m_code f_m_codeArg f_m_newLetter f_m_newSum f_m_newFrom f_m_newTo f_m_newCode f_m_newArg f_m_stack f_m_worth f_m_isRefused f_m_least f_m_packPounds f_m_packOwner f_m_room f_m_givenTo f_38 f_13 f_m_plainTime f_m_muleTime f_m_planTo f_m_march f_m_tired f_m_ranMinutes f_m_tiredAhead f_m_isReached f_m_toEnd f_m_upTo f_m_upNext f_m_byChanges f_m_bandPaces) H → va_D A (wMD cy hm v_taped v_walkers v_loads v_pieces v_changeCosts v_planned v_isMarch v_clauseMany v_place v_end v_bad v_clauses v_codes v_open v_stacked v_isOver v_isBehind v_atW v_atL v_atT v_atH v_atM v_atI v_atQ v_packing v_packed v_goPace v_goMinutes v_spentAt v_ranChanges f_m_tape f_m_knee f_m_weight f_m_isLame f_m_loadWeight f_m_owner f_m_food f_m_miles f_m_slope f_m_clauseLetter f_m_sumFrom f_m_codeFrom f_m_codeTo f_m_code f_m_codeArg f_m_newLetter f_m_newSum f_m_newFrom f_m_newTo f_m_newCode f_m_newArg f_m_stack f_m_worth f_m_isRefused f_m_least f_m_packPounds f_m_packOwner f_m_room f_m_givenTo f_38 f_13 f_m_plainTime f_m_muleTime f_m_planTo f_m_march f_m_tired f_m_ranMinutes f_m_tiredAhead f_m_isReached f_m_toEnd f_m_upTo f_m_upNext f_m_byChanges f_m_bandPaces) → va_S A s.heap H locs → lv_has ls 6 [(5, .int l_39), (4, .int l_32), (3, .int l_20), (2, .int n_8), (1, .int l_3), (0, .ref (hm 0))] → W p l e (gRm 2) s m args below meth c H locs 0 0 Q (F0 m 165 ls []) := by
                              intro n
                              induction n with
                              | zero => intro f_38 l_39 hL165_40_0 hL165_40_1 hL165_40_2 hm; exact absurd hm (by omega)
                              | succ n ih165_40 =>
                                intro f_38 l_39 hL165_40_0 hL165_40_1 hL165_40_2 hmL165_40 H locs ls hP hD hS hl
                                refine lv_iload hx hb dX10_fits_165 (lv_at hl 0 rfl) ?_
                                refine lv_if_le (tgt := 231) hx hb dX10_fits_167 (by decide) (fun c_41 => ?_) (fun c_41 => ?_)
                                · have gc_41 : l_39.toInt ≤ 0 := i_le (rfl : l_39.toInt = l_39.toInt) (by decide : (0 : Int32).toInt = 0) c_41
                                  skip
                                  refine lv_iload hx hb dX10_fits_231 (lv_at hl 1 rfl) ?_
                                  refine lv_iconst (v := 1) hx hb dX10_fits_233 (by decide) ?_
                                  refine lv_isub hx hb dX10_fits_234 ?_
                                  refine lv_topi (fun n_42 en_42 => ?_)
                                  have tn_42 : n_42.toInt = l_32.toInt - 1 := i_sub en_42 (rfl : l_32.toInt = l_32.toInt) (by decide : (1 : Int32).toInt = 1) (by omega) (by omega)
                                  skip
                                  refine lv_iload_n hx hb dX10_fits_235 rfl (lv_at hl 4 rfl) ?_
                                  refine lv_iand hx hb dX10_fits_236 ?_
                                  refine lv_topi (fun n_43 en_43 => ?_)
                                  have bn_43 := i_andl en_43 (show 0 ≤ n_42.toInt by omega)
                                  refine lv_istore (lv' := [(4, .int n_43), (5, .int l_39), (3, .int l_20), (2, .int n_8), (1, .int l_3), (0, .ref (hm 0))]) hx hb dX10_fits_237 hl (by decide) rfl (fun ls hl => ?_)
                                  refine lv_goto (tgt := 156) hx hb dX10_fits_239 (by decide) ?_
                                  exact ih156_33 f_38 n_43 hL165_40_0 (by omega) (by
                                    rw [and_tn en_43 (by omega) (by omega), hleft, show n_42.toNatClampNeg = l_32.toNatClampNeg - 1 by rw [i_ix tn_42, i_ix (rfl : l_32.toInt = l_32.toInt)]; omega]
                                    exact L5_end hL165_40_2 (by first | exact Or.inl (by rw [i_ix (rfl : l_39.toInt = l_39.toInt)]; omega) | exact Or.inr (by rw [← D]; omega)) (by rw [i_ix (rfl : l_32.toInt = l_32.toInt)]; omega) (fun z => z.imp id (fun y => by obtain ⟨y1, t, y2, y3, y4, y5⟩ := y; exact ⟨t, y2, y3, y4, y5⟩))) (by omega) _ _ _ hP hD hS (lv_sub hl [0, 2, 3, 4, 5] rfl)
                                · have gc_41 : 0 < l_39.toInt := i_nle (rfl : l_39.toInt = l_39.toInt) (by decide : (0 : Int32).toInt = 0) c_41
                                  skip
                                  refine lv_aload_n hx hb dX10_fits_170 rfl (lv_at hl 5 rfl) ?_
                                  refine gt_MD_MD_canBe hx hb hts hown hK hP lwd_185 dX10_fits_171 ?_
                                  refine lv_iload hx hb dX10_fits_174 (lv_at hl 1 rfl) ?_
                                  refine al_m_canBe hx hb hK hP hL165_40_0 (i_in (rfl : l_32.toInt = l_32.toInt) (by omega) (by omega)) dX10_fits_176 (fun n_44 en_44 bn_44 => ?_)
                                  refine lv_if_ne (tgt := 231) hx hb dX10_fits_177 (by decide) (fun c_45 => ?_) (fun c_45 => ?_)
                                  · have gc_45 : n_44.toInt ≠ 0 := i_ne (rfl : n_44.toInt = n_44.toInt) (by decide : (0 : Int32).toInt = 0) c_45
                                    skip
                                    refine lv_iload hx hb dX10_fits_231 (lv_at hl 1 rfl) ?_
                                    refine lv_iconst (v := 1) hx hb dX10_fits_233 (by decide) ?_
                                    refine lv_isub hx hb dX10_fits_234 ?_
                                    refine lv_topi (fun n_46 en_46 => ?_)
                                    have tn_46 : n_46.toInt = l_32.toInt - 1 := i_sub en_46 (rfl : l_32.toInt = l_32.toInt) (by decide : (1 : Int32).toInt = 1) (by omega) (by omega)
                                    skip
                                    refine lv_iload_n hx hb dX10_fits_235 rfl (lv_at hl 4 rfl) ?_
                                    refine lv_iand hx hb dX10_fits_236 ?_
                                    refine lv_topi (fun n_47 en_47 => ?_)
                                    have bn_47 := i_andl en_47 (show 0 ≤ n_46.toInt by omega)
                                    refine lv_istore (lv' := [(4, .int n_47), (5, .int l_39), (3, .int l_20), (2, .int n_8), (1, .int l_3), (0, .ref (hm 0))]) hx hb dX10_fits_237 hl (by decide) rfl (fun ls hl => ?_)
                                    refine lv_goto (tgt := 156) hx hb dX10_fits_239 (by decide) ?_
                                    exact ih156_33 f_38 n_47 hL165_40_0 (by omega) (by
                                      rw [and_tn en_47 (by omega) (by omega), hleft, show n_46.toNatClampNeg = l_32.toNatClampNeg - 1 by rw [i_ix tn_46, i_ix (rfl : l_32.toInt = l_32.toInt)]; omega]
                                      exact L5_end hL165_40_2 (by first | exact Or.inl (by rw [i_ix (rfl : l_39.toInt = l_39.toInt)]; omega) | exact Or.inr (by rw [← en_44]; omega)) (by rw [i_ix (rfl : l_32.toInt = l_32.toInt)]; omega) (fun z => z.imp id (fun y => by obtain ⟨y1, t, y2, y3, y4, y5⟩ := y; exact ⟨t, y2, y3, y4, y5⟩))) (by omega) _ _ _ hP hD hS (lv_sub hl [0, 2, 3, 4, 5] rfl)
                                  · have gc_45 : n_44.toInt = 0 := i_eq (rfl : n_44.toInt = n_44.toInt) (by decide : (0 : Int32).toInt = 0) c_45
                                    skip
                                    refine lv_aload_n hx hb dX10_fits_180 rfl (lv_at hl 5 rfl) ?_
                                    refine gt_MD_MD_setPounds hx hb hts hown hK hP lwd_186 dX10_fits_181 ?_
                                    refine lv_iload hx hb dX10_fits_184 (lv_at hl 0 rfl) ?_
                                    refine al_m_setPounds hx hb hK hP (i_in (rfl : l_39.toInt = l_39.toInt) (by omega) (by omega)) dX10_fits_186 (fun n_48 en_48 => ?_)
                                    refine lv_aload_n hx hb dX10_fits_187 rfl (lv_at hl 5 rfl) ?_
                                    refine gt_MD_MD_room hx hb hts hown hK hP lwd_183 dX10_fits_188 ?_
                                    refine lv_iload_n hx hb dX10_fits_191 rfl (lv_at hl 2 rfl) ?_
                                    refine al_m_room hx hb hK hP (i_in (rfl : l_20.toInt = l_20.toInt) (by omega) (by omega)) dX10_fits_192 (fun n_49 en_49 => ?_)
                                    refine lv_icmp_gt (tgt := 219) hx hb dX10_fits_193 (by decide) (fun c_50 => ?_) (fun c_50 => ?_)
                                    · have gc_50 : n_49.toInt < n_48.toInt := i_lt (rfl : n_49.toInt = n_49.toInt) (rfl : n_48.toInt = n_48.toInt) c_50
                                      refine lv_iload hx hb dX10_fits_219 (lv_at hl 0 rfl) ?_
                                      refine lv_iconst (v := 1) hx hb dX10_fits_221 (by decide) ?_
                                      refine lv_isub hx hb dX10_fits_222 ?_
                                      refine lv_topi (fun n_51 en_51 => ?_)
                                      have tn_51 : n_51.toInt = l_39.toInt - 1 := i_sub en_51 (rfl : l_39.toInt = l_39.toInt) (by decide : (1 : Int32).toInt = 1) (by omega) (by omega)
                                      skip
                                      refine lv_iload hx hb dX10_fits_223 (lv_at hl 1 rfl) ?_
                                      refine lv_iand hx hb dX10_fits_225 ?_
                                      refine lv_topi (fun n_52 en_52 => ?_)
                                      have bn_52 := i_andl en_52 (show 0 ≤ n_51.toInt by omega)
                                      refine lv_istore (lv' := [(5, .int n_52), (4, .int l_32), (3, .int l_20), (2, .int n_8), (1, .int l_3), (0, .ref (hm 0))]) hx hb dX10_fits_226 hl (by decide) rfl (fun ls hl => ?_)
                                      refine lv_goto (tgt := 165) hx hb dX10_fits_228 (by decide) ?_
                                      exact ih165_40 f_38 n_52 hL165_40_0 (by omega) (by
                                        rw [and_tn en_52 (by omega) (by omega), show n_51.toNatClampNeg = l_39.toNatClampNeg - 1 by rw [i_ix tn_51, i_ix (rfl : l_39.toInt = l_39.toInt)]; omega]
                                        have hl5 := hL165_40_2
                                        have hkm := sbs_le hl5.2.1
                                        have hml := sbs_le hl5.1
                                        have hll := leftN_lt f_m_givenTo v_packed.toNatClampNeg
                                        have hs5 := hspn l_39.toNatClampNeg (by omega)
                                        rw [← en_48] at hs5
                                        have hr5 : (f_m_room l_20.toNatClampNeg).toInt = n_49.toInt := by rw [← en_49]
                                        exact L5_next hl5 (fun z => by have := z.1; rw [hr5, ← hs5] at this; omega)) (by omega) _ _ _ hP hD hS (lv_sub hl [0, 1, 2, 3, 4, 5] rfl)
                                    · have gc_50 : n_48.toInt ≤ n_49.toInt := i_nlt (rfl : n_49.toInt = n_49.toInt) (rfl : n_48.toInt = n_48.toInt) c_50
                                      skip
                                      refine lv_aload_n hx hb dX10_fits_196 rfl (lv_at hl 5 rfl) ?_
                                      refine gt_MD_MD_canBe hx hb hts hown hK hP lwd_185 dX10_fits_197 ?_
                                      refine lv_iload hx hb dX10_fits_200 (lv_at hl 1 rfl) ?_
                                      refine lv_iload hx hb dX10_fits_202 (lv_at hl 0 rfl) ?_
                                      refine lv_iconst (v := (-1)) hx hb dX10_fits_204 (by decide) ?_
                                      refine lv_ixor hx hb dX10_fits_205 ?_
                                      refine lv_topi (fun n_53 en_53 => ?_)
                                      skip
                                      refine lv_iand hx hb dX10_fits_206 ?_
                                      refine lv_topi (fun n_54 en_54 => ?_)
                                      have bn_54 := i_andl en_54 (show 0 ≤ l_32.toInt by omega)
                                      skip
                                      refine al_m_canBe hx hb hK hP hL165_40_0 (i_in (rfl : n_54.toInt = n_54.toInt) (by omega) (by omega)) dX10_fits_207 (fun n_55 en_55 bn_55 => ?_)
                                      refine lv_if_eq (tgt := 219) hx hb dX10_fits_208 (by decide) (fun c_56 => ?_) (fun c_56 => ?_)
                                      · have gc_56 : n_55.toInt = 0 := i_eq (rfl : n_55.toInt = n_55.toInt) (by decide : (0 : Int32).toInt = 0) c_56
                                        refine lv_iload hx hb dX10_fits_219 (lv_at hl 0 rfl) ?_
                                        refine lv_iconst (v := 1) hx hb dX10_fits_221 (by decide) ?_
                                        refine lv_isub hx hb dX10_fits_222 ?_
                                        refine lv_topi (fun n_57 en_57 => ?_)
                                        have tn_57 : n_57.toInt = l_39.toInt - 1 := i_sub en_57 (rfl : l_39.toInt = l_39.toInt) (by decide : (1 : Int32).toInt = 1) (by omega) (by omega)
                                        skip
                                        refine lv_iload hx hb dX10_fits_223 (lv_at hl 1 rfl) ?_
                                        refine lv_iand hx hb dX10_fits_225 ?_
                                        refine lv_topi (fun n_58 en_58 => ?_)
                                        have bn_58 := i_andl en_58 (show 0 ≤ n_57.toInt by omega)
                                        refine lv_istore (lv' := [(5, .int n_58), (4, .int l_32), (3, .int l_20), (2, .int n_8), (1, .int l_3), (0, .ref (hm 0))]) hx hb dX10_fits_226 hl (by decide) rfl (fun ls hl => ?_)
                                        refine lv_goto (tgt := 165) hx hb dX10_fits_228 (by decide) ?_
                                        exact ih165_40 f_38 n_58 hL165_40_0 (by omega) (by
                                          rw [and_tn en_58 (by omega) (by omega), show n_57.toNatClampNeg = l_39.toNatClampNeg - 1 by rw [i_ix tn_57, i_ix (rfl : l_39.toInt = l_39.toInt)]; omega]
                                          have hl5 := hL165_40_2
                                          have hkm := sbs_le hl5.2.1
                                          have hml := sbs_le hl5.1
                                          have hll := leftN_lt f_m_givenTo v_packed.toNatClampNeg
                                          have hs5 := hspn l_39.toNatClampNeg (by omega)
                                          rw [← en_48] at hs5
                                          have hr5 : (f_m_room l_20.toNatClampNeg).toInt = n_49.toInt := by rw [← en_49]
                                          have hdf : n_54.toNatClampNeg = dif l_32.toNatClampNeg l_39.toNatClampNeg := dif_tn en_53 en_54 (by omega) (by omega)
                                          have hk0 : l_39.toNatClampNeg ≠ 0 := by rw [i_ix (rfl : l_39.toInt = l_39.toInt)]; omega
                                          have hlt := dif_lt hl5.2.1 hk0
                                          have hcd := hl5.2.2.2.1 (dif l_32.toNatClampNeg l_39.toNatClampNeg) (sbs_tr (fun i hi => by rw [dif_bit, Bool.and_eq_true] at hi; exact hi.1) hl5.1) hlt
                                          rw [← hdf, ← en_55] at hcd
                                          exact L5_next hl5 (fun z => by rw [← hdf] at z; have := hcd.mpr z.2; omega)) (by omega) _ _ _ hP hD hS (lv_sub hl [0, 1, 2, 3, 4, 5] rfl)
                                      · have gc_56 : n_55.toInt ≠ 0 := i_ne (rfl : n_55.toInt = n_55.toInt) (by decide : (0 : Int32).toInt = 0) c_56
                                        skip
                                        refine lv_aload_n hx hb dX10_fits_211 rfl (lv_at hl 5 rfl) ?_
                                        refine gt_MD_MD_canBe hx hb hts hown hK hP lwd_185 dX10_fits_212 ?_
                                        refine lv_iload hx hb dX10_fits_215 (lv_at hl 1 rfl) ?_
                                        refine lv_iconst (v := 1) hx hb dX10_fits_217 (by decide) ?_
                                        refine as_m_canBe (x := 1) hx hb hK hP hD hS hL165_40_0 (i_in (rfl : l_32.toInt = l_32.toInt) (by omega) (by omega)) (by decide) dX10_fits_218 (fun f_59 ef_59 rf_59 H locs hP hD hS => ?_)
                                        refine lv_iload hx hb dX10_fits_219 (lv_at hl 0 rfl) ?_
                                        refine lv_iconst (v := 1) hx hb dX10_fits_221 (by decide) ?_
                                        refine lv_isub hx hb dX10_fits_222 ?_
                                        refine lv_topi (fun n_60 en_60 => ?_)
                                        have tn_60 : n_60.toInt = l_39.toInt - 1 := i_sub en_60 (rfl : l_39.toInt = l_39.toInt) (by decide : (1 : Int32).toInt = 1) (by omega) (by omega)
                                        skip
                                        refine lv_iload hx hb dX10_fits_223 (lv_at hl 1 rfl) ?_
                                        refine lv_iand hx hb dX10_fits_225 ?_
                                        refine lv_topi (fun n_61 en_61 => ?_)
                                        have bn_61 := i_andl en_61 (show 0 ≤ n_60.toInt by omega)
                                        refine lv_istore (lv' := [(5, .int n_61), (4, .int l_32), (3, .int l_20), (2, .int n_8), (1, .int l_3), (0, .ref (hm 0))]) hx hb dX10_fits_226 hl (by decide) rfl (fun ls hl => ?_)
                                        refine lv_goto (tgt := 165) hx hb dX10_fits_228 (by decide) ?_
                                        exact ih165_40 f_59 n_61 rf_59 (by omega) (by
                                          rw [and_tn en_61 (by omega) (by omega), show n_60.toNatClampNeg = l_39.toNatClampNeg - 1 by rw [i_ix tn_60, i_ix (rfl : l_39.toInt = l_39.toInt)]; omega]
                                          have hl5 := hL165_40_2
                                          have hkm := sbs_le hl5.2.1
                                          have hml := sbs_le hl5.1
                                          have hll := leftN_lt f_m_givenTo v_packed.toNatClampNeg
                                          have hs5 := hspn l_39.toNatClampNeg (by omega)
                                          rw [← en_48] at hs5
                                          have hr5 : (f_m_room l_20.toNatClampNeg).toInt = n_49.toInt := by rw [← en_49]
                                          have hdf : n_54.toNatClampNeg = dif l_32.toNatClampNeg l_39.toNatClampNeg := dif_tn en_53 en_54 (by omega) (by omega)
                                          have hk0 : l_39.toNatClampNeg ≠ 0 := by rw [i_ix (rfl : l_39.toInt = l_39.toInt)]; omega
                                          have hlt := dif_lt hl5.2.1 hk0
                                          have hcd := hl5.2.2.2.1 (dif l_32.toNatClampNeg l_39.toNatClampNeg) (sbs_tr (fun i hi => by rw [dif_bit, Bool.and_eq_true] at hi; exact hi.1) hl5.1) hlt
                                          rw [← hdf, ← en_55] at hcd
                                          rw [ef_59]
                                          exact L5_hit hl5 (Or.inr ⟨by rw [pkB_of (by omega)]; exact decide_eq_true (by rcases p_27 with y | y; exact y.2; exact absurd y.1 (by omega)), l_39.toNatClampNeg, hl5.2.1, hk0, by show _ ≤ (f_m_room _).toInt; rw [hr5, ← hs5]; omega, by rw [← hdf]; exact hcd.mp (by omega)⟩) (by decide)) (by omega) _ _ _ hP hD hS (lv_sub hl [0, 1, 2, 3, 4, 5] rfl)
                            exact L165_40 8589934592 f_31 l_32 hL156_33_0 (by omega) (L5_start hL156_33_2 (fun s z => Or.inl z)) (by omega) _ _ _ hP hD hS (lv_sub hl [0, 1, 2, 3, 4, 5] rfl)
                      exact L156_33 8589934592 f_19 l_3 hL131_21_0 (by omega) (by rw [hleft]; exact L4_start hL131_21_2) (by omega) _ _ _ hP hD hS (lv_sub hl [0, 1, 2, 3, 4] rfl)
                    · have gc_28 : r_25.toInt = 0 := i_eq (rfl : r_25.toInt = r_25.toInt) (by decide : (0 : Int32).toInt = 0) c_28
                      refine lv_goto (tgt := 242) hx hb dX10_fits_150 (by decide) ?_
                      obtain ⟨n_62, en_62⟩ : ∃ y : Int32, y = l_20 + 1 := ⟨_, rfl⟩
                      have tn_62 : n_62.toInt = l_20.toInt + 1 := i_add en_62 (rfl : l_20.toInt = l_20.toInt) (by decide : (1 : Int32).toInt = 1) (by omega) (by omega)
                      refine lv_iinc (v := n_62) (lv' := [(3, .int n_62), (2, .int n_8), (1, .int l_3), (0, .ref (hm 0))]) hx hb dX10_fits_242 hl (k := 0) rfl (by rw [en_62]; rfl) (by decide) rfl (fun ls hl => ?_)
                      refine lv_goto (tgt := 131) hx hb dX10_fits_245 (by decide) ?_
                      exact ih131_21 f_19 n_62 hL131_21_0 (by omega) (by
                        have e9 : n_62.toNatClampNeg = l_20.toNatClampNeg + 1 := by rw [i_ix tn_62, i_ix (rfl : l_20.toInt = l_20.toInt)]; omega
                        rw [e9]
                        have hp9 : pkB v_packing l_20.toNatClampNeg = false := by rw [pkB_of (by omega)]; exact decide_eq_false (by rcases p_27 with y | y; exact absurd y.1 (by omega); exact y.2)
                        intro s9 hs9
                        rw [hL131_21_2 s9 hs9]
                        exact ⟨fun z => Or.inl z, fun z => z.elim id (fun y => by rw [hp9] at y; exact absurd y.1 (by decide))⟩) (by omega) (by omega) _ _ _ hP hD hS (lv_sub hl [0, 1, 2, 3] rfl)
              have k_63 : (0 : Int32).toInt = 0 := by decide
              exact L131_21 8589934592 f_12 0 hL49_15_0 (by omega) (by rw [show (0 : Int32).toNatClampNeg = 0 from by decide]; exact hcb0) (by omega) (by omega) _ _ _ hP hD hS (lv_sub hl [0, 1, 2, 3] rfl)
            · have gc_16 : l_14.toInt ≤ n_7.toInt - 1 := i_nlt tn_8 (rfl : l_14.toInt = l_14.toInt) c_16
              skip
              refine lv_aload_n hx hb dX10_fits_54 rfl (lv_at hl 3 rfl) ?_
              refine gt_MD_MD_canBe hx hb hts hown hK hP lwd_185 dX10_fits_55 ?_
              refine lv_iload_n hx hb dX10_fits_58 rfl (lv_at hl 0 rfl) ?_
              refine lv_iload_n hx hb dX10_fits_59 rfl (lv_at hl 0 rfl) ?_
              refine lv_if_ne (tgt := 67) hx hb dX10_fits_60 (by decide) (fun c_64 => ?_) (fun c_64 => ?_)
              · have gc_64 : l_14.toInt ≠ 0 := i_ne (rfl : l_14.toInt = l_14.toInt) (by decide : (0 : Int32).toInt = 0) c_64
                refine lv_iconst (v := 0) hx hb dX10_fits_67 (by decide) ?_
                refine as_m_canBe (x := 0) hx hb hK hP hD hS hL49_15_0 (i_in (rfl : l_14.toInt = l_14.toInt) (by omega) (by omega)) (by decide) dX10_fits_68 (fun f_65 ef_65 rf_65 H locs hP hD hS => ?_)
                refine lv_aload_n hx hb dX10_fits_69 rfl (lv_at hl 3 rfl) ?_
                refine gt_MD_MD_setPounds hx hb hts hown hK hP lwd_186 dX10_fits_70 ?_
                refine lv_iload_n hx hb dX10_fits_73 rfl (lv_at hl 0 rfl) ?_
                refine lv_iconst (v := 0) hx hb dX10_fits_74 (by decide) ?_
                refine as_m_setPounds (x := 0) hx hb hK hP hD hS (i_in (rfl : l_14.toInt = l_14.toInt) (by omega) (by omega)) dX10_fits_75 (fun f_66 ef_66 H locs hP hD hS => ?_)
                refine lv_iconst (v := 0) hx hb dX10_fits_76 (by decide) ?_
                refine lv_istore (lv' := [(4, .int 0), (3, .int l_14), (2, .int n_8), (1, .int l_3), (0, .ref (hm 0))]) hx hb dX10_fits_77 hl (by decide) rfl (fun ls hl => ?_)
                have L79_71 : ∀ (n : Nat) (f_69 : Nat → Int32) (l_70 : Int32), (0 ≤ l_70.toInt ∧ l_70.toInt ≤ 10) → (∀ j : Nat, (j : Int) < l_14.toInt → (f_69 j).toInt = spF (fun i => (f_m_packPounds i).toInt) v_packed.toNatClampNeg j) → ((f_69 l_14.toNatClampNeg).toInt = spF (fun i => (f_m_packPounds i).toInt) l_70.toNatClampNeg l_14.toNatClampNeg ∧ 0 ≤ (f_69 l_14.toNatClampNeg).toInt ∧ (f_69 l_14.toNatClampNeg).toInt ≤ 250 * l_70.toInt) → (l_70.toInt ≤ v_packed.toInt) → 11 - l_70.toInt < n → ∀ (H : Heap) (locs : List Loc) (ls : Array Slot), va_P D vwCl (wMD cy hm v_taped v_walkers v_loads v_pieces v_changeCosts v_planned v_isMarch v_clauseMany v_place v_end v_bad v_clauses v_codes v_open v_stacked v_isOver v_isBehind v_atW v_atL v_atT v_atH v_atM v_atI v_atQ v_packing v_packed v_goPace v_goMinutes v_spentAt v_ranChanges f_m_tape f_m_knee f_m_weight f_m_isLame f_m_loadWeight f_m_owner f_m_food f_m_miles f_m_slope f_m_clauseLetter f_m_sumFrom f_m_codeFrom f_m_codeTo f_m_code f_m_codeArg f_m_newLetter f_m_newSum f_m_newFrom f_m_newTo f_m_newCode f_m_newArg f_m_stack f_m_worth f_m_isRefused f_m_least f_m_packPounds f_m_packOwner f_m_room f_m_givenTo f_65 f_69 f_m_plainTime f_m_muleTime f_m_planTo f_m_march f_m_tired f_m_ranMinutes f_m_tiredAhead f_m_isReached f_m_toEnd f_m_upTo f_m_upNext f_m_byChanges f_m_bandPaces) H → va_D A (wMD cy hm v_taped v_walkers v_loads v_pieces v_changeCosts v_planned v_isMarch v_clauseMany v_place v_end v_bad v_clauses v_codes v_open v_stacked v_isOver v_isBehind v_atW v_atL v_atT v_atH v_atM v_atI v_atQ v_packing v_packed v_goPace v_goMinutes v_spentAt v_ranChanges f_m_tape f_m_knee f_m_weight f_m_isLame f_m_loadWeight f_m_owner f_m_food f_m_miles f_m_slope f_m_clauseLetter f_m_sumFrom f_m_codeFrom f_m_codeTo f_m_code f_m_codeArg f_m_newLetter f_m_newSum f_m_newFrom f_m_newTo f_m_newCode f_m_newArg f_m_stack f_m_worth f_m_isRefused f_m_least f_m_packPounds f_m_packOwner f_m_room f_m_givenTo f_65 f_69 f_m_plainTime f_m_muleTime f_m_planTo f_m_march f_m_tired f_m_ranMinutes f_m_tiredAhead f_m_isReached f_m_toEnd f_m_upTo f_m_upNext f_m_byChanges f_m_bandPaces) → va_S A s.heap H locs → lv_has ls 6 [(4, .int l_70), (3, .int l_14), (2, .int n_8), (1, .int l_3), (0, .ref (hm 0))] → W p l e (gRm 2) s m args below meth c H locs 0 0 Q (F0 m 79 ls []) := by
                  intro n
                  induction n with
                  | zero => intro f_69 l_70 hL79_71_0 hL79_71_1 hL79_71_2 hL79_71_3 hm; exact absurd hm (by omega)
                  | succ n ih79_71 =>
                    intro f_69 l_70 hL79_71_0 hL79_71_1 hL79_71_2 hL79_71_3 hmL79_71 H locs ls hP hD hS hl
                    refine lv_iload hx hb dX10_fits_79 (lv_at hl 0 rfl) ?_
                    refine lv_aload_n hx hb dX10_fits_81 rfl (lv_at hl 4 rfl) ?_
                    refine gt_MD_MD_packed hx hb hts hown hK hP lwd_745 dX10_fits_82 ?_
                    refine lv_icmp_ge (tgt := 123) hx hb dX10_fits_85 (by decide) (fun c_72 => ?_) (fun c_72 => ?_)
                    · have gc_72 : v_packed.toInt ≤ l_70.toInt := i_le (rfl : v_packed.toInt = v_packed.toInt) (rfl : l_70.toInt = l_70.toInt) c_72
                      have hx9 : l_70.toNatClampNeg = v_packed.toNatClampNeg := by rw [i_ix (rfl : l_70.toInt = l_70.toInt), i_ix (rfl : v_packed.toInt = v_packed.toInt)]; omega
                      skip
                      obtain ⟨n_73, en_73⟩ : ∃ y : Int32, y = l_14 + 1 := ⟨_, rfl⟩
                      have tn_73 : n_73.toInt = l_14.toInt + 1 := i_add en_73 (rfl : l_14.toInt = l_14.toInt) (by decide : (1 : Int32).toInt = 1) (by omega) (by omega)
                      refine lv_iinc (v := n_73) (lv' := [(3, .int n_73), (4, .int l_70), (2, .int n_8), (1, .int l_3), (0, .ref (hm 0))]) hx hb dX10_fits_123 hl (k := 1) rfl (by rw [en_73]; rfl) (by decide) rfl (fun ls hl => ?_)
                      refine lv_goto (tgt := 49) hx hb dX10_fits_126 (by decide) ?_
                      exact ih49_15 f_65 f_69 n_73 rf_65 (by omega) (fun j hj => by
                        have e7 := i_ix (rfl : l_14.toInt = l_14.toInt)
                        by_cases q : j = l_14.toNatClampNeg
                        · rw [q]
                          refine ⟨?_, ?_⟩
                          · rw [ef_65, upd_at]
                            rw [if_neg (by omega)]; decide
                          · rw [hL79_71_2.1, hx9]
                        · refine ⟨?_, hL79_71_1 j (by omega)⟩
                          rw [ef_65, upd_off _ _ q]
                          exact (hL49_15_2 j (by omega)).1) (by omega) _ _ _ hP hD hS (lv_sub hl [0, 2, 3, 4] rfl)
                    · have gc_72 : l_70.toInt < v_packed.toInt := i_nle (rfl : v_packed.toInt = v_packed.toInt) (rfl : l_70.toInt = l_70.toInt) c_72
                      skip
                      refine lv_aload_n hx hb dX10_fits_88 rfl (lv_at hl 4 rfl) ?_
                      refine gt_MD_MD_setPounds hx hb hts hown hK hP lwd_186 dX10_fits_89 ?_
                      refine lv_iload_n hx hb dX10_fits_92 rfl (lv_at hl 1 rfl) ?_
                      refine lv_dup2_11 hx hb dX10_fits_93 rfl rfl ?_
                      refine al_m_setPounds hx hb hK hP (i_in (rfl : l_14.toInt = l_14.toInt) (by omega) (by omega)) dX10_fits_94 (fun n_74 en_74 => ?_)
                      have hsp9 := hL79_71_2
                      rw [← en_74] at hsp9
                      refine lv_iload_n hx hb dX10_fits_95 rfl (lv_at hl 1 rfl) ?_
                      refine lv_iload hx hb dX10_fits_96 (lv_at hl 0 rfl) ?_
                      refine xi hD hS hA (xS (As := [.int l_14, .int l_70]) (rest := [.int n_74, .int l_14, .ref (hm 31)]) hx hb hml hown hts hK hP hD hS hA NT_ok hN hAe hl.1 ⟨Nat.le_refl _, Nat.le_refl _⟩ (c_X10_has l D cy hm v_taped v_walkers v_loads v_pieces v_changeCosts v_planned v_isMarch v_clauseMany v_place v_end v_bad v_clauses v_codes v_open v_stacked v_isOver v_isBehind v_atW v_atL v_atT v_atH v_atM v_atI v_atQ v_packing v_packed v_goPace v_goMinutes v_spentAt v_ranChanges f_m_tape f_m_knee f_m_weight f_m_isLame f_m_loadWeight f_m_owner f_m_food f_m_miles f_m_slope f_m_clauseLetter f_m_sumFrom f_m_codeFrom f_m_codeTo f_m_code f_m_codeArg f_m_newLetter f_m_newSum f_m_newFrom f_m_newTo f_m_newCode f_m_newArg f_m_stack f_m_worth f_m_isRefused f_m_least f_m_packPounds f_m_packOwner f_m_room f_m_givenTo f_65 f_69 f_m_plainTime f_m_muleTime f_m_planTo f_m_march f_m_tired f_m_ranMinutes f_m_tiredAhead f_m_isReached f_m_toEnd f_m_upTo f_m_upNext f_m_byChanges f_m_bandPaces H.size l_14 l_70) (gi_S lwd_750 lwd_751 lwd_5 lwd_752) hd_X10_has ⟨Nat.le_of_ble_eq_true rfl, Nat.le_of_ble_eq_true rfl⟩ rfl (Nat.le_of_ble_eq_true rfl) dX10_fits_98) (fun r_76 u_75 H locs hw hP hD hS => ?_)
                      try dsimp only at hw hP hD
                      obtain ⟨p_77, p_78⟩ := hw
                      refine lv_if_eq (tgt := 114) hx hb dX10_fits_101 (by decide) (fun c_79 => ?_) (fun c_79 => ?_)
                      · have gc_79 : r_76.toInt = 0 := i_eq (rfl : r_76.toInt = r_76.toInt) (by decide : (0 : Int32).toInt = 0) c_79
                        skip
                        refine lv_iconst (v := 0) hx hb dX10_fits_114 (by decide) ?_
                        refine lv_iadd hx hb dX10_fits_115 ?_
                        refine lv_topi (fun n_80 en_80 => ?_)
                        have tn_80 : n_80.toInt = n_74.toInt + 0 := i_add en_80 (rfl : n_74.toInt = n_74.toInt) (by decide : (0 : Int32).toInt = 0) (by omega) (by omega)
                        skip
                        refine as_m_setPounds (x := n_80) hx hb hK hP hD hS (i_in (rfl : l_14.toInt = l_14.toInt) (by omega) (by omega)) dX10_fits_116 (fun f_81 ef_81 H locs hP hD hS => ?_)
                        obtain ⟨n_82, en_82⟩ : ∃ y : Int32, y = l_70 + 1 := ⟨_, rfl⟩
                        have tn_82 : n_82.toInt = l_70.toInt + 1 := i_add en_82 (rfl : l_70.toInt = l_70.toInt) (by decide : (1 : Int32).toInt = 1) (by omega) (by omega)
                        refine lv_iinc (v := n_82) (lv' := [(4, .int n_82), (3, .int l_14), (2, .int n_8), (1, .int l_3), (0, .ref (hm 0))]) hx hb dX10_fits_117 hl (k := 0) rfl (by rw [en_82]; rfl) (by decide) rfl (fun ls hl => ?_)
                        refine lv_goto (tgt := 79) hx hb dX10_fits_120 (by decide) ?_
                        exact ih79_71 f_81 n_82 (by omega) (fun j hj => by
                          have e7 := i_ix (rfl : l_14.toInt = l_14.toInt)
                          rw [ef_81, upd_off _ _ (by omega)]
                          exact hL79_71_1 j hj) (by
                          have e9 : n_82.toNatClampNeg = l_70.toNatClampNeg + 1 := by rw [i_ix tn_82, i_ix (rfl : l_70.toInt = l_70.toInt)]; omega
                          have hq := hL79_71_2
                          have hbt := bit_has (x := l_14) (k := l_70) (by omega) (by omega)
                          rw [ef_81, upd_at, e9, spF]
                          rw [if_neg (fun z => (by rcases p_78 with y | y; exact absurd y.1 (by omega); exact y.2 (hbt.mpr z)))]
                          omega) (by omega) (by omega) _ _ _ hP hD hS (lv_sub hl [0, 1, 2, 3, 4] rfl)
                      · have gc_79 : r_76.toInt ≠ 0 := i_ne (rfl : r_76.toInt = r_76.toInt) (by decide : (0 : Int32).toInt = 0) c_79
                        skip
                        refine lv_aload_n hx hb dX10_fits_104 rfl (lv_at hl 4 rfl) ?_
                        refine gt_MD_MD_packPounds hx hb hts hown hK hP lwd_181 dX10_fits_105 ?_
                        refine lv_iload hx hb dX10_fits_108 (lv_at hl 0 rfl) ?_
                        refine al_m_packPounds hx hb hK hP hr_m_packPounds (i_in (rfl : l_70.toInt = l_70.toInt) (by omega) (by omega)) dX10_fits_110 (fun n_83 en_83 bn_83 => ?_)
                        refine lv_goto (tgt := 115) hx hb dX10_fits_111 (by decide) ?_
                        refine lv_iadd hx hb dX10_fits_115 ?_
                        refine lv_topi (fun n_84 en_84 => ?_)
                        have tn_84 : n_84.toInt = n_74.toInt + n_83.toInt := i_add en_84 (rfl : n_74.toInt = n_74.toInt) (rfl : n_83.toInt = n_83.toInt) (by omega) (by omega)
                        skip
                        refine as_m_setPounds (x := n_84) hx hb hK hP hD hS (i_in (rfl : l_14.toInt = l_14.toInt) (by omega) (by omega)) dX10_fits_116 (fun f_85 ef_85 H locs hP hD hS => ?_)
                        obtain ⟨n_86, en_86⟩ : ∃ y : Int32, y = l_70 + 1 := ⟨_, rfl⟩
                        have tn_86 : n_86.toInt = l_70.toInt + 1 := i_add en_86 (rfl : l_70.toInt = l_70.toInt) (by decide : (1 : Int32).toInt = 1) (by omega) (by omega)
                        refine lv_iinc (v := n_86) (lv' := [(4, .int n_86), (3, .int l_14), (2, .int n_8), (1, .int l_3), (0, .ref (hm 0))]) hx hb dX10_fits_117 hl (k := 0) rfl (by rw [en_86]; rfl) (by decide) rfl (fun ls hl => ?_)
                        refine lv_goto (tgt := 79) hx hb dX10_fits_120 (by decide) ?_
                        exact ih79_71 f_85 n_86 (by omega) (fun j hj => by
                          have e7 := i_ix (rfl : l_14.toInt = l_14.toInt)
                          rw [ef_85, upd_off _ _ (by omega)]
                          exact hL79_71_1 j hj) (by
                          have e9 : n_86.toNatClampNeg = l_70.toNatClampNeg + 1 := by rw [i_ix tn_86, i_ix (rfl : l_70.toInt = l_70.toInt)]; omega
                          have hq := hL79_71_2
                          have hbt := bit_has (x := l_14) (k := l_70) (by omega) (by omega)
                          rw [ef_85, upd_at, e9, spF]
                          rw [if_pos (hbt.mp (by rcases p_78 with z | z; exact z.2; exact absurd z.1 (by omega)))]
                          have hpp : (f_m_packPounds l_70.toNatClampNeg).toInt = n_83.toInt := by rw [← en_83]
                          try dsimp only
                          omega) (by omega) (by omega) _ _ _ hP hD hS (lv_sub hl [0, 1, 2, 3, 4] rfl)
                have k_87 : (0 : Int32).toInt = 0 := by decide
                exact L79_71 8589934592 f_66 0 (by omega) (fun j hj => by
                  have e7 := i_ix (rfl : l_14.toInt = l_14.toInt)
                  rw [ef_66, upd_off _ _ (by omega)]
                  exact (hL49_15_2 j hj).2) (by
                  rw [ef_66, upd_at, show (0 : Int32).toNatClampNeg = 0 from by decide, spF]
                  exact ⟨by decide, by decide, by decide⟩) (by omega) (by omega) _ _ _ hP hD hS (lv_sub hl [0, 1, 2, 3, 4] rfl)
              · have gc_64 : l_14.toInt = 0 := i_eq (rfl : l_14.toInt = l_14.toInt) (by decide : (0 : Int32).toInt = 0) c_64
                refine lv_iconst (v := 1) hx hb dX10_fits_63 (by decide) ?_
                refine lv_goto (tgt := 68) hx hb dX10_fits_64 (by decide) ?_
                refine as_m_canBe (x := 1) hx hb hK hP hD hS hL49_15_0 (i_in (rfl : l_14.toInt = l_14.toInt) (by omega) (by omega)) (by decide) dX10_fits_68 (fun f_88 ef_88 rf_88 H locs hP hD hS => ?_)
                refine lv_aload_n hx hb dX10_fits_69 rfl (lv_at hl 3 rfl) ?_
                refine gt_MD_MD_setPounds hx hb hts hown hK hP lwd_186 dX10_fits_70 ?_
                refine lv_iload_n hx hb dX10_fits_73 rfl (lv_at hl 0 rfl) ?_
                refine lv_iconst (v := 0) hx hb dX10_fits_74 (by decide) ?_
                refine as_m_setPounds (x := 0) hx hb hK hP hD hS (i_in (rfl : l_14.toInt = l_14.toInt) (by omega) (by omega)) dX10_fits_75 (fun f_89 ef_89 H locs hP hD hS => ?_)
                refine lv_iconst (v := 0) hx hb dX10_fits_76 (by decide) ?_
                refine lv_istore (lv' := [(4, .int 0), (3, .int l_14), (2, .int n_8), (1, .int l_3), (0, .ref (hm 0))]) hx hb dX10_fits_77 hl (by decide) rfl (fun ls hl => ?_)
                have L79_94 : ∀ (n : Nat) (f_92 : Nat → Int32) (l_93 : Int32), (0 ≤ l_93.toInt ∧ l_93.toInt ≤ 10) → (∀ j : Nat, (j : Int) < l_14.toInt → (f_92 j).toInt = spF (fun i => (f_m_packPounds i).toInt) v_packed.toNatClampNeg j) → ((f_92 l_14.toNatClampNeg).toInt = spF (fun i => (f_m_packPounds i).toInt) l_93.toNatClampNeg l_14.toNatClampNeg ∧ 0 ≤ (f_92 l_14.toNatClampNeg).toInt ∧ (f_92 l_14.toNatClampNeg).toInt ≤ 250 * l_93.toInt) → (l_93.toInt ≤ v_packed.toInt) → 11 - l_93.toInt < n → ∀ (H : Heap) (locs : List Loc) (ls : Array Slot), va_P D vwCl (wMD cy hm v_taped v_walkers v_loads v_pieces v_changeCosts v_planned v_isMarch v_clauseMany v_place v_end v_bad v_clauses v_codes v_open v_stacked v_isOver v_isBehind v_atW v_atL v_atT v_atH v_atM v_atI v_atQ v_packing v_packed v_goPace v_goMinutes v_spentAt v_ranChanges f_m_tape f_m_knee f_m_weight f_m_isLame f_m_loadWeight f_m_owner f_m_food f_m_miles f_m_slope f_m_clauseLetter f_m_sumFrom f_m_codeFrom f_m_codeTo f_m_code f_m_codeArg f_m_newLetter f_m_newSum f_m_newFrom f_m_newTo f_m_newCode f_m_newArg f_m_stack f_m_worth f_m_isRefused f_m_least f_m_packPounds f_m_packOwner f_m_room f_m_givenTo f_88 f_92 f_m_plainTime f_m_muleTime f_m_planTo f_m_march f_m_tired f_m_ranMinutes f_m_tiredAhead f_m_isReached f_m_toEnd f_m_upTo f_m_upNext f_m_byChanges f_m_bandPaces) H → va_D A (wMD cy hm v_taped v_walkers v_loads v_pieces v_changeCosts v_planned v_isMarch v_clauseMany v_place v_end v_bad v_clauses v_codes v_open v_stacked v_isOver v_isBehind v_atW v_atL v_atT v_atH v_atM v_atI v_atQ v_packing v_packed v_goPace v_goMinutes v_spentAt v_ranChanges f_m_tape f_m_knee f_m_weight f_m_isLame f_m_loadWeight f_m_owner f_m_food f_m_miles f_m_slope f_m_clauseLetter f_m_sumFrom f_m_codeFrom f_m_codeTo f_m_code f_m_codeArg f_m_newLetter f_m_newSum f_m_newFrom f_m_newTo f_m_newCode f_m_newArg f_m_stack f_m_worth f_m_isRefused f_m_least f_m_packPounds f_m_packOwner f_m_room f_m_givenTo f_88 f_92 f_m_plainTime f_m_muleTime f_m_planTo f_m_march f_m_tired f_m_ranMinutes f_m_tiredAhead f_m_isReached f_m_toEnd f_m_upTo f_m_upNext f_m_byChanges f_m_bandPaces) → va_S A s.heap H locs → lv_has ls 6 [(4, .int l_93), (3, .int l_14), (2, .int n_8), (1, .int l_3), (0, .ref (hm 0))] → W p l e (gRm 2) s m args below meth c H locs 0 0 Q (F0 m 79 ls []) := by
                  intro n
                  induction n with
                  | zero => intro f_92 l_93 hL79_94_0 hL79_94_1 hL79_94_2 hL79_94_3 hm; exact absurd hm (by omega)
                  | succ n ih79_94 =>
                    intro f_92 l_93 hL79_94_0 hL79_94_1 hL79_94_2 hL79_94_3 hmL79_94 H locs ls hP hD hS hl
                    refine lv_iload hx hb dX10_fits_79 (lv_at hl 0 rfl) ?_
                    refine lv_aload_n hx hb dX10_fits_81 rfl (lv_at hl 4 rfl) ?_
                    refine gt_MD_MD_packed hx hb hts hown hK hP lwd_745 dX10_fits_82 ?_
                    refine lv_icmp_ge (tgt := 123) hx hb dX10_fits_85 (by decide) (fun c_95 => ?_) (fun c_95 => ?_)
                    · have gc_95 : v_packed.toInt ≤ l_93.toInt := i_le (rfl : v_packed.toInt = v_packed.toInt) (rfl : l_93.toInt = l_93.toInt) c_95
                      have hx9 : l_93.toNatClampNeg = v_packed.toNatClampNeg := by rw [i_ix (rfl : l_93.toInt = l_93.toInt), i_ix (rfl : v_packed.toInt = v_packed.toInt)]; omega
                      skip
                      obtain ⟨n_96, en_96⟩ : ∃ y : Int32, y = l_14 + 1 := ⟨_, rfl⟩
                      have tn_96 : n_96.toInt = l_14.toInt + 1 := i_add en_96 (rfl : l_14.toInt = l_14.toInt) (by decide : (1 : Int32).toInt = 1) (by omega) (by omega)
                      refine lv_iinc (v := n_96) (lv' := [(3, .int n_96), (4, .int l_93), (2, .int n_8), (1, .int l_3), (0, .ref (hm 0))]) hx hb dX10_fits_123 hl (k := 1) rfl (by rw [en_96]; rfl) (by decide) rfl (fun ls hl => ?_)
                      refine lv_goto (tgt := 49) hx hb dX10_fits_126 (by decide) ?_
                      exact ih49_15 f_88 f_92 n_96 rf_88 (by omega) (fun j hj => by
                        have e7 := i_ix (rfl : l_14.toInt = l_14.toInt)
                        by_cases q : j = l_14.toNatClampNeg
                        · rw [q]
                          refine ⟨?_, ?_⟩
                          · rw [ef_88, upd_at]
                            rw [if_pos (by omega)]; decide
                          · rw [hL79_94_2.1, hx9]
                        · refine ⟨?_, hL79_94_1 j (by omega)⟩
                          rw [ef_88, upd_off _ _ q]
                          exact (hL49_15_2 j (by omega)).1) (by omega) _ _ _ hP hD hS (lv_sub hl [0, 2, 3, 4] rfl)
                    · have gc_95 : l_93.toInt < v_packed.toInt := i_nle (rfl : v_packed.toInt = v_packed.toInt) (rfl : l_93.toInt = l_93.toInt) c_95
                      skip
                      refine lv_aload_n hx hb dX10_fits_88 rfl (lv_at hl 4 rfl) ?_
                      refine gt_MD_MD_setPounds hx hb hts hown hK hP lwd_186 dX10_fits_89 ?_
                      refine lv_iload_n hx hb dX10_fits_92 rfl (lv_at hl 1 rfl) ?_
                      refine lv_dup2_11 hx hb dX10_fits_93 rfl rfl ?_
                      refine al_m_setPounds hx hb hK hP (i_in (rfl : l_14.toInt = l_14.toInt) (by omega) (by omega)) dX10_fits_94 (fun n_97 en_97 => ?_)
                      have hsp9 := hL79_94_2
                      rw [← en_97] at hsp9
                      refine lv_iload_n hx hb dX10_fits_95 rfl (lv_at hl 1 rfl) ?_
                      refine lv_iload hx hb dX10_fits_96 (lv_at hl 0 rfl) ?_
                      refine xi hD hS hA (xS (As := [.int l_14, .int l_93]) (rest := [.int n_97, .int l_14, .ref (hm 31)]) hx hb hml hown hts hK hP hD hS hA NT_ok hN hAe hl.1 ⟨Nat.le_refl _, Nat.le_refl _⟩ (c_X10_has l D cy hm v_taped v_walkers v_loads v_pieces v_changeCosts v_planned v_isMarch v_clauseMany v_place v_end v_bad v_clauses v_codes v_open v_stacked v_isOver v_isBehind v_atW v_atL v_atT v_atH v_atM v_atI v_atQ v_packing v_packed v_goPace v_goMinutes v_spentAt v_ranChanges f_m_tape f_m_knee f_m_weight f_m_isLame f_m_loadWeight f_m_owner f_m_food f_m_miles f_m_slope f_m_clauseLetter f_m_sumFrom f_m_codeFrom f_m_codeTo f_m_code f_m_codeArg f_m_newLetter f_m_newSum f_m_newFrom f_m_newTo f_m_newCode f_m_newArg f_m_stack f_m_worth f_m_isRefused f_m_least f_m_packPounds f_m_packOwner f_m_room f_m_givenTo f_88 f_92 f_m_plainTime f_m_muleTime f_m_planTo f_m_march f_m_tired f_m_ranMinutes f_m_tiredAhead f_m_isReached f_m_toEnd f_m_upTo f_m_upNext f_m_byChanges f_m_bandPaces H.size l_14 l_93) (gi_S lwd_750 lwd_751 lwd_5 lwd_752) hd_X10_has ⟨Nat.le_of_ble_eq_true rfl, Nat.le_of_ble_eq_true rfl⟩ rfl (Nat.le_of_ble_eq_true rfl) dX10_fits_98) (fun r_99 u_98 H locs hw hP hD hS => ?_)
                      try dsimp only at hw hP hD
                      obtain ⟨p_100, p_101⟩ := hw
                      refine lv_if_eq (tgt := 114) hx hb dX10_fits_101 (by decide) (fun c_102 => ?_) (fun c_102 => ?_)
                      · have gc_102 : r_99.toInt = 0 := i_eq (rfl : r_99.toInt = r_99.toInt) (by decide : (0 : Int32).toInt = 0) c_102
                        skip
                        refine lv_iconst (v := 0) hx hb dX10_fits_114 (by decide) ?_
                        refine lv_iadd hx hb dX10_fits_115 ?_
                        refine lv_topi (fun n_103 en_103 => ?_)
                        have tn_103 : n_103.toInt = n_97.toInt + 0 := i_add en_103 (rfl : n_97.toInt = n_97.toInt) (by decide : (0 : Int32).toInt = 0) (by omega) (by omega)
                        skip
                        refine as_m_setPounds (x := n_103) hx hb hK hP hD hS (i_in (rfl : l_14.toInt = l_14.toInt) (by omega) (by omega)) dX10_fits_116 (fun f_104 ef_104 H locs hP hD hS => ?_)
                        obtain ⟨n_105, en_105⟩ : ∃ y : Int32, y = l_93 + 1 := ⟨_, rfl⟩
                        have tn_105 : n_105.toInt = l_93.toInt + 1 := i_add en_105 (rfl : l_93.toInt = l_93.toInt) (by decide : (1 : Int32).toInt = 1) (by omega) (by omega)
                        refine lv_iinc (v := n_105) (lv' := [(4, .int n_105), (3, .int l_14), (2, .int n_8), (1, .int l_3), (0, .ref (hm 0))]) hx hb dX10_fits_117 hl (k := 0) rfl (by rw [en_105]; rfl) (by decide) rfl (fun ls hl => ?_)
                        refine lv_goto (tgt := 79) hx hb dX10_fits_120 (by decide) ?_
                        exact ih79_94 f_104 n_105 (by omega) (fun j hj => by
                          have e7 := i_ix (rfl : l_14.toInt = l_14.toInt)
                          rw [ef_104, upd_off _ _ (by omega)]
                          exact hL79_94_1 j hj) (by
                          have e9 : n_105.toNatClampNeg = l_93.toNatClampNeg + 1 := by rw [i_ix tn_105, i_ix (rfl : l_93.toInt = l_93.toInt)]; omega
                          have hq := hL79_94_2
                          have hbt := bit_has (x := l_14) (k := l_93) (by omega) (by omega)
                          rw [ef_104, upd_at, e9, spF]
                          rw [if_neg (fun z => (by rcases p_101 with y | y; exact absurd y.1 (by omega); exact y.2 (hbt.mpr z)))]
                          omega) (by omega) (by omega) _ _ _ hP hD hS (lv_sub hl [0, 1, 2, 3, 4] rfl)
                      · have gc_102 : r_99.toInt ≠ 0 := i_ne (rfl : r_99.toInt = r_99.toInt) (by decide : (0 : Int32).toInt = 0) c_102
                        skip
                        refine lv_aload_n hx hb dX10_fits_104 rfl (lv_at hl 4 rfl) ?_
                        refine gt_MD_MD_packPounds hx hb hts hown hK hP lwd_181 dX10_fits_105 ?_
                        refine lv_iload hx hb dX10_fits_108 (lv_at hl 0 rfl) ?_
                        refine al_m_packPounds hx hb hK hP hr_m_packPounds (i_in (rfl : l_93.toInt = l_93.toInt) (by omega) (by omega)) dX10_fits_110 (fun n_106 en_106 bn_106 => ?_)
                        refine lv_goto (tgt := 115) hx hb dX10_fits_111 (by decide) ?_
                        refine lv_iadd hx hb dX10_fits_115 ?_
                        refine lv_topi (fun n_107 en_107 => ?_)
                        have tn_107 : n_107.toInt = n_97.toInt + n_106.toInt := i_add en_107 (rfl : n_97.toInt = n_97.toInt) (rfl : n_106.toInt = n_106.toInt) (by omega) (by omega)
                        skip
                        refine as_m_setPounds (x := n_107) hx hb hK hP hD hS (i_in (rfl : l_14.toInt = l_14.toInt) (by omega) (by omega)) dX10_fits_116 (fun f_108 ef_108 H locs hP hD hS => ?_)
                        obtain ⟨n_109, en_109⟩ : ∃ y : Int32, y = l_93 + 1 := ⟨_, rfl⟩
                        have tn_109 : n_109.toInt = l_93.toInt + 1 := i_add en_109 (rfl : l_93.toInt = l_93.toInt) (by decide : (1 : Int32).toInt = 1) (by omega) (by omega)
                        refine lv_iinc (v := n_109) (lv' := [(4, .int n_109), (3, .int l_14), (2, .int n_8), (1, .int l_3), (0, .ref (hm 0))]) hx hb dX10_fits_117 hl (k := 0) rfl (by rw [en_109]; rfl) (by decide) rfl (fun ls hl => ?_)
                        refine lv_goto (tgt := 79) hx hb dX10_fits_120 (by decide) ?_
                        exact ih79_94 f_108 n_109 (by omega) (fun j hj => by
                          have e7 := i_ix (rfl : l_14.toInt = l_14.toInt)
                          rw [ef_108, upd_off _ _ (by omega)]
                          exact hL79_94_1 j hj) (by
                          have e9 : n_109.toNatClampNeg = l_93.toNatClampNeg + 1 := by rw [i_ix tn_109, i_ix (rfl : l_93.toInt = l_93.toInt)]; omega
                          have hq := hL79_94_2
                          have hbt := bit_has (x := l_14) (k := l_93) (by omega) (by omega)
                          rw [ef_108, upd_at, e9, spF]
                          rw [if_pos (hbt.mp (by rcases p_101 with z | z; exact z.2; exact absurd z.1 (by omega)))]
                          have hpp : (f_m_packPounds l_93.toNatClampNeg).toInt = n_106.toInt := by rw [← en_106]
                          try dsimp only
                          omega) (by omega) (by omega) _ _ _ hP hD hS (lv_sub hl [0, 1, 2, 3, 4] rfl)
                have k_110 : (0 : Int32).toInt = 0 := by decide
                exact L79_94 8589934592 f_89 0 (by omega) (fun j hj => by
                  have e7 := i_ix (rfl : l_14.toInt = l_14.toInt)
                  rw [ef_89, upd_off _ _ (by omega)]
                  exact (hL49_15_2 j hj).2) (by
                  rw [ef_89, upd_at, show (0 : Int32).toNatClampNeg = 0 from by decide, spF]
                  exact ⟨by decide, by decide, by decide⟩) (by omega) (by omega) _ _ _ hP hD hS (lv_sub hl [0, 1, 2, 3, 4] rfl)
        have k_111 : (0 : Int32).toInt = 0 := by decide
        exact L49_15 8589934592 f_m_canBe f_m_setPounds 0 hr_m_canBe (by omega) (fun j hj => absurd hj (by omega)) (by omega) _ _ _ hP hD hS (lv_sub hl [0, 1, 2, 3] rfl)
      · have gc_6 : l_4.toInt < v_packed.toInt := i_nle (rfl : v_packed.toInt = v_packed.toInt) (rfl : l_4.toInt = l_4.toInt) c_6
        skip
        refine lv_iload_n hx hb dX10_fits_12 rfl (lv_at hl 1 rfl) ?_
        refine lv_aload_n hx hb dX10_fits_13 rfl (lv_at hl 2 rfl) ?_
        refine gt_MD_MD_givenTo hx hb hts hown hK hP lwd_184 dX10_fits_14 ?_
        refine lv_iload_n hx hb dX10_fits_17 rfl (lv_at hl 0 rfl) ?_
        refine al_m_givenTo hx hb hK hP (i_in (rfl : l_4.toInt = l_4.toInt) (by omega) (by omega)) dX10_fits_18 (fun n_112 en_112 => ?_)
        refine lv_iconst (v := (-1)) hx hb dX10_fits_19 (by decide) ?_
        refine lv_icmp_ne (tgt := 29) hx hb dX10_fits_20 (by decide) (fun c_113 => ?_) (fun c_113 => ?_)
        · have gc_113 : n_112.toInt ≠ (-1) := i_ne (rfl : n_112.toInt = n_112.toInt) (by decide : ((-1) : Int32).toInt = (-1)) c_113
          refine lv_iconst (v := 0) hx hb dX10_fits_29 (by decide) ?_
          skip
          refine lv_ior hx hb dX10_fits_30 ?_
          have k_114 : (0 : Int32).toInt = 0 := by decide
          refine lv_topi (fun n_115 en_115 => ?_)
          have bn_115 : 0 ≤ n_115.toInt ∧ n_115.toInt ≤ 1023 := i_orb 10 en_115 (by omega) (by omega) (by decide) (by decide)
          refine lv_istore_n (lv' := [(1, .int n_115), (2, .int l_4), (0, .ref (hm 0))]) hx hb dX10_fits_31 rfl hl (by decide) rfl (fun ls hl => ?_)
          obtain ⟨n_116, en_116⟩ : ∃ y : Int32, y = l_4 + 1 := ⟨_, rfl⟩
          have tn_116 : n_116.toInt = l_4.toInt + 1 := i_add en_116 (rfl : l_4.toInt = l_4.toInt) (by decide : (1 : Int32).toInt = 1) (by omega) (by omega)
          refine lv_iinc (v := n_116) (lv' := [(2, .int n_116), (1, .int n_115), (0, .ref (hm 0))]) hx hb dX10_fits_32 hl (k := 1) rfl (by rw [en_116]; rfl) (by decide) rfl (fun ls hl => ?_)
          refine lv_goto (tgt := 4) hx hb dX10_fits_35 (by decide) ?_
          exact ih4_5 n_115 n_116 (by omega) (by omega) (by
            have e9 : n_116.toNatClampNeg = l_4.toNatClampNeg + 1 := by rw [i_ix tn_116, i_ix (rfl : l_4.toInt = l_4.toInt)]; omega
            rw [e9, leftN, or_tn en_115 (by omega) (by first | omega | decide) (by omega), hL4_5_2]
            rw [if_neg (by rw [← en_112]; omega)]; rfl) (by omega) (by omega) _ _ _ hP hD hS (lv_sub hl [0, 1, 2] rfl)
        · have gc_113 : n_112.toInt = (-1) := i_eq (rfl : n_112.toInt = n_112.toInt) (by decide : ((-1) : Int32).toInt = (-1)) c_113
          refine lv_iconst (v := 1) hx hb dX10_fits_23 (by decide) ?_
          refine lv_iload_n hx hb dX10_fits_24 rfl (lv_at hl 0 rfl) ?_
          refine lv_ishl hx hb dX10_fits_25 ?_
          refine lv_topi (fun n_117 en_117 => ?_)
          have bn_117 := (i_sh1 en_117 (rfl : l_4.toInt = l_4.toInt) (by omega)).2
          refine lv_goto (tgt := 30) hx hb dX10_fits_26 (by decide) ?_
          skip
          refine lv_ior hx hb dX10_fits_30 ?_
          refine lv_topi (fun n_118 en_118 => ?_)
          have bn_118 : 0 ≤ n_118.toInt ∧ n_118.toInt ≤ 1023 := i_orb 10 en_118 (by omega) (by omega) (by decide) (by decide)
          refine lv_istore_n (lv' := [(1, .int n_118), (2, .int l_4), (0, .ref (hm 0))]) hx hb dX10_fits_31 rfl hl (by decide) rfl (fun ls hl => ?_)
          obtain ⟨n_119, en_119⟩ : ∃ y : Int32, y = l_4 + 1 := ⟨_, rfl⟩
          have tn_119 : n_119.toInt = l_4.toInt + 1 := i_add en_119 (rfl : l_4.toInt = l_4.toInt) (by decide : (1 : Int32).toInt = 1) (by omega) (by omega)
          refine lv_iinc (v := n_119) (lv' := [(2, .int n_119), (1, .int n_118), (0, .ref (hm 0))]) hx hb dX10_fits_32 hl (k := 1) rfl (by rw [en_119]; rfl) (by decide) rfl (fun ls hl => ?_)
          refine lv_goto (tgt := 4) hx hb dX10_fits_35 (by decide) ?_
          exact ih4_5 n_118 n_119 (by omega) (by omega) (by
            have e9 : n_119.toNatClampNeg = l_4.toNatClampNeg + 1 := by rw [i_ix tn_119, i_ix (rfl : l_4.toInt = l_4.toInt)]; omega
            rw [e9, leftN, or_tn en_118 (by omega) (by first | omega | decide) (by omega), hL4_5_2]
            rw [if_pos (by rw [← en_112]; omega), sh1_tn en_117 (rfl : l_4.toInt = l_4.toInt) (by omega)]; rfl) (by omega) (by omega) _ _ _ hP hD hS (lv_sub hl [0, 1, 2] rfl)
  have k_120 : (0 : Int32).toInt = 0 := by decide
  have k_121 : (0 : Int32).toInt = 0 := by decide
  exact L4_5 8589934592 0 0 (by omega) (by omega) (by rw [show (0 : Int32).toNatClampNeg = 0 from by decide]; rfl) (by omega) (by omega) _ _ _ hP hD hS (lv_sub hl [0, 1, 2] rfl)
