set_option maxHeartbeats 16000000 in
set_option maxRecDepth 100000 in
theorem c_X10_readies (l : Launch) (D : va_G) (cy : Nat → ClassId) (hm : Nat → Nat) (v_taped v_walkers v_loads v_pieces v_changeCosts v_planned v_isMarch v_clauseMany v_place v_end v_bad v_clauses v_codes v_open v_stacked v_isOver v_isBehind v_atW v_atL v_atT v_atH v_atM v_atI v_atQ v_packing v_packed v_goPace v_goMinutes v_spentAt v_ranChanges : Int32) (f_m_tape f_m_knee f_m_weight f_m_isLame f_m_loadWeight f_m_owner f_m_food f_m_miles f_m_slope f_m_clauseLetter f_m_sumFrom f_m_codeFrom f_m_codeTo f_m_code f_m_codeArg f_m_newLetter f_m_newSum f_m_newFrom f_m_newTo f_m_newCode f_m_newArg f_m_stack f_m_worth f_m_isRefused f_m_least f_m_packPounds f_m_packOwner f_m_room f_m_givenTo f_m_canBe f_m_setPounds f_m_plainTime f_m_muleTime f_m_planTo f_m_march f_m_tired f_m_ranMinutes f_m_tiredAhead f_m_isReached f_m_toEnd f_m_upTo f_m_upNext f_m_byChanges f_m_bandPaces : Nat → Int32) (sz : Nat) (q : Int32) (bt : Int32) (hb_v_walkers : 0 ≤ v_walkers.toInt ∧ v_walkers.toInt ≤ 6) (hb_v_packed : 0 ≤ v_packed.toInt ∧ v_packed.toInt ≤ 10) (hr_m_packPounds : rg (0) 250 f_m_packPounds) (hr_m_packOwner : rg (-1) 5 f_m_packOwner) : gMi l yX10_readies cX10_readies 4 .boolean 2 [.ref (hm 0), .int q, .int bt] D cy (wMD cy hm v_taped v_walkers v_loads v_pieces v_changeCosts v_planned v_isMarch v_clauseMany v_place v_end v_bad v_clauses v_codes v_open v_stacked v_isOver v_isBehind v_atW v_atL v_atT v_atH v_atM v_atI v_atQ v_packing v_packed v_goPace v_goMinutes v_spentAt v_ranChanges f_m_tape f_m_knee f_m_weight f_m_isLame f_m_loadWeight f_m_owner f_m_food f_m_miles f_m_slope f_m_clauseLetter f_m_sumFrom f_m_codeFrom f_m_codeTo f_m_code f_m_codeArg f_m_newLetter f_m_newSum f_m_newFrom f_m_newTo f_m_newCode f_m_newArg f_m_stack f_m_worth f_m_isRefused f_m_least f_m_packPounds f_m_packOwner f_m_room f_m_givenTo f_m_canBe f_m_setPounds f_m_plainTime f_m_muleTime f_m_planTo f_m_march f_m_tired f_m_ranMinutes f_m_tiredAhead f_m_isReached f_m_toEnd f_m_upTo f_m_upNext f_m_byChanges f_m_bandPaces) NT sz (fun (r : Int32) (u : (Nat → Int32) × (Nat → Int32)) => (0 ≤ r.toInt ∧ r.toInt ≤ 1) ∧ (r.toInt = 1 → (∀ v : Nat, (v : Int) < v_walkers.toInt → pkB v_packing v = true → ((u.1) v).toInt = rmF f_m_least q bt f_m_packOwner f_m_packPounds v_packed.toNatClampNeg v ∧ 0 ≤ ((u.1) v).toInt ∧ ((u.1) v).toInt ≤ 400) ∧ (∀ v : Nat, (v : Int) < v_packed.toInt → (u.2) v = f_m_packOwner v))) (fun u => wMD cy hm v_taped v_walkers v_loads v_pieces v_changeCosts v_planned v_isMarch v_clauseMany v_place v_end v_bad v_clauses v_codes v_open v_stacked v_isOver v_isBehind v_atW v_atL v_atT v_atH v_atM v_atI v_atQ v_packing v_packed v_goPace v_goMinutes v_spentAt v_ranChanges f_m_tape f_m_knee f_m_weight f_m_isLame f_m_loadWeight f_m_owner f_m_food f_m_miles f_m_slope f_m_clauseLetter f_m_sumFrom f_m_codeFrom f_m_codeTo f_m_code f_m_codeArg f_m_newLetter f_m_newSum f_m_newFrom f_m_newTo f_m_newCode f_m_newArg f_m_stack f_m_worth f_m_isRefused f_m_least f_m_packPounds f_m_packOwner (u.1) (u.2) f_m_canBe f_m_setPounds f_m_plainTime f_m_muleTime f_m_planTo f_m_march f_m_tired f_m_ranMinutes f_m_tiredAhead f_m_isReached f_m_toEnd f_m_upTo f_m_upNext f_m_byChanges f_m_bandPaces) := by
  refine gMi_in (by decide) (Nat.le_of_ble_eq_true rfl) ?_
  intro p e s m args below meth c A ls Q hx hb hml hts hown hsz hP hK hD hN hAe hA hS hl hret
  subst hsz
  have hl : lv_has ls 4 [(0, .ref (hm 0)), (1, .int q), (2, .int bt)] := hl
  have hrt := fun (r : Int32) (f_m_room' : Nat → Int32) (f_m_givenTo' : Nat → Int32) (hp : (0 ≤ r.toInt ∧ r.toInt ≤ 1) ∧ (r.toInt = 1 → (∀ v : Nat, (v : Int) < v_walkers.toInt → pkB v_packing v = true → (f_m_room' v).toInt = rmF f_m_least q bt f_m_packOwner f_m_packPounds v_packed.toNatClampNeg v ∧ 0 ≤ (f_m_room' v).toInt ∧ (f_m_room' v).toInt ≤ 400) ∧ (∀ v : Nat, (v : Int) < v_packed.toInt → f_m_givenTo' v = f_m_packOwner v))) {H : Heap} {locs : List Loc} {pc : Nat} {ls : Array Slot} => hret r (f_m_room', f_m_givenTo') (H := H) (locs := locs) (pc := pc) (ls := ls) hp
  clear hret
  refine lv_iconst (v := 0) hx hb dX10_readies_0 (by decide) ?_
  refine lv_istore_n (lv' := [(3, .int 0), (0, .ref (hm 0)), (1, .int q), (2, .int bt)]) hx hb dX10_readies_1 rfl hl (by decide) rfl (fun ls hl => ?_)
  have L2_5 : ∀ (n : Nat) (f_3 : Nat → Int32) (l_4 : Int32), (0 ≤ l_4.toInt ∧ l_4.toInt ≤ 6) → (∀ v : Nat, (v : Int) < l_4.toInt → pkB v_packing v = true → (f_3 v).toInt = capF f_m_least q bt v ∧ 0 ≤ (f_3 v).toInt ∧ (f_3 v).toInt ≤ 400) → 7 - l_4.toInt < n → ∀ (H : Heap) (locs : List Loc) (ls : Array Slot), va_P D vwCl (wMD cy hm v_taped v_walkers v_loads v_pieces v_changeCosts v_planned v_isMarch v_clauseMany v_place v_end v_bad v_clauses v_codes v_open v_stacked v_isOver v_isBehind v_atW v_atL v_atT v_atH v_atM v_atI v_atQ v_packing v_packed v_goPace v_goMinutes v_spentAt v_ranChanges f_m_tape f_m_knee f_m_weight f_m_isLame f_m_loadWeight f_m_owner f_m_food f_m_miles f_m_slope f_m_clauseLetter f_m_sumFrom f_m_codeFrom f_m_codeTo f_m_code f_m_codeArg f_m_newLetter f_m_newSum f_m_newFrom f_m_newTo f_m_newCode f_m_newArg f_m_stack f_m_worth f_m_isRefused f_m_least f_m_packPounds f_m_packOwner f_3 f_m_givenTo f_m_canBe f_m_setPounds f_m_plainTime f_m_muleTime f_m_planTo f_m_march f_m_tired f_m_ranMinutes f_m_tiredAhead f_m_isReached f_m_toEnd f_m_upTo f_m_upNext f_m_byChanges f_m_bandPaces) H → va_D A (wMD cy hm v_taped v_walkers v_loads v_pieces v_changeCosts v_planned v_isMarch v_clauseMany v_place v_end v_bad v_clauses v_codes v_open v_stacked v_isOver v_isBehind v_atW v_atL v_atT v_atH v_atM v_atI v_atQ v_packing v_packed v_goPace v_goMinutes v_spentAt v_ranChanges f_m_tape f_m_knee f_m_weight f_m_isLame f_m_loadWeight f_m_owner f_m_food f_m_miles f_m_slope f_m_clauseLetter f_m_sumFrom f_m_codeFrom f_m_codeTo f_m_code f_m_codeArg f_m_newLetter f_m_newSum f_m_newFrom f_m_newTo f_m_newCode f_m_newArg f_m_stack f_m_worth f_m_isRefused f_m_least f_m_packPounds f_m_packOwner f_3 f_m_givenTo f_m_canBe f_m_setPounds f_m_plainTime f_m_muleTime f_m_planTo f_m_march f_m_tired f_m_ranMinutes f_m_tiredAhead f_m_isReached f_m_toEnd f_m_upTo f_m_upNext f_m_byChanges f_m_bandPaces) → va_S A s.heap H locs → lv_has ls 4 [(3, .int l_4), (0, .ref (hm 0)), (1, .int q), (2, .int bt)] → W p l e (gRm 2) s m args below meth c H locs 0 0 Q (F0 m 2 ls []) := by
    intro n
    induction n with
    | zero => intro f_3 l_4 hL2_5_0 hL2_5_1 hm; exact absurd hm (by omega)
    | succ n ih2_5 =>
      intro f_3 l_4 hL2_5_0 hL2_5_1 hmL2_5 H locs ls hP hD hS hl
      refine lv_iload_n hx hb dX10_readies_2 rfl (lv_at hl 0 rfl) ?_
      refine lv_aload_n hx hb dX10_readies_3 rfl (lv_at hl 1 rfl) ?_
      refine gt_MD_MD_walkers hx hb hts hown hK hP lwd_221 dX10_readies_4 ?_
      refine lv_icmp_ge (tgt := 54) hx hb dX10_readies_7 (by decide) (fun c_6 => ?_) (fun c_6 => ?_)
      · have gc_6 : v_walkers.toInt ≤ l_4.toInt := i_le (rfl : v_walkers.toInt = v_walkers.toInt) (rfl : l_4.toInt = l_4.toInt) c_6
        refine lv_iconst (v := 0) hx hb dX10_readies_54 (by decide) ?_
        refine lv_istore_n (lv' := [(3, .int 0), (0, .ref (hm 0)), (1, .int q), (2, .int bt)]) hx hb dX10_readies_55 rfl hl (by decide) rfl (fun ls hl => ?_)
        have L56_13 : ∀ (n : Nat) (f_10 : Nat → Int32) (f_11 : Nat → Int32) (l_12 : Int32), (0 ≤ l_12.toInt ∧ l_12.toInt ≤ 10) → (∀ v : Nat, (v : Int) < v_walkers.toInt → pkB v_packing v = true → (f_11 v).toInt = rmF f_m_least q bt f_m_packOwner f_m_packPounds l_12.toNatClampNeg v ∧ 0 ≤ (f_11 v).toInt ∧ (f_11 v).toInt ≤ 400) → (∀ v : Nat, (v : Int) < l_12.toInt → f_10 v = f_m_packOwner v) → (l_12.toInt ≤ v_packed.toInt) → 11 - l_12.toInt < n → ∀ (H : Heap) (locs : List Loc) (ls : Array Slot), va_P D vwCl (wMD cy hm v_taped v_walkers v_loads v_pieces v_changeCosts v_planned v_isMarch v_clauseMany v_place v_end v_bad v_clauses v_codes v_open v_stacked v_isOver v_isBehind v_atW v_atL v_atT v_atH v_atM v_atI v_atQ v_packing v_packed v_goPace v_goMinutes v_spentAt v_ranChanges f_m_tape f_m_knee f_m_weight f_m_isLame f_m_loadWeight f_m_owner f_m_food f_m_miles f_m_slope f_m_clauseLetter f_m_sumFrom f_m_codeFrom f_m_codeTo f_m_code f_m_codeArg f_m_newLetter f_m_newSum f_m_newFrom f_m_newTo f_m_newCode f_m_newArg f_m_stack f_m_worth f_m_isRefused f_m_least f_m_packPounds f_m_packOwner f_11 f_10 f_m_canBe f_m_setPounds f_m_plainTime f_m_muleTime f_m_planTo f_m_march f_m_tired f_m_ranMinutes f_m_tiredAhead f_m_isReached f_m_toEnd f_m_upTo f_m_upNext f_m_byChanges f_m_bandPaces) H → va_D A (wMD cy hm v_taped v_walkers v_loads v_pieces v_changeCosts v_planned v_isMarch v_clauseMany v_place v_end v_bad v_clauses v_codes v_open v_stacked v_isOver v_isBehind v_atW v_atL v_atT v_atH v_atM v_atI v_atQ v_packing v_packed v_goPace v_goMinutes v_spentAt v_ranChanges f_m_tape f_m_knee f_m_weight f_m_isLame f_m_loadWeight f_m_owner f_m_food f_m_miles f_m_slope f_m_clauseLetter f_m_sumFrom f_m_codeFrom f_m_codeTo f_m_code f_m_codeArg f_m_newLetter f_m_newSum f_m_newFrom f_m_newTo f_m_newCode f_m_newArg f_m_stack f_m_worth f_m_isRefused f_m_least f_m_packPounds f_m_packOwner f_11 f_10 f_m_canBe f_m_setPounds f_m_plainTime f_m_muleTime f_m_planTo f_m_march f_m_tired f_m_ranMinutes f_m_tiredAhead f_m_isReached f_m_toEnd f_m_upTo f_m_upNext f_m_byChanges f_m_bandPaces) → va_S A s.heap H locs → lv_has ls 4 [(3, .int l_12), (0, .ref (hm 0)), (1, .int q), (2, .int bt)] → W p l e (gRm 2) s m args below meth c H locs 0 0 Q (F0 m 56 ls []) := by
          intro n
          induction n with
          | zero => intro f_10 f_11 l_12 hL56_13_0 hL56_13_1 hL56_13_2 hL56_13_3 hm; exact absurd hm (by omega)
          | succ n ih56_13 =>
            intro f_10 f_11 l_12 hL56_13_0 hL56_13_1 hL56_13_2 hL56_13_3 hmL56_13 H locs ls hP hD hS hl
            refine lv_iload_n hx hb dX10_readies_56 rfl (lv_at hl 0 rfl) ?_
            refine lv_aload_n hx hb dX10_readies_57 rfl (lv_at hl 1 rfl) ?_
            refine gt_MD_MD_packed hx hb hts hown hK hP lwd_745 dX10_readies_58 ?_
            refine lv_icmp_ge (tgt := 131) hx hb dX10_readies_61 (by decide) (fun c_14 => ?_) (fun c_14 => ?_)
            · have gc_14 : v_packed.toInt ≤ l_12.toInt := i_le (rfl : v_packed.toInt = v_packed.toInt) (rfl : l_12.toInt = l_12.toInt) c_14
              refine lv_iconst (v := 1) hx hb dX10_readies_131 (by decide) ?_
              have k_15 : (1 : Int32).toInt = 1 := by decide
              exact hrt 1 f_11 f_10 ⟨(by omega), (fun _ => by
                have e9 : l_12.toNatClampNeg = v_packed.toNatClampNeg := by rw [i_ix (rfl : l_12.toInt = l_12.toInt), i_ix (rfl : v_packed.toInt = v_packed.toInt)]; omega
                exact ⟨fun v hv hp => by rw [← e9]; exact hL56_13_1 v hv hp, fun v hv => hL56_13_2 v (by omega)⟩)⟩ hP hD hS rfl dX10_readies_132
            · have gc_14 : l_12.toInt < v_packed.toInt := i_nle (rfl : v_packed.toInt = v_packed.toInt) (rfl : l_12.toInt = l_12.toInt) c_14
              skip
              refine lv_aload_n hx hb dX10_readies_64 rfl (lv_at hl 1 rfl) ?_
              refine gt_MD_MD_givenTo hx hb hts hown hK hP lwd_184 dX10_readies_65 ?_
              refine lv_iload_n hx hb dX10_readies_68 rfl (lv_at hl 0 rfl) ?_
              refine lv_aload_n hx hb dX10_readies_69 rfl (lv_at hl 1 rfl) ?_
              refine gt_MD_MD_packOwner hx hb hts hown hK hP lwd_182 dX10_readies_70 ?_
              refine lv_iload_n hx hb dX10_readies_73 rfl (lv_at hl 0 rfl) ?_
              refine al_m_packOwner hx hb hK hP hr_m_packOwner (i_in (rfl : l_12.toInt = l_12.toInt) (by omega) (by omega)) dX10_readies_74 (fun n_16 en_16 bn_16 => ?_)
              refine as_m_givenTo (x := n_16) hx hb hK hP hD hS (i_in (rfl : l_12.toInt = l_12.toInt) (by omega) (by omega)) dX10_readies_75 (fun f_17 ef_17 H locs hP hD hS => ?_)
              refine lv_aload_n hx hb dX10_readies_76 rfl (lv_at hl 1 rfl) ?_
              refine gt_MD_MD_packOwner hx hb hts hown hK hP lwd_182 dX10_readies_77 ?_
              refine lv_iload_n hx hb dX10_readies_80 rfl (lv_at hl 0 rfl) ?_
              refine al_m_packOwner hx hb hK hP hr_m_packOwner (i_in (rfl : l_12.toInt = l_12.toInt) (by omega) (by omega)) dX10_readies_81 (fun n_18 en_18 bn_18 => ?_)
              obtain rfl : n_16 = n_18 := en_16.trans en_18.symm
              refine lv_iconst (v := (-1)) hx hb dX10_readies_82 (by decide) ?_
              refine lv_icmp_ne (tgt := 89) hx hb dX10_readies_83 (by decide) (fun c_19 => ?_) (fun c_19 => ?_)
              · have gc_19 : n_16.toInt ≠ (-1) := i_ne (rfl : n_16.toInt = n_16.toInt) (by decide : ((-1) : Int32).toInt = (-1)) c_19
                skip
                refine lv_aload_n hx hb dX10_readies_89 rfl (lv_at hl 1 rfl) ?_
                refine gt_MD_MD_room hx hb hts hown hK hP lwd_183 dX10_readies_90 ?_
                refine lv_aload_n hx hb dX10_readies_93 rfl (lv_at hl 1 rfl) ?_
                refine gt_MD_MD_packOwner hx hb hts hown hK hP lwd_182 dX10_readies_94 ?_
                refine lv_iload_n hx hb dX10_readies_97 rfl (lv_at hl 0 rfl) ?_
                refine al_m_packOwner hx hb hK hP hr_m_packOwner (i_in (rfl : l_12.toInt = l_12.toInt) (by omega) (by omega)) dX10_readies_98 (fun n_20 en_20 bn_20 => ?_)
                obtain rfl : n_16 = n_20 := en_16.trans en_20.symm
                refine lv_dup2_11 hx hb dX10_readies_99 rfl rfl ?_
                refine al_m_room hx hb hK hP (i_in (rfl : n_16.toInt = n_16.toInt) (by omega) (by omega)) dX10_readies_100 (fun n_21 en_21 => ?_)
                refine lv_aload_n hx hb dX10_readies_101 rfl (lv_at hl 1 rfl) ?_
                refine gt_MD_MD_packPounds hx hb hts hown hK hP lwd_181 dX10_readies_102 ?_
                refine lv_iload_n hx hb dX10_readies_105 rfl (lv_at hl 0 rfl) ?_
                refine al_m_packPounds hx hb hK hP hr_m_packPounds (i_in (rfl : l_12.toInt = l_12.toInt) (by omega) (by omega)) dX10_readies_106 (fun n_22 en_22 bn_22 => ?_)
                refine lv_isub hx hb dX10_readies_107 ?_
                refine lv_topi (fun n_23 en_23 => ?_)
                skip
                refine as_m_room (x := n_23) hx hb hK hP hD hS (i_in (rfl : n_16.toInt = n_16.toInt) (by omega) (by omega)) dX10_readies_108 (fun f_24 ef_24 H locs hP hD hS => ?_)
                refine lv_aload_n hx hb dX10_readies_109 rfl (lv_at hl 1 rfl) ?_
                refine gt_MD_MD_room hx hb hts hown hK hP lwd_183 dX10_readies_110 ?_
                refine lv_aload_n hx hb dX10_readies_113 rfl (lv_at hl 1 rfl) ?_
                refine gt_MD_MD_packOwner hx hb hts hown hK hP lwd_182 dX10_readies_114 ?_
                refine lv_iload_n hx hb dX10_readies_117 rfl (lv_at hl 0 rfl) ?_
                refine al_m_packOwner hx hb hK hP hr_m_packOwner (i_in (rfl : l_12.toInt = l_12.toInt) (by omega) (by omega)) dX10_readies_118 (fun n_25 en_25 bn_25 => ?_)
                obtain rfl : n_16 = n_25 := en_16.trans en_25.symm
                refine al_m_room hx hb hK hP (i_in (rfl : n_16.toInt = n_16.toInt) (by omega) (by omega)) dX10_readies_119 (fun n_26 en_26 => ?_)
                have hsn_26 : n_26.toInt = n_23.toInt := by rw [en_26, ef_24, upd_at]
                refine lv_if_ge (tgt := 125) hx hb dX10_readies_120 (by decide) (fun c_27 => ?_) (fun c_27 => ?_)
                · have gc_27 : 0 ≤ n_26.toInt := i_le (by decide : (0 : Int32).toInt = 0) (rfl : n_26.toInt = n_26.toInt) c_27
                  obtain ⟨n_28, en_28⟩ : ∃ y : Int32, y = l_12 + 1 := ⟨_, rfl⟩
                  have tn_28 : n_28.toInt = l_12.toInt + 1 := i_add en_28 (rfl : l_12.toInt = l_12.toInt) (by decide : (1 : Int32).toInt = 1) (by omega) (by omega)
                  refine lv_iinc (v := n_28) (lv' := [(3, .int n_28), (0, .ref (hm 0)), (1, .int q), (2, .int bt)]) hx hb dX10_readies_125 hl (k := 0) rfl (by rw [en_28]; rfl) (by decide) rfl (fun ls hl => ?_)
                  refine lv_goto (tgt := 56) hx hb dX10_readies_128 (by decide) ?_
                  exact ih56_13 f_17 f_24 n_28 (by omega) (fun v hv hp => by
                    have h9 := hL56_13_1 v hv hp
                    have e9 : n_28.toNatClampNeg = l_12.toNatClampNeg + 1 := by rw [i_ix tn_28, i_ix (rfl : l_12.toInt = l_12.toInt)]; omega
                    rw [e9]
                    unfold rmF ownF
                    unfold rmF at h9
                    have z9 := en_26
                    rw [ef_24, upd_at] at z9
                    by_cases q9 : n_16.toInt = (v : Int)
                    · have e8 : v = n_16.toNatClampNeg := by rw [i_ix (rfl : n_16.toInt = n_16.toInt)]; omega
                      rw [if_pos (by rw [← en_16]; exact q9), ef_24, e8, upd_at]
                      rw [e8, ← en_21] at h9
                      have d9 := i_sub en_23 (rfl : n_21.toInt = n_21.toInt) (rfl : n_22.toInt = n_22.toInt) (by omega) (by omega)
                      rw [← en_22]
                      rw [z9] at *
                      omega
                    · rw [if_neg (by rw [← en_16]; exact q9), ef_24, upd_off _ _ (by rw [i_ix (rfl : n_16.toInt = n_16.toInt)]; omega)]
                      omega) (fun v hv => by
                    by_cases q9 : v = l_12.toNatClampNeg
                    · rw [q9, ef_17, upd_at]; exact en_16
                    · rw [ef_17, upd_off _ _ q9]; exact hL56_13_2 v (by rw [i_ix (rfl : l_12.toInt = l_12.toInt)] at q9; omega)) (by omega) (by omega) _ _ _ hP hD hS (lv_sub hl [0, 1, 2, 3] rfl)
                · have gc_27 : n_26.toInt < 0 := i_nle (by decide : (0 : Int32).toInt = 0) (rfl : n_26.toInt = n_26.toInt) c_27
                  refine lv_iconst (v := 0) hx hb dX10_readies_123 (by decide) ?_
                  have k_29 : (0 : Int32).toInt = 0 := by decide
                  exact hrt 0 f_24 f_17 ⟨(by omega), (fun h => absurd h (by omega))⟩ hP hD hS rfl dX10_readies_124
              · have gc_19 : n_16.toInt = (-1) := i_eq (rfl : n_16.toInt = n_16.toInt) (by decide : ((-1) : Int32).toInt = (-1)) c_19
                skip
                refine lv_goto (tgt := 125) hx hb dX10_readies_86 (by decide) ?_
                obtain ⟨n_30, en_30⟩ : ∃ y : Int32, y = l_12 + 1 := ⟨_, rfl⟩
                have tn_30 : n_30.toInt = l_12.toInt + 1 := i_add en_30 (rfl : l_12.toInt = l_12.toInt) (by decide : (1 : Int32).toInt = 1) (by omega) (by omega)
                refine lv_iinc (v := n_30) (lv' := [(3, .int n_30), (0, .ref (hm 0)), (1, .int q), (2, .int bt)]) hx hb dX10_readies_125 hl (k := 0) rfl (by rw [en_30]; rfl) (by decide) rfl (fun ls hl => ?_)
                refine lv_goto (tgt := 56) hx hb dX10_readies_128 (by decide) ?_
                exact ih56_13 f_17 f_11 n_30 (by omega) (fun v hv hp => by
                  have h9 := hL56_13_1 v hv hp
                  have e9 : n_30.toNatClampNeg = l_12.toNatClampNeg + 1 := by rw [i_ix tn_30, i_ix (rfl : l_12.toInt = l_12.toInt)]; omega
                  rw [e9]
                  unfold rmF ownF
                  unfold rmF at h9
                  rw [if_neg (by rw [← en_16]; omega)]
                  omega) (fun v hv => by
                  by_cases q9 : v = l_12.toNatClampNeg
                  · rw [q9, ef_17, upd_at]; exact en_16
                  · rw [ef_17, upd_off _ _ q9]; exact hL56_13_2 v (by rw [i_ix (rfl : l_12.toInt = l_12.toInt)] at q9; omega)) (by omega) (by omega) _ _ _ hP hD hS (lv_sub hl [0, 1, 2, 3] rfl)
        have k_31 : (0 : Int32).toInt = 0 := by decide
        exact L56_13 8589934592 f_m_givenTo f_3 0 (by omega) (fun v hv hp => by
          have h9 := hL2_5_1 v (by omega) hp
          rw [show (0 : Int32).toNatClampNeg = 0 from by decide]
          unfold rmF ownF
          omega) (fun v hv => absurd hv (by omega)) (by omega) (by omega) _ _ _ hP hD hS (lv_sub hl [0, 1, 2, 3] rfl)
      · have gc_6 : l_4.toInt < v_walkers.toInt := i_nle (rfl : v_walkers.toInt = v_walkers.toInt) (rfl : l_4.toInt = l_4.toInt) c_6
        skip
        refine lv_aload_n hx hb dX10_readies_10 rfl (lv_at hl 1 rfl) ?_
        refine gt_MD_MD_packing hx hb hts hown hK hP lwd_744 dX10_readies_11 ?_
        refine lv_iload_n hx hb dX10_readies_14 rfl (lv_at hl 0 rfl) ?_
        refine xi hD hS hA (xS (As := [.int v_packing, .int l_4]) (rest := []) hx hb hml hown hts hK hP hD hS hA NT_ok hN hAe hl.1 ⟨Nat.le_refl _, Nat.le_refl _⟩ (c_X10_has l D cy hm v_taped v_walkers v_loads v_pieces v_changeCosts v_planned v_isMarch v_clauseMany v_place v_end v_bad v_clauses v_codes v_open v_stacked v_isOver v_isBehind v_atW v_atL v_atT v_atH v_atM v_atI v_atQ v_packing v_packed v_goPace v_goMinutes v_spentAt v_ranChanges f_m_tape f_m_knee f_m_weight f_m_isLame f_m_loadWeight f_m_owner f_m_food f_m_miles f_m_slope f_m_clauseLetter f_m_sumFrom f_m_codeFrom f_m_codeTo f_m_code f_m_codeArg f_m_newLetter f_m_newSum f_m_newFrom f_m_newTo f_m_newCode f_m_newArg f_m_stack f_m_worth f_m_isRefused f_m_least f_m_packPounds f_m_packOwner f_3 f_m_givenTo f_m_canBe f_m_setPounds f_m_plainTime f_m_muleTime f_m_planTo f_m_march f_m_tired f_m_ranMinutes f_m_tiredAhead f_m_isReached f_m_toEnd f_m_upTo f_m_upNext f_m_byChanges f_m_bandPaces H.size v_packing l_4) (gi_S lwd_750 lwd_751 lwd_5 lwd_752) hd_X10_has ⟨Nat.le_of_ble_eq_true rfl, Nat.le_of_ble_eq_true rfl⟩ rfl (Nat.le_of_ble_eq_true rfl) dX10_readies_15) (fun r_33 u_32 H locs hw hP hD hS => ?_)
        try dsimp only at hw hP hD
        obtain ⟨p_34, p_35⟩ := hw
        refine lv_if_ne (tgt := 24) hx hb dX10_readies_18 (by decide) (fun c_36 => ?_) (fun c_36 => ?_)
        · have gc_36 : r_33.toInt ≠ 0 := i_ne (rfl : r_33.toInt = r_33.toInt) (by decide : (0 : Int32).toInt = 0) c_36
          skip
          refine lv_aload_n hx hb dX10_readies_24 rfl (lv_at hl 1 rfl) ?_
          refine gt_MD_MD_room hx hb hts hown hK hP lwd_183 dX10_readies_25 ?_
          refine lv_iload_n hx hb dX10_readies_28 rfl (lv_at hl 0 rfl) ?_
          refine lv_aload_n hx hb dX10_readies_29 rfl (lv_at hl 1 rfl) ?_
          refine lv_iload_n hx hb dX10_readies_30 rfl (lv_at hl 0 rfl) ?_
          refine lv_iload_n hx hb dX10_readies_31 rfl (lv_at hl 2 rfl) ?_
          refine lv_iload_n hx hb dX10_readies_32 rfl (lv_at hl 3 rfl) ?_
          refine xi hD hS hA (xV (As := [.int l_4, .int q, .int bt]) (rest := [.int l_4, .ref (hm 28)]) hx hb hml hown hts hK hP hD hS hA NT_ok hN hAe hl.1 ⟨Nat.le_refl _, Nat.le_refl _⟩ 0 rfl rfl rfl (c_X10_carryAt l D cy hm v_taped v_walkers v_loads v_pieces v_changeCosts v_planned v_isMarch v_clauseMany v_place v_end v_bad v_clauses v_codes v_open v_stacked v_isOver v_isBehind v_atW v_atL v_atT v_atH v_atM v_atI v_atQ v_packing v_packed v_goPace v_goMinutes v_spentAt v_ranChanges f_m_tape f_m_knee f_m_weight f_m_isLame f_m_loadWeight f_m_owner f_m_food f_m_miles f_m_slope f_m_clauseLetter f_m_sumFrom f_m_codeFrom f_m_codeTo f_m_code f_m_codeArg f_m_newLetter f_m_newSum f_m_newFrom f_m_newTo f_m_newCode f_m_newArg f_m_stack f_m_worth f_m_isRefused f_m_least f_m_packPounds f_m_packOwner f_3 f_m_givenTo f_m_canBe f_m_setPounds f_m_plainTime f_m_muleTime f_m_planTo f_m_march f_m_tired f_m_ranMinutes f_m_tiredAhead f_m_isReached f_m_toEnd f_m_upTo f_m_upNext f_m_byChanges f_m_bandPaces H.size l_4 q bt (by omega)) (gi_V lwd_608 lwd_609 lwd_610 lwd_5 lwd_611) ⟨rfl, hd_X10_carryAt⟩ ⟨Nat.le_of_ble_eq_true rfl, Nat.le_of_ble_eq_true rfl⟩ rfl (Nat.le_of_ble_eq_true rfl) dX10_readies_33) (fun r_38 u_37 H locs hw hP hD hS => ?_)
          try dsimp only at hw hP hD
          obtain ⟨p_39, p_40⟩ := hw
          refine as_m_room (x := r_38) hx hb hK hP hD hS (i_in (rfl : l_4.toInt = l_4.toInt) (by omega) (by omega)) dX10_readies_36 (fun f_41 ef_41 H locs hP hD hS => ?_)
          refine lv_aload_n hx hb dX10_readies_37 rfl (lv_at hl 1 rfl) ?_
          refine gt_MD_MD_room hx hb hts hown hK hP lwd_183 dX10_readies_38 ?_
          refine lv_iload_n hx hb dX10_readies_41 rfl (lv_at hl 0 rfl) ?_
          refine al_m_room hx hb hK hP (i_in (rfl : l_4.toInt = l_4.toInt) (by omega) (by omega)) dX10_readies_42 (fun n_42 en_42 => ?_)
          have hsn_42 : n_42.toInt = r_38.toInt := by rw [en_42, ef_41, upd_at]
          refine lv_if_ge (tgt := 48) hx hb dX10_readies_43 (by decide) (fun c_43 => ?_) (fun c_43 => ?_)
          · have gc_43 : 0 ≤ n_42.toInt := i_le (by decide : (0 : Int32).toInt = 0) (rfl : n_42.toInt = n_42.toInt) c_43
            obtain ⟨n_44, en_44⟩ : ∃ y : Int32, y = l_4 + 1 := ⟨_, rfl⟩
            have tn_44 : n_44.toInt = l_4.toInt + 1 := i_add en_44 (rfl : l_4.toInt = l_4.toInt) (by decide : (1 : Int32).toInt = 1) (by omega) (by omega)
            refine lv_iinc (v := n_44) (lv' := [(3, .int n_44), (0, .ref (hm 0)), (1, .int q), (2, .int bt)]) hx hb dX10_readies_48 hl (k := 0) rfl (by rw [en_44]; rfl) (by decide) rfl (fun ls hl => ?_)
            refine lv_goto (tgt := 2) hx hb dX10_readies_51 (by decide) ?_
            exact ih2_5 f_41 n_44 (by omega) (fun v hv hp => by
              by_cases q9 : (v : Int) < l_4.toInt
              · rw [ef_41, upd_off _ _ (by rw [i_ix (rfl : l_4.toInt = l_4.toInt)]; omega)]; exact hL2_5_1 v q9 hp
              · have e9 : v = l_4.toNatClampNeg := by rw [i_ix (rfl : l_4.toInt = l_4.toInt)]; omega
                have y9 := en_42
                rw [ef_41, upd_at] at y9
                rw [ef_41, e9, upd_at]
                exact ⟨p_40, by rw [y9] at *; omega, by omega⟩) (by omega) _ _ _ hP hD hS (lv_sub hl [0, 1, 2, 3] rfl)
          · have gc_43 : n_42.toInt < 0 := i_nle (by decide : (0 : Int32).toInt = 0) (rfl : n_42.toInt = n_42.toInt) c_43
            refine lv_iconst (v := 0) hx hb dX10_readies_46 (by decide) ?_
            have k_45 : (0 : Int32).toInt = 0 := by decide
            exact hrt 0 f_41 f_m_givenTo ⟨(by omega), (fun h => absurd h (by omega))⟩ hP hD hS rfl dX10_readies_47
        · have gc_36 : r_33.toInt = 0 := i_eq (rfl : r_33.toInt = r_33.toInt) (by decide : (0 : Int32).toInt = 0) c_36
          skip
          refine lv_goto (tgt := 48) hx hb dX10_readies_21 (by decide) ?_
          obtain ⟨n_46, en_46⟩ : ∃ y : Int32, y = l_4 + 1 := ⟨_, rfl⟩
          have tn_46 : n_46.toInt = l_4.toInt + 1 := i_add en_46 (rfl : l_4.toInt = l_4.toInt) (by decide : (1 : Int32).toInt = 1) (by omega) (by omega)
          refine lv_iinc (v := n_46) (lv' := [(3, .int n_46), (0, .ref (hm 0)), (1, .int q), (2, .int bt)]) hx hb dX10_readies_48 hl (k := 0) rfl (by rw [en_46]; rfl) (by decide) rfl (fun ls hl => ?_)
          refine lv_goto (tgt := 2) hx hb dX10_readies_51 (by decide) ?_
          exact ih2_5 f_3 n_46 (by omega) (fun v hv hp => by
            by_cases q9 : (v : Int) < l_4.toInt
            · exact hL2_5_1 v q9 hp
            · have e9 : v = l_4.toNatClampNeg := by rw [i_ix (rfl : l_4.toInt = l_4.toInt)]; omega
              rw [e9, pkB_of (by omega)] at hp
              have hp9 := of_decide_eq_true hp
              rcases p_35 with y | y
              · omega
              · exact absurd hp9 y.2) (by omega) _ _ _ hP hD hS (lv_sub hl [0, 1, 2, 3] rfl)
  have k_47 : (0 : Int32).toInt = 0 := by decide
  exact L2_5 8589934592 f_m_room 0 (by omega) (fun v hv => absurd hv (by omega)) (by omega) _ _ _ hP hD hS (lv_sub hl [0, 1, 2, 3] rfl)
set_option maxHeartbeats 16000000 in
set_option maxRecDepth 100000 in
theorem c_X10_canAt (l : Launch) (D : va_G) (cy : Nat → ClassId) (hm : Nat → Nat) (v_taped v_walkers v_loads v_pieces v_changeCosts v_planned v_isMarch v_clauseMany v_place v_end v_bad v_clauses v_codes v_open v_stacked v_isOver v_isBehind v_atW v_atL v_atT v_atH v_atM v_atI v_atQ v_packing v_packed v_goPace v_goMinutes v_spentAt v_ranChanges : Int32) (f_m_tape f_m_knee f_m_weight f_m_isLame f_m_loadWeight f_m_owner f_m_food f_m_miles f_m_slope f_m_clauseLetter f_m_sumFrom f_m_codeFrom f_m_codeTo f_m_code f_m_codeArg f_m_newLetter f_m_newSum f_m_newFrom f_m_newTo f_m_newCode f_m_newArg f_m_stack f_m_worth f_m_isRefused f_m_least f_m_packPounds f_m_packOwner f_m_room f_m_givenTo f_m_canBe f_m_setPounds f_m_plainTime f_m_muleTime f_m_planTo f_m_march f_m_tired f_m_ranMinutes f_m_tiredAhead f_m_isReached f_m_toEnd f_m_upTo f_m_upNext f_m_byChanges f_m_bandPaces : Nat → Int32) (sz : Nat) (q : Int32) (bt : Int32) (hb_v_walkers : 0 ≤ v_walkers.toInt ∧ v_walkers.toInt ≤ 6) (hb_v_packed : 0 ≤ v_packed.toInt ∧ v_packed.toInt ≤ 10) (hr_m_packPounds : rg (0) 250 f_m_packPounds) (hr_m_packOwner : rg (-1) 5 f_m_packOwner) (hr_m_canBe : rg (0) 1 f_m_canBe) : gMi l yX10_canAt cX10_canAt 3 .boolean 3 [.ref (hm 0), .int q, .int bt] D cy (wMD cy hm v_taped v_walkers v_loads v_pieces v_changeCosts v_planned v_isMarch v_clauseMany v_place v_end v_bad v_clauses v_codes v_open v_stacked v_isOver v_isBehind v_atW v_atL v_atT v_atH v_atM v_atI v_atQ v_packing v_packed v_goPace v_goMinutes v_spentAt v_ranChanges f_m_tape f_m_knee f_m_weight f_m_isLame f_m_loadWeight f_m_owner f_m_food f_m_miles f_m_slope f_m_clauseLetter f_m_sumFrom f_m_codeFrom f_m_codeTo f_m_code f_m_codeArg f_m_newLetter f_m_newSum f_m_newFrom f_m_newTo f_m_newCode f_m_newArg f_m_stack f_m_worth f_m_isRefused f_m_least f_m_packPounds f_m_packOwner f_m_room f_m_givenTo f_m_canBe f_m_setPounds f_m_plainTime f_m_muleTime f_m_planTo f_m_march f_m_tired f_m_ranMinutes f_m_tiredAhead f_m_isReached f_m_toEnd f_m_upTo f_m_upNext f_m_byChanges f_m_bandPaces) NT sz (fun (r : Int32) (u : (Nat → Int32) × (Nat → Int32) × (Nat → Int32) × (Nat → Int32)) => (0 ≤ r.toInt ∧ r.toInt ≤ 1) ∧ (r.toInt = 1 → can (fun i => (f_m_packPounds i).toInt) (rmF f_m_least q bt f_m_packOwner f_m_packPounds v_packed.toNatClampNeg) (pkB v_packing) v_packed.toNatClampNeg v_walkers.toNatClampNeg (leftN f_m_packOwner v_packed.toNatClampNeg)) ∧ (rg (0) 1 (u.2.2.1))) (fun u => wMD cy hm v_taped v_walkers v_loads v_pieces v_changeCosts v_planned v_isMarch v_clauseMany v_place v_end v_bad v_clauses v_codes v_open v_stacked v_isOver v_isBehind v_atW v_atL v_atT v_atH v_atM v_atI v_atQ v_packing v_packed v_goPace v_goMinutes v_spentAt v_ranChanges f_m_tape f_m_knee f_m_weight f_m_isLame f_m_loadWeight f_m_owner f_m_food f_m_miles f_m_slope f_m_clauseLetter f_m_sumFrom f_m_codeFrom f_m_codeTo f_m_code f_m_codeArg f_m_newLetter f_m_newSum f_m_newFrom f_m_newTo f_m_newCode f_m_newArg f_m_stack f_m_worth f_m_isRefused f_m_least f_m_packPounds f_m_packOwner (u.1) (u.2.1) (u.2.2.1) (u.2.2.2) f_m_plainTime f_m_muleTime f_m_planTo f_m_march f_m_tired f_m_ranMinutes f_m_tiredAhead f_m_isReached f_m_toEnd f_m_upTo f_m_upNext f_m_byChanges f_m_bandPaces) := by
  refine gMi_in (by decide) (Nat.le_of_ble_eq_true rfl) ?_
  intro p e s m args below meth c A ls Q hx hb hml hts hown hsz hP hK hD hN hAe hA hS hl hret
  subst hsz
  have hl : lv_has ls 3 [(0, .ref (hm 0)), (1, .int q), (2, .int bt)] := hl
  have hrt := fun (r : Int32) (f_m_room' : Nat → Int32) (f_m_givenTo' : Nat → Int32) (f_m_canBe' : Nat → Int32) (f_m_setPounds' : Nat → Int32) (hp : (0 ≤ r.toInt ∧ r.toInt ≤ 1) ∧ (r.toInt = 1 → can (fun i => (f_m_packPounds i).toInt) (rmF f_m_least q bt f_m_packOwner f_m_packPounds v_packed.toNatClampNeg) (pkB v_packing) v_packed.toNatClampNeg v_walkers.toNatClampNeg (leftN f_m_packOwner v_packed.toNatClampNeg)) ∧ (rg (0) 1 f_m_canBe')) {H : Heap} {locs : List Loc} {pc : Nat} {ls : Array Slot} => hret r (f_m_room', f_m_givenTo', f_m_canBe', f_m_setPounds') (H := H) (locs := locs) (pc := pc) (ls := ls) hp
  clear hret
  refine lv_aload_n hx hb dX10_canAt_0 rfl (lv_at hl 0 rfl) ?_
  refine lv_iload_n hx hb dX10_canAt_1 rfl (lv_at hl 1 rfl) ?_
  refine lv_iload_n hx hb dX10_canAt_2 rfl (lv_at hl 2 rfl) ?_
  refine xi hD hS hA (xV (As := [.int q, .int bt]) (rest := []) hx hb hml hown hts hK hP hD hS hA NT_ok hN hAe hl.1 ⟨Nat.le_refl _, Nat.le_refl _⟩ 0 rfl rfl rfl (c_X10_readies l D cy hm v_taped v_walkers v_loads v_pieces v_changeCosts v_planned v_isMarch v_clauseMany v_place v_end v_bad v_clauses v_codes v_open v_stacked v_isOver v_isBehind v_atW v_atL v_atT v_atH v_atM v_atI v_atQ v_packing v_packed v_goPace v_goMinutes v_spentAt v_ranChanges f_m_tape f_m_knee f_m_weight f_m_isLame f_m_loadWeight f_m_owner f_m_food f_m_miles f_m_slope f_m_clauseLetter f_m_sumFrom f_m_codeFrom f_m_codeTo f_m_code f_m_codeArg f_m_newLetter f_m_newSum f_m_newFrom f_m_newTo f_m_newCode f_m_newArg f_m_stack f_m_worth f_m_isRefused f_m_least f_m_packPounds f_m_packOwner f_m_room f_m_givenTo f_m_canBe f_m_setPounds f_m_plainTime f_m_muleTime f_m_planTo f_m_march f_m_tired f_m_ranMinutes f_m_tiredAhead f_m_isReached f_m_toEnd f_m_upTo f_m_upNext f_m_byChanges f_m_bandPaces s.heap.size q bt (by omega) (by omega) hr_m_packPounds hr_m_packOwner) (gi_V lwd_761 lwd_762 lwd_763 lwd_5 lwd_764) ⟨rfl, hd_X10_readies⟩ ⟨Nat.le_of_ble_eq_true rfl, Nat.le_of_ble_eq_true rfl⟩ rfl (Nat.le_of_ble_eq_true rfl) dX10_canAt_3) (fun r_2 u_1 H locs hw hP hD hS => ?_)
  obtain ⟨zroom_3, zgivenTo_4⟩ := u_1
  try dsimp only at hw hP hD
  obtain ⟨p_5, p_6⟩ := hw
  refine lv_if_eq (tgt := 20) hx hb dX10_canAt_6 (by decide) (fun c_7 => ?_) (fun c_7 => ?_)
  · have gc_7 : r_2.toInt = 0 := i_eq (rfl : r_2.toInt = r_2.toInt) (by decide : (0 : Int32).toInt = 0) c_7
    refine lv_iconst (v := 0) hx hb dX10_canAt_20 (by decide) ?_
    have k_8 : (0 : Int32).toInt = 0 := by decide
    exact hrt 0 zroom_3 zgivenTo_4 f_m_canBe f_m_setPounds ⟨(by omega), (fun h => absurd h (by omega)), hr_m_canBe⟩ hP hD hS rfl dX10_canAt_21
  · have gc_7 : r_2.toInt ≠ 0 := i_ne (rfl : r_2.toInt = r_2.toInt) (by decide : (0 : Int32).toInt = 0) c_7
    refine lv_aload_n hx hb dX10_canAt_9 rfl (lv_at hl 0 rfl) ?_
    refine xi hD hS hA (xV (As := []) (rest := []) hx hb hml hown hts hK hP hD hS hA NT_ok hN hAe hl.1 ⟨Nat.le_refl _, Nat.le_refl _⟩ 0 rfl rfl rfl (c_X10_fits l D cy hm v_taped v_walkers v_loads v_pieces v_changeCosts v_planned v_isMarch v_clauseMany v_place v_end v_bad v_clauses v_codes v_open v_stacked v_isOver v_isBehind v_atW v_atL v_atT v_atH v_atM v_atI v_atQ v_packing v_packed v_goPace v_goMinutes v_spentAt v_ranChanges f_m_tape f_m_knee f_m_weight f_m_isLame f_m_loadWeight f_m_owner f_m_food f_m_miles f_m_slope f_m_clauseLetter f_m_sumFrom f_m_codeFrom f_m_codeTo f_m_code f_m_codeArg f_m_newLetter f_m_newSum f_m_newFrom f_m_newTo f_m_newCode f_m_newArg f_m_stack f_m_worth f_m_isRefused f_m_least f_m_packPounds f_m_packOwner zroom_3 zgivenTo_4 f_m_canBe f_m_setPounds f_m_plainTime f_m_muleTime f_m_planTo f_m_march f_m_tired f_m_ranMinutes f_m_tiredAhead f_m_isReached f_m_toEnd f_m_upTo f_m_upNext f_m_byChanges f_m_bandPaces H.size (by omega) (by omega) hr_m_packPounds hr_m_canBe) (gi_V lwd_765 lwd_766 lwd_767 lwd_5 lwd_768) ⟨rfl, hd_X10_fits⟩ ⟨Nat.le_of_ble_eq_true rfl, Nat.le_of_ble_eq_true rfl⟩ rfl (Nat.le_of_ble_eq_true rfl) dX10_canAt_10) (fun r_10 u_9 H locs hw hP hD hS => ?_)
    obtain ⟨zcanBe_11, zsetPounds_12⟩ := u_9
    try dsimp only at hw hP hD
    obtain ⟨p_13, p_14, p_15⟩ := hw
    refine lv_if_eq (tgt := 20) hx hb dX10_canAt_13 (by decide) (fun c_16 => ?_) (fun c_16 => ?_)
    · have gc_16 : r_10.toInt = 0 := i_eq (rfl : r_10.toInt = r_10.toInt) (by decide : (0 : Int32).toInt = 0) c_16
      refine lv_iconst (v := 0) hx hb dX10_canAt_20 (by decide) ?_
      have k_17 : (0 : Int32).toInt = 0 := by decide
      exact hrt 0 zroom_3 zgivenTo_4 zcanBe_11 zsetPounds_12 ⟨(by omega), (fun h => absurd h (by omega)), p_15⟩ hP hD hS rfl dX10_canAt_21
    · have gc_16 : r_10.toInt ≠ 0 := i_ne (rfl : r_10.toInt = r_10.toInt) (by decide : (0 : Int32).toInt = 0) c_16
      refine lv_iconst (v := 1) hx hb dX10_canAt_16 (by decide) ?_
      refine lv_goto (tgt := 21) hx hb dX10_canAt_17 (by decide) ?_
      have k_18 : (1 : Int32).toInt = 1 := by decide
      exact hrt 1 zroom_3 zgivenTo_4 zcanBe_11 zsetPounds_12 ⟨(by omega), (fun _ => by
        have h8 := p_6 (by omega)
        have h9 := p_14.1 (by omega)
        rw [leftN_cg _ (fun x hx => h8.2 x (by rw [i_ix (rfl : v_packed.toInt = v_packed.toInt)] at hx; omega))] at h9
        exact can_congr2 (fun v hv hp => (h8.1 v (by rw [i_ix (rfl : v_walkers.toInt = v_walkers.toInt)] at hv; omega) hp).1) h9), p_15⟩ hP hD hS rfl dX10_canAt_21
set_option maxHeartbeats 16000000 in
set_option maxRecDepth 100000 in
theorem c_X10_wholePace (l : Launch) (D : va_G) (cy : Nat → ClassId) (hm : Nat → Nat) (v_taped v_walkers v_loads v_pieces v_changeCosts v_planned v_isMarch v_clauseMany v_place v_end v_bad v_clauses v_codes v_open v_stacked v_isOver v_isBehind v_atW v_atL v_atT v_atH v_atM v_atI v_atQ v_packing v_packed v_goPace v_goMinutes v_spentAt v_ranChanges : Int32) (f_m_tape f_m_knee f_m_weight f_m_isLame f_m_loadWeight f_m_owner f_m_food f_m_miles f_m_slope f_m_clauseLetter f_m_sumFrom f_m_codeFrom f_m_codeTo f_m_code f_m_codeArg f_m_newLetter f_m_newSum f_m_newFrom f_m_newTo f_m_newCode f_m_newArg f_m_stack f_m_worth f_m_isRefused f_m_least f_m_packPounds f_m_packOwner f_m_room f_m_givenTo f_m_canBe f_m_setPounds f_m_plainTime f_m_muleTime f_m_planTo f_m_march f_m_tired f_m_ranMinutes f_m_tiredAhead f_m_isReached f_m_toEnd f_m_upTo f_m_upNext f_m_byChanges f_m_bandPaces : Nat → Int32) (sz : Nat) (bt : Int32) (hb_v_walkers : 0 ≤ v_walkers.toInt ∧ v_walkers.toInt ≤ 6) (hb_v_packed : 0 ≤ v_packed.toInt ∧ v_packed.toInt ≤ 10) (hr_m_packPounds : rg (0) 250 f_m_packPounds) (hr_m_packOwner : rg (-1) 5 f_m_packOwner) (hr_m_canBe : rg (0) 1 f_m_canBe) : gMi l yX10_wholePace cX10_wholePace 5 .int 4 [.ref (hm 0), .int bt] D cy (wMD cy hm v_taped v_walkers v_loads v_pieces v_changeCosts v_planned v_isMarch v_clauseMany v_place v_end v_bad v_clauses v_codes v_open v_stacked v_isOver v_isBehind v_atW v_atL v_atT v_atH v_atM v_atI v_atQ v_packing v_packed v_goPace v_goMinutes v_spentAt v_ranChanges f_m_tape f_m_knee f_m_weight f_m_isLame f_m_loadWeight f_m_owner f_m_food f_m_miles f_m_slope f_m_clauseLetter f_m_sumFrom f_m_codeFrom f_m_codeTo f_m_code f_m_codeArg f_m_newLetter f_m_newSum f_m_newFrom f_m_newTo f_m_newCode f_m_newArg f_m_stack f_m_worth f_m_isRefused f_m_least f_m_packPounds f_m_packOwner f_m_room f_m_givenTo f_m_canBe f_m_setPounds f_m_plainTime f_m_muleTime f_m_planTo f_m_march f_m_tired f_m_ranMinutes f_m_tiredAhead f_m_isReached f_m_toEnd f_m_upTo f_m_upNext f_m_byChanges f_m_bandPaces) NT sz (fun (r : Int32) (u : (Nat → Int32) × (Nat → Int32) × (Nat → Int32) × (Nat → Int32)) => (0 ≤ r.toInt ∧ r.toInt ≤ 60) ∧ (r.toInt ≠ 0 → can (fun i => (f_m_packPounds i).toInt) (rmF f_m_least r bt f_m_packOwner f_m_packPounds v_packed.toNatClampNeg) (pkB v_packing) v_packed.toNatClampNeg v_walkers.toNatClampNeg (leftN f_m_packOwner v_packed.toNatClampNeg)) ∧ (rg (0) 1 (u.2.2.1))) (fun u => wMD cy hm v_taped v_walkers v_loads v_pieces v_changeCosts v_planned v_isMarch v_clauseMany v_place v_end v_bad v_clauses v_codes v_open v_stacked v_isOver v_isBehind v_atW v_atL v_atT v_atH v_atM v_atI v_atQ v_packing v_packed v_goPace v_goMinutes v_spentAt v_ranChanges f_m_tape f_m_knee f_m_weight f_m_isLame f_m_loadWeight f_m_owner f_m_food f_m_miles f_m_slope f_m_clauseLetter f_m_sumFrom f_m_codeFrom f_m_codeTo f_m_code f_m_codeArg f_m_newLetter f_m_newSum f_m_newFrom f_m_newTo f_m_newCode f_m_newArg f_m_stack f_m_worth f_m_isRefused f_m_least f_m_packPounds f_m_packOwner (u.1) (u.2.1) (u.2.2.1) (u.2.2.2) f_m_plainTime f_m_muleTime f_m_planTo f_m_march f_m_tired f_m_ranMinutes f_m_tiredAhead f_m_isReached f_m_toEnd f_m_upTo f_m_upNext f_m_byChanges f_m_bandPaces) := by
  refine gMi_in (by decide) (Nat.le_of_ble_eq_true rfl) ?_
  intro p e s m args below meth c A ls Q hx hb hml hts hown hsz hP hK hD hN hAe hA hS hl hret
  subst hsz
  have hl : lv_has ls 5 [(0, .ref (hm 0)), (1, .int bt)] := hl
  have hrt := fun (r : Int32) (f_m_room' : Nat → Int32) (f_m_givenTo' : Nat → Int32) (f_m_canBe' : Nat → Int32) (f_m_setPounds' : Nat → Int32) (hp : (0 ≤ r.toInt ∧ r.toInt ≤ 60) ∧ (r.toInt ≠ 0 → can (fun i => (f_m_packPounds i).toInt) (rmF f_m_least r bt f_m_packOwner f_m_packPounds v_packed.toNatClampNeg) (pkB v_packing) v_packed.toNatClampNeg v_walkers.toNatClampNeg (leftN f_m_packOwner v_packed.toNatClampNeg)) ∧ (rg (0) 1 f_m_canBe')) {H : Heap} {locs : List Loc} {pc : Nat} {ls : Array Slot} => hret r (f_m_room', f_m_givenTo', f_m_canBe', f_m_setPounds') (H := H) (locs := locs) (pc := pc) (ls := ls) hp
  clear hret
  refine lv_iconst (v := 0) hx hb dX10_wholePace_0 (by decide) ?_
  refine lv_istore_n (lv' := [(2, .int 0), (0, .ref (hm 0)), (1, .int bt)]) hx hb dX10_wholePace_1 rfl hl (by decide) rfl (fun ls hl => ?_)
  refine lv_bipush (v := 60) hx hb dX10_wholePace_2 (by decide) ?_
  refine lv_istore_n (lv' := [(3, .int 60), (2, .int 0), (0, .ref (hm 0)), (1, .int bt)]) hx hb dX10_wholePace_4 rfl hl (by decide) rfl (fun ls hl => ?_)
  have L5_13 : ∀ (n : Nat) (f_7 : Nat → Int32) (f_8 : Nat → Int32) (f_9 : Nat → Int32) (f_10 : Nat → Int32) (l_11 : Int32) (l_12 : Int32), (rg (0) 1 f_7) → (0 ≤ l_11.toInt ∧ l_11.toInt ≤ 60) → (0 ≤ l_12.toInt ∧ l_12.toInt ≤ 60) → (l_11.toInt ≤ l_12.toInt) → (l_11.toInt ≠ 0 → can (fun i => (f_m_packPounds i).toInt) (rmF f_m_least l_11 bt f_m_packOwner f_m_packPounds v_packed.toNatClampNeg) (pkB v_packing) v_packed.toNatClampNeg v_walkers.toNatClampNeg (leftN f_m_packOwner v_packed.toNatClampNeg)) → l_12.toInt - l_11.toInt < n → ∀ (H : Heap) (locs : List Loc) (ls : Array Slot), va_P D vwCl (wMD cy hm v_taped v_walkers v_loads v_pieces v_changeCosts v_planned v_isMarch v_clauseMany v_place v_end v_bad v_clauses v_codes v_open v_stacked v_isOver v_isBehind v_atW v_atL v_atT v_atH v_atM v_atI v_atQ v_packing v_packed v_goPace v_goMinutes v_spentAt v_ranChanges f_m_tape f_m_knee f_m_weight f_m_isLame f_m_loadWeight f_m_owner f_m_food f_m_miles f_m_slope f_m_clauseLetter f_m_sumFrom f_m_codeFrom f_m_codeTo f_m_code f_m_codeArg f_m_newLetter f_m_newSum f_m_newFrom f_m_newTo f_m_newCode f_m_newArg f_m_stack f_m_worth f_m_isRefused f_m_least f_m_packPounds f_m_packOwner f_9 f_8 f_7 f_10 f_m_plainTime f_m_muleTime f_m_planTo f_m_march f_m_tired f_m_ranMinutes f_m_tiredAhead f_m_isReached f_m_toEnd f_m_upTo f_m_upNext f_m_byChanges f_m_bandPaces) H → va_D A (wMD cy hm v_taped v_walkers v_loads v_pieces v_changeCosts v_planned v_isMarch v_clauseMany v_place v_end v_bad v_clauses v_codes v_open v_stacked v_isOver v_isBehind v_atW v_atL v_atT v_atH v_atM v_atI v_atQ v_packing v_packed v_goPace v_goMinutes v_spentAt v_ranChanges f_m_tape f_m_knee f_m_weight f_m_isLame f_m_loadWeight f_m_owner f_m_food f_m_miles f_m_slope f_m_clauseLetter f_m_sumFrom f_m_codeFrom f_m_codeTo f_m_code f_m_codeArg f_m_newLetter f_m_newSum f_m_newFrom f_m_newTo f_m_newCode f_m_newArg f_m_stack f_m_worth f_m_isRefused f_m_least f_m_packPounds f_m_packOwner f_9 f_8 f_7 f_10 f_m_plainTime f_m_muleTime f_m_planTo f_m_march f_m_tired f_m_ranMinutes f_m_tiredAhead f_m_isReached f_m_toEnd f_m_upTo f_m_upNext f_m_byChanges f_m_bandPaces) → va_S A s.heap H locs → lv_has ls 5 [(3, .int l_12), (2, .int l_11), (0, .ref (hm 0)), (1, .int bt)] → W p l e (gRm 4) s m args below meth c H locs 0 0 Q (F0 m 5 ls []) := by
    intro n
    induction n with
    | zero => intro f_7 f_8 f_9 f_10 l_11 l_12 hL5_13_0 hL5_13_1 hL5_13_2 hL5_13_3 hL5_13_4 hm; exact absurd hm (by omega)
    | succ n ih5_13 =>
      intro f_7 f_8 f_9 f_10 l_11 l_12 hL5_13_0 hL5_13_1 hL5_13_2 hL5_13_3 hL5_13_4 hmL5_13 H locs ls hP hD hS hl
      refine lv_iload_n hx hb dX10_wholePace_5 rfl (lv_at hl 1 rfl) ?_
      refine lv_iload_n hx hb dX10_wholePace_6 rfl (lv_at hl 0 rfl) ?_
      refine lv_icmp_ge (tgt := 43) hx hb dX10_wholePace_7 (by decide) (fun c_14 => ?_) (fun c_14 => ?_)
      · have gc_14 : l_12.toInt ≤ l_11.toInt := i_le (rfl : l_12.toInt = l_12.toInt) (rfl : l_11.toInt = l_11.toInt) c_14
        refine lv_iload_n hx hb dX10_wholePace_43 rfl (lv_at hl 1 rfl) ?_
        exact hrt l_11 f_9 f_8 f_7 f_10 ⟨(by omega), hL5_13_4, hL5_13_0⟩ hP hD hS rfl dX10_wholePace_44
      · have gc_14 : l_11.toInt < l_12.toInt := i_nle (rfl : l_12.toInt = l_12.toInt) (rfl : l_11.toInt = l_11.toInt) c_14
        refine lv_iload_n hx hb dX10_wholePace_10 rfl (lv_at hl 1 rfl) ?_
        refine lv_iload_n hx hb dX10_wholePace_11 rfl (lv_at hl 0 rfl) ?_
        refine lv_iadd hx hb dX10_wholePace_12 ?_
        refine lv_topi (fun n_15 en_15 => ?_)
        have tn_15 : n_15.toInt = l_11.toInt + l_12.toInt := i_add en_15 (rfl : l_11.toInt = l_11.toInt) (rfl : l_12.toInt = l_12.toInt) (by omega) (by omega)
        refine lv_iconst (v := 1) hx hb dX10_wholePace_13 (by decide) ?_
        refine lv_iadd hx hb dX10_wholePace_14 ?_
        refine lv_topi (fun n_16 en_16 => ?_)
        have tn_16 : n_16.toInt = (l_11.toInt + l_12.toInt) + 1 := i_add en_16 tn_15 (by decide : (1 : Int32).toInt = 1) (by omega) (by omega)
        refine lv_iconst (v := 2) hx hb dX10_wholePace_15 (by decide) ?_
        refine lv_idiv hx hb dX10_wholePace_16 (by decide) ?_
        refine lv_topi (fun n_17 en_17 => ?_)
        have tn_17 : n_17.toInt = ((l_11.toInt + l_12.toInt) + 1) / 2 := i_div en_17 tn_16 (by decide : (2 : Int32).toInt = 2) (by omega) (by omega)
        refine lv_istore (lv' := [(4, .int n_17), (3, .int l_12), (2, .int l_11), (0, .ref (hm 0)), (1, .int bt)]) hx hb dX10_wholePace_17 hl (by decide) rfl (fun ls hl => ?_)
        refine lv_aload_n hx hb dX10_wholePace_19 rfl (lv_at hl 3 rfl) ?_
        refine lv_iload hx hb dX10_wholePace_20 (lv_at hl 0 rfl) ?_
        refine lv_iload_n hx hb dX10_wholePace_22 rfl (lv_at hl 4 rfl) ?_
        refine xi hD hS hA (xV (As := [.int n_17, .int bt]) (rest := []) hx hb hml hown hts hK hP hD hS hA NT_ok hN hAe hl.1 ⟨Nat.le_refl _, Nat.le_refl _⟩ 0 rfl rfl rfl (c_X10_canAt l D cy hm v_taped v_walkers v_loads v_pieces v_changeCosts v_planned v_isMarch v_clauseMany v_place v_end v_bad v_clauses v_codes v_open v_stacked v_isOver v_isBehind v_atW v_atL v_atT v_atH v_atM v_atI v_atQ v_packing v_packed v_goPace v_goMinutes v_spentAt v_ranChanges f_m_tape f_m_knee f_m_weight f_m_isLame f_m_loadWeight f_m_owner f_m_food f_m_miles f_m_slope f_m_clauseLetter f_m_sumFrom f_m_codeFrom f_m_codeTo f_m_code f_m_codeArg f_m_newLetter f_m_newSum f_m_newFrom f_m_newTo f_m_newCode f_m_newArg f_m_stack f_m_worth f_m_isRefused f_m_least f_m_packPounds f_m_packOwner f_9 f_8 f_7 f_10 f_m_plainTime f_m_muleTime f_m_planTo f_m_march f_m_tired f_m_ranMinutes f_m_tiredAhead f_m_isReached f_m_toEnd f_m_upTo f_m_upNext f_m_byChanges f_m_bandPaces H.size n_17 bt (by omega) (by omega) hr_m_packPounds hr_m_packOwner hL5_13_0) (gi_V lwd_757 lwd_758 lwd_759 lwd_5 lwd_760) ⟨rfl, hd_X10_canAt⟩ ⟨Nat.le_of_ble_eq_true rfl, Nat.le_of_ble_eq_true rfl⟩ rfl (Nat.le_of_ble_eq_true rfl) dX10_wholePace_23) (fun r_19 u_18 H locs hw hP hD hS => ?_)
        obtain ⟨zroom_20, zgivenTo_21, zcanBe_22, zsetPounds_23⟩ := u_18
        try dsimp only at hw hP hD
        obtain ⟨p_24, p_25, p_26⟩ := hw
        refine lv_if_eq (tgt := 35) hx hb dX10_wholePace_26 (by decide) (fun c_27 => ?_) (fun c_27 => ?_)
        · have gc_27 : r_19.toInt = 0 := i_eq (rfl : r_19.toInt = r_19.toInt) (by decide : (0 : Int32).toInt = 0) c_27
          skip
          refine lv_iload hx hb dX10_wholePace_35 (lv_at hl 0 rfl) ?_
          refine lv_iconst (v := 1) hx hb dX10_wholePace_37 (by decide) ?_
          refine lv_isub hx hb dX10_wholePace_38 ?_
          refine lv_topi (fun n_28 en_28 => ?_)
          have tn_28 : n_28.toInt = (((l_11.toInt + l_12.toInt) + 1) / 2) - 1 := i_sub en_28 tn_17 (by decide : (1 : Int32).toInt = 1) (by omega) (by omega)
          refine lv_istore_n (lv' := [(3, .int n_28), (4, .int n_17), (2, .int l_11), (0, .ref (hm 0)), (1, .int bt)]) hx hb dX10_wholePace_39 rfl hl (by decide) rfl (fun ls hl => ?_)
          refine lv_goto (tgt := 5) hx hb dX10_wholePace_40 (by decide) ?_
          exact ih5_13 zcanBe_22 zgivenTo_21 zroom_20 zsetPounds_23 l_11 n_28 p_26 (by omega) (by omega) (by omega) hL5_13_4 (by omega) _ _ _ hP hD hS (lv_sub hl [0, 2, 3, 4] rfl)
        · have gc_27 : r_19.toInt ≠ 0 := i_ne (rfl : r_19.toInt = r_19.toInt) (by decide : (0 : Int32).toInt = 0) c_27
          skip
          refine lv_iload hx hb dX10_wholePace_29 (lv_at hl 0 rfl) ?_
          refine lv_istore_n (lv' := [(2, .int n_17), (4, .int n_17), (3, .int l_12), (0, .ref (hm 0)), (1, .int bt)]) hx hb dX10_wholePace_31 rfl hl (by decide) rfl (fun ls hl => ?_)
          refine lv_goto (tgt := 40) hx hb dX10_wholePace_32 (by decide) ?_
          refine lv_goto (tgt := 5) hx hb dX10_wholePace_40 (by decide) ?_
          exact ih5_13 zcanBe_22 zgivenTo_21 zroom_20 zsetPounds_23 n_17 l_12 p_26 (by omega) (by omega) (by omega) (fun _ => p_25 (by omega)) (by omega) _ _ _ hP hD hS (lv_sub hl [2, 0, 3, 4] rfl)
  have k_29 : (0 : Int32).toInt = 0 := by decide
  have k_30 : (60 : Int32).toInt = 60 := by decide
  exact L5_13 8589934592 f_m_canBe f_m_givenTo f_m_room f_m_setPounds 0 60 hr_m_canBe (by omega) (by omega) (by omega) (fun h => absurd (by decide) h) (by omega) _ _ _ hP hD hS (lv_sub hl [0, 1, 2, 3] rfl)
set_option maxHeartbeats 16000000 in
set_option maxRecDepth 100000 in
theorem c_X10_gives (l : Launch) (D : va_G) (cy : Nat → ClassId) (hm : Nat → Nat) (v_taped v_walkers v_loads v_pieces v_changeCosts v_planned v_isMarch v_clauseMany v_place v_end v_bad v_clauses v_codes v_open v_stacked v_isOver v_isBehind v_atW v_atL v_atT v_atH v_atM v_atI v_atQ v_packing v_packed v_goPace v_goMinutes v_spentAt v_ranChanges : Int32) (f_m_tape f_m_knee f_m_weight f_m_isLame f_m_loadWeight f_m_owner f_m_food f_m_miles f_m_slope f_m_clauseLetter f_m_sumFrom f_m_codeFrom f_m_codeTo f_m_code f_m_codeArg f_m_newLetter f_m_newSum f_m_newFrom f_m_newTo f_m_newCode f_m_newArg f_m_stack f_m_worth f_m_isRefused f_m_least f_m_packPounds f_m_packOwner f_m_room f_m_givenTo f_m_canBe f_m_setPounds f_m_plainTime f_m_muleTime f_m_planTo f_m_march f_m_tired f_m_ranMinutes f_m_tiredAhead f_m_isReached f_m_toEnd f_m_upTo f_m_upNext f_m_byChanges f_m_bandPaces : Nat → Int32) (sz : Nat) (q : Int32) (hb_v_walkers : 0 ≤ v_walkers.toInt ∧ v_walkers.toInt ≤ 6) (hb_v_packed : 0 ≤ v_packed.toInt ∧ v_packed.toInt ≤ 10) (hr_m_packPounds : rg (0) 250 f_m_packPounds) (hr_m_packOwner : rg (-1) 5 f_m_packOwner) (hr_m_canBe : rg (0) 1 f_m_canBe) (hcan : can (fun i => (f_m_packPounds i).toInt) (rmF f_m_least q (-1) f_m_packOwner f_m_packPounds v_packed.toNatClampNeg) (pkB v_packing) v_packed.toNatClampNeg v_walkers.toNatClampNeg (leftN f_m_packOwner v_packed.toNatClampNeg)) : gMv l yX10_gives cX10_gives 5 3 [.ref (hm 0), .int q] D cy (wMD cy hm v_taped v_walkers v_loads v_pieces v_changeCosts v_planned v_isMarch v_clauseMany v_place v_end v_bad v_clauses v_codes v_open v_stacked v_isOver v_isBehind v_atW v_atL v_atT v_atH v_atM v_atI v_atQ v_packing v_packed v_goPace v_goMinutes v_spentAt v_ranChanges f_m_tape f_m_knee f_m_weight f_m_isLame f_m_loadWeight f_m_owner f_m_food f_m_miles f_m_slope f_m_clauseLetter f_m_sumFrom f_m_codeFrom f_m_codeTo f_m_code f_m_codeArg f_m_newLetter f_m_newSum f_m_newFrom f_m_newTo f_m_newCode f_m_newArg f_m_stack f_m_worth f_m_isRefused f_m_least f_m_packPounds f_m_packOwner f_m_room f_m_givenTo f_m_canBe f_m_setPounds f_m_plainTime f_m_muleTime f_m_planTo f_m_march f_m_tired f_m_ranMinutes f_m_tiredAhead f_m_isReached f_m_toEnd f_m_upTo f_m_upNext f_m_byChanges f_m_bandPaces) NT sz (fun (u : (Nat → Int32) × (Nat → Int32) × (Nat → Int32) × (Nat → Int32)) => (rg (0) 1 (u.2.2.1))) (fun u => wMD cy hm v_taped v_walkers v_loads v_pieces v_changeCosts v_planned v_isMarch v_clauseMany v_place v_end v_bad v_clauses v_codes v_open v_stacked v_isOver v_isBehind v_atW v_atL v_atT v_atH v_atM v_atI v_atQ v_packing v_packed v_goPace v_goMinutes v_spentAt v_ranChanges f_m_tape f_m_knee f_m_weight f_m_isLame f_m_loadWeight f_m_owner f_m_food f_m_miles f_m_slope f_m_clauseLetter f_m_sumFrom f_m_codeFrom f_m_codeTo f_m_code f_m_codeArg f_m_newLetter f_m_newSum f_m_newFrom f_m_newTo f_m_newCode f_m_newArg f_m_stack f_m_worth f_m_isRefused f_m_least f_m_packPounds f_m_packOwner (u.1) (u.2.1) (u.2.2.1) (u.2.2.2) f_m_plainTime f_m_muleTime f_m_planTo f_m_march f_m_tired f_m_ranMinutes f_m_tiredAhead f_m_isReached f_m_toEnd f_m_upTo f_m_upNext f_m_byChanges f_m_bandPaces) := by
  refine gMv_in (by decide) (Nat.le_of_ble_eq_true rfl) ?_
  intro p e s m args below meth c A ls Q hx hb hml hts hown hsz hP hK hD hN hAe hA hS hl hret
  subst hsz
  have hl : lv_has ls 5 [(0, .ref (hm 0)), (1, .int q)] := hl
  have hrt := fun (f_m_room' : Nat → Int32) (f_m_givenTo' : Nat → Int32) (f_m_canBe' : Nat → Int32) (f_m_setPounds' : Nat → Int32) (hp : (rg (0) 1 f_m_canBe')) {H : Heap} {locs : List Loc} {pc : Nat} {ls : Array Slot} => hret (f_m_room', f_m_givenTo', f_m_canBe', f_m_setPounds') (H := H) (locs := locs) (pc := pc) (ls := ls) hp
  clear hret
  refine lv_aload_n hx hb dX10_gives_0 rfl (lv_at hl 0 rfl) ?_
  refine lv_iload_n hx hb dX10_gives_1 rfl (lv_at hl 1 rfl) ?_
  refine lv_iconst (v := (-1)) hx hb dX10_gives_2 (by decide) ?_
  have k_1 : ((-1) : Int32).toInt = (-1) := by decide
  refine xi hD hS hA (xV (As := [.int q, .int (-1)]) (rest := []) hx hb hml hown hts hK hP hD hS hA NT_ok hN hAe hl.1 ⟨Nat.le_refl _, Nat.le_refl _⟩ 0 rfl rfl rfl (c_X10_readies l D cy hm v_taped v_walkers v_loads v_pieces v_changeCosts v_planned v_isMarch v_clauseMany v_place v_end v_bad v_clauses v_codes v_open v_stacked v_isOver v_isBehind v_atW v_atL v_atT v_atH v_atM v_atI v_atQ v_packing v_packed v_goPace v_goMinutes v_spentAt v_ranChanges f_m_tape f_m_knee f_m_weight f_m_isLame f_m_loadWeight f_m_owner f_m_food f_m_miles f_m_slope f_m_clauseLetter f_m_sumFrom f_m_codeFrom f_m_codeTo f_m_code f_m_codeArg f_m_newLetter f_m_newSum f_m_newFrom f_m_newTo f_m_newCode f_m_newArg f_m_stack f_m_worth f_m_isRefused f_m_least f_m_packPounds f_m_packOwner f_m_room f_m_givenTo f_m_canBe f_m_setPounds f_m_plainTime f_m_muleTime f_m_planTo f_m_march f_m_tired f_m_ranMinutes f_m_tiredAhead f_m_isReached f_m_toEnd f_m_upTo f_m_upNext f_m_byChanges f_m_bandPaces s.heap.size q (-1) (by omega) (by omega) hr_m_packPounds hr_m_packOwner) (gi_V lwd_761 lwd_762 lwd_763 lwd_5 lwd_764) ⟨rfl, hd_X10_readies⟩ ⟨Nat.le_of_ble_eq_true rfl, Nat.le_of_ble_eq_true rfl⟩ rfl (Nat.le_of_ble_eq_true rfl) dX10_gives_3) (fun r_3 u_2 H locs hw hP hD hS => ?_)
  obtain ⟨zroom_4, zgivenTo_5⟩ := u_2
  try dsimp only at hw hP hD
  obtain ⟨p_6, p_7⟩ := hw
  refine lv_istore_n (lv' := [(2, .int r_3), (0, .ref (hm 0)), (1, .int q)]) hx hb dX10_gives_6 rfl hl (by decide) rfl (fun ls hl => ?_)
  refine lv_iconst (v := 0) hx hb dX10_gives_7 (by decide) ?_
  refine lv_istore_n (lv' := [(3, .int 0), (2, .int r_3), (0, .ref (hm 0)), (1, .int q)]) hx hb dX10_gives_8 rfl hl (by decide) rfl (fun ls hl => ?_)
  have L9_18 : ∀ (n : Nat) (f_13 : Nat → Int32) (f_14 : Nat → Int32) (f_15 : Nat → Int32) (f_16 : Nat → Int32) (l_17 : Int32), (rg (0) 1 f_13) → (0 ≤ l_17.toInt ∧ l_17.toInt ≤ 10) → (r_3.toInt ≠ 0 → can (fun i => (f_m_packPounds i).toInt) (fun i => (f_15 i).toInt) (pkB v_packing) v_packed.toNatClampNeg v_walkers.toNatClampNeg (leftN f_14 v_packed.toNatClampNeg)) → 11 - l_17.toInt < n → ∀ (H : Heap) (locs : List Loc) (ls : Array Slot), va_P D vwCl (wMD cy hm v_taped v_walkers v_loads v_pieces v_changeCosts v_planned v_isMarch v_clauseMany v_place v_end v_bad v_clauses v_codes v_open v_stacked v_isOver v_isBehind v_atW v_atL v_atT v_atH v_atM v_atI v_atQ v_packing v_packed v_goPace v_goMinutes v_spentAt v_ranChanges f_m_tape f_m_knee f_m_weight f_m_isLame f_m_loadWeight f_m_owner f_m_food f_m_miles f_m_slope f_m_clauseLetter f_m_sumFrom f_m_codeFrom f_m_codeTo f_m_code f_m_codeArg f_m_newLetter f_m_newSum f_m_newFrom f_m_newTo f_m_newCode f_m_newArg f_m_stack f_m_worth f_m_isRefused f_m_least f_m_packPounds f_m_packOwner f_15 f_14 f_13 f_16 f_m_plainTime f_m_muleTime f_m_planTo f_m_march f_m_tired f_m_ranMinutes f_m_tiredAhead f_m_isReached f_m_toEnd f_m_upTo f_m_upNext f_m_byChanges f_m_bandPaces) H → va_D A (wMD cy hm v_taped v_walkers v_loads v_pieces v_changeCosts v_planned v_isMarch v_clauseMany v_place v_end v_bad v_clauses v_codes v_open v_stacked v_isOver v_isBehind v_atW v_atL v_atT v_atH v_atM v_atI v_atQ v_packing v_packed v_goPace v_goMinutes v_spentAt v_ranChanges f_m_tape f_m_knee f_m_weight f_m_isLame f_m_loadWeight f_m_owner f_m_food f_m_miles f_m_slope f_m_clauseLetter f_m_sumFrom f_m_codeFrom f_m_codeTo f_m_code f_m_codeArg f_m_newLetter f_m_newSum f_m_newFrom f_m_newTo f_m_newCode f_m_newArg f_m_stack f_m_worth f_m_isRefused f_m_least f_m_packPounds f_m_packOwner f_15 f_14 f_13 f_16 f_m_plainTime f_m_muleTime f_m_planTo f_m_march f_m_tired f_m_ranMinutes f_m_tiredAhead f_m_isReached f_m_toEnd f_m_upTo f_m_upNext f_m_byChanges f_m_bandPaces) → va_S A s.heap H locs → lv_has ls 5 [(3, .int l_17), (2, .int r_3), (0, .ref (hm 0)), (1, .int q)] → W p l e (gRm 3) s m args below meth c H locs 0 0 Q (F0 m 9 ls []) := by
    intro n
    induction n with
    | zero => intro f_13 f_14 f_15 f_16 l_17 hL9_18_0 hL9_18_1 hL9_18_2 hm; exact absurd hm (by omega)
    | succ n ih9_18 =>
      intro f_13 f_14 f_15 f_16 l_17 hL9_18_0 hL9_18_1 hL9_18_2 hmL9_18 H locs ls hP hD hS hl
      refine lv_iload_n hx hb dX10_gives_9 rfl (lv_at hl 0 rfl) ?_
      refine lv_aload_n hx hb dX10_gives_10 rfl (lv_at hl 2 rfl) ?_
      refine gt_MD_MD_packed hx hb hts hown hK hP lwd_745 dX10_gives_11 ?_
      refine lv_icmp_ge (tgt := 128) hx hb dX10_gives_14 (by decide) (fun c_19 => ?_) (fun c_19 => ?_)
      · have gc_19 : v_packed.toInt ≤ l_17.toInt := i_le (rfl : v_packed.toInt = v_packed.toInt) (rfl : l_17.toInt = l_17.toInt) c_19
        exact hrt f_15 f_14 f_13 f_16 hL9_18_0 hP hD hS dX10_gives_128
      · have gc_19 : l_17.toInt < v_packed.toInt := i_nle (rfl : v_packed.toInt = v_packed.toInt) (rfl : l_17.toInt = l_17.toInt) c_19
        refine lv_iload_n hx hb dX10_gives_17 rfl (lv_at hl 1 rfl) ?_
        refine lv_if_eq (tgt := 128) hx hb dX10_gives_18 (by decide) (fun c_20 => ?_) (fun c_20 => ?_)
        · have gc_20 : r_3.toInt = 0 := i_eq (rfl : r_3.toInt = r_3.toInt) (by decide : (0 : Int32).toInt = 0) c_20
          exact hrt f_15 f_14 f_13 f_16 hL9_18_0 hP hD hS dX10_gives_128
        · have gc_20 : r_3.toInt ≠ 0 := i_ne (rfl : r_3.toInt = r_3.toInt) (by decide : (0 : Int32).toInt = 0) c_20
          refine lv_iconst (v := 0) hx hb dX10_gives_21 (by decide) ?_
          refine lv_istore (lv' := [(4, .int 0), (3, .int l_17), (2, .int r_3), (0, .ref (hm 0)), (1, .int q)]) hx hb dX10_gives_22 hl (by decide) rfl (fun ls hl => ?_)
          have L24_31 : ∀ (n : Nat) (f_26 : Nat → Int32) (f_27 : Nat → Int32) (f_28 : Nat → Int32) (f_29 : Nat → Int32) (l_30 : Int32), (rg (0) 1 f_26) → (0 ≤ l_30.toInt ∧ l_30.toInt ≤ 6) → (can (fun i => (f_m_packPounds i).toInt) (fun i => (f_28 i).toInt) (pkB v_packing) v_packed.toNatClampNeg v_walkers.toNatClampNeg (leftN f_27 v_packed.toNatClampNeg)) → ((f_27 l_17.toNatClampNeg).toInt = -1 → ∀ v : Nat, (v : Int) < l_30.toInt → ¬ (pkB v_packing v = true ∧ (f_m_packPounds l_17.toNatClampNeg).toInt ≤ (f_28 v).toInt ∧ can (fun i => (f_m_packPounds i).toInt) (lessR (fun i => (f_28 i).toInt) v (f_m_packPounds l_17.toNatClampNeg).toInt) (pkB v_packing) v_packed.toNatClampNeg v_walkers.toNatClampNeg (dif (leftN f_27 v_packed.toNatClampNeg) (2 ^ l_17.toNatClampNeg)))) → 7 - l_30.toInt < n → ∀ (H : Heap) (locs : List Loc) (ls : Array Slot), va_P D vwCl (wMD cy hm v_taped v_walkers v_loads v_pieces v_changeCosts v_planned v_isMarch v_clauseMany v_place v_end v_bad v_clauses v_codes v_open v_stacked v_isOver v_isBehind v_atW v_atL v_atT v_atH v_atM v_atI v_atQ v_packing v_packed v_goPace v_goMinutes v_spentAt v_ranChanges f_m_tape f_m_knee f_m_weight f_m_isLame f_m_loadWeight f_m_owner f_m_food f_m_miles f_m_slope f_m_clauseLetter f_m_sumFrom f_m_codeFrom f_m_codeTo f_m_code f_m_codeArg f_m_newLetter f_m_newSum f_m_newFrom f_m_newTo f_m_newCode f_m_newArg f_m_stack f_m_worth f_m_isRefused f_m_least f_m_packPounds f_m_packOwner f_28 f_27 f_26 f_29 f_m_plainTime f_m_muleTime f_m_planTo f_m_march f_m_tired f_m_ranMinutes f_m_tiredAhead f_m_isReached f_m_toEnd f_m_upTo f_m_upNext f_m_byChanges f_m_bandPaces) H → va_D A (wMD cy hm v_taped v_walkers v_loads v_pieces v_changeCosts v_planned v_isMarch v_clauseMany v_place v_end v_bad v_clauses v_codes v_open v_stacked v_isOver v_isBehind v_atW v_atL v_atT v_atH v_atM v_atI v_atQ v_packing v_packed v_goPace v_goMinutes v_spentAt v_ranChanges f_m_tape f_m_knee f_m_weight f_m_isLame f_m_loadWeight f_m_owner f_m_food f_m_miles f_m_slope f_m_clauseLetter f_m_sumFrom f_m_codeFrom f_m_codeTo f_m_code f_m_codeArg f_m_newLetter f_m_newSum f_m_newFrom f_m_newTo f_m_newCode f_m_newArg f_m_stack f_m_worth f_m_isRefused f_m_least f_m_packPounds f_m_packOwner f_28 f_27 f_26 f_29 f_m_plainTime f_m_muleTime f_m_planTo f_m_march f_m_tired f_m_ranMinutes f_m_tiredAhead f_m_isReached f_m_toEnd f_m_upTo f_m_upNext f_m_byChanges f_m_bandPaces) → va_S A s.heap H locs → lv_has ls 5 [(4, .int l_30), (3, .int l_17), (2, .int r_3), (0, .ref (hm 0)), (1, .int q)] → W p l e (gRm 3) s m args below meth c H locs 0 0 Q (F0 m 24 ls []) := by
            intro n
            induction n with
            | zero => intro f_26 f_27 f_28 f_29 l_30 hL24_31_0 hL24_31_1 hL24_31_2 hL24_31_3 hm; exact absurd hm (by omega)
            | succ n ih24_31 =>
              intro f_26 f_27 f_28 f_29 l_30 hL24_31_0 hL24_31_1 hL24_31_2 hL24_31_3 hmL24_31 H locs ls hP hD hS hl
              refine lv_aload_n hx hb dX10_gives_24 rfl (lv_at hl 3 rfl) ?_
              refine gt_MD_MD_givenTo hx hb hts hown hK hP lwd_184 dX10_gives_25 ?_
              refine lv_iload_n hx hb dX10_gives_28 rfl (lv_at hl 1 rfl) ?_
              refine al_m_givenTo hx hb hK hP (i_in (rfl : l_17.toInt = l_17.toInt) (by omega) (by omega)) dX10_gives_29 (fun n_32 en_32 => ?_)
              refine lv_iconst (v := (-1)) hx hb dX10_gives_30 (by decide) ?_
              refine lv_icmp_ne (tgt := 122) hx hb dX10_gives_31 (by decide) (fun c_33 => ?_) (fun c_33 => ?_)
              · have gc_33 : n_32.toInt ≠ (-1) := i_ne (rfl : n_32.toInt = n_32.toInt) (by decide : ((-1) : Int32).toInt = (-1)) c_33
                obtain ⟨n_34, en_34⟩ : ∃ y : Int32, y = l_17 + 1 := ⟨_, rfl⟩
                have tn_34 : n_34.toInt = l_17.toInt + 1 := i_add en_34 (rfl : l_17.toInt = l_17.toInt) (by decide : (1 : Int32).toInt = 1) (by omega) (by omega)
                refine lv_iinc (v := n_34) (lv' := [(3, .int n_34), (4, .int l_30), (2, .int r_3), (0, .ref (hm 0)), (1, .int q)]) hx hb dX10_gives_122 hl (k := 1) rfl (by rw [en_34]; rfl) (by decide) rfl (fun ls hl => ?_)
                refine lv_goto (tgt := 9) hx hb dX10_gives_125 (by decide) ?_
                exact ih9_18 f_26 f_27 f_28 f_29 n_34 hL24_31_0 (by omega) (fun _ => hL24_31_2) (by omega) _ _ _ hP hD hS (lv_sub hl [0, 2, 3, 4] rfl)
              · have gc_33 : n_32.toInt = (-1) := i_eq (rfl : n_32.toInt = n_32.toInt) (by decide : ((-1) : Int32).toInt = (-1)) c_33
                have hx9 : l_17.toNatClampNeg < v_packed.toNatClampNeg := by rw [i_ix (rfl : l_17.toInt = l_17.toInt), i_ix (rfl : v_packed.toInt = v_packed.toInt)]; omega
                have hgm9 : (f_27 l_17.toNatClampNeg).toInt = -1 := by rw [← en_32]; omega
                have hwl9 : l_30.toInt < v_walkers.toInt := by
                  obtain ⟨v, t1, t2, t3, t4⟩ := can_take (fun i => (hr_m_packPounds i).1) hx9 (leftN_has hx9 hgm9) hL24_31_2
                  by_cases q9 : (v : Int) < l_30.toInt
                  · exact absurd ⟨t2, t3, t4⟩ (hL24_31_3 hgm9 v q9)
                  · rw [i_ix (rfl : v_walkers.toInt = v_walkers.toInt)] at t1; omega
                skip
                refine lv_aload_n hx hb dX10_gives_34 rfl (lv_at hl 3 rfl) ?_
                refine gt_MD_MD_packing hx hb hts hown hK hP lwd_744 dX10_gives_35 ?_
                refine lv_iload hx hb dX10_gives_38 (lv_at hl 0 rfl) ?_
                refine xi hD hS hA (xS (As := [.int v_packing, .int l_30]) (rest := []) hx hb hml hown hts hK hP hD hS hA NT_ok hN hAe hl.1 ⟨Nat.le_refl _, Nat.le_refl _⟩ (c_X10_has l D cy hm v_taped v_walkers v_loads v_pieces v_changeCosts v_planned v_isMarch v_clauseMany v_place v_end v_bad v_clauses v_codes v_open v_stacked v_isOver v_isBehind v_atW v_atL v_atT v_atH v_atM v_atI v_atQ v_packing v_packed v_goPace v_goMinutes v_spentAt v_ranChanges f_m_tape f_m_knee f_m_weight f_m_isLame f_m_loadWeight f_m_owner f_m_food f_m_miles f_m_slope f_m_clauseLetter f_m_sumFrom f_m_codeFrom f_m_codeTo f_m_code f_m_codeArg f_m_newLetter f_m_newSum f_m_newFrom f_m_newTo f_m_newCode f_m_newArg f_m_stack f_m_worth f_m_isRefused f_m_least f_m_packPounds f_m_packOwner f_28 f_27 f_26 f_29 f_m_plainTime f_m_muleTime f_m_planTo f_m_march f_m_tired f_m_ranMinutes f_m_tiredAhead f_m_isReached f_m_toEnd f_m_upTo f_m_upNext f_m_byChanges f_m_bandPaces H.size v_packing l_30) (gi_S lwd_750 lwd_751 lwd_5 lwd_752) hd_X10_has ⟨Nat.le_of_ble_eq_true rfl, Nat.le_of_ble_eq_true rfl⟩ rfl (Nat.le_of_ble_eq_true rfl) dX10_gives_40) (fun r_36 u_35 H locs hw hP hD hS => ?_)
                try dsimp only at hw hP hD
                obtain ⟨p_37, p_38⟩ := hw
                refine lv_if_eq (tgt := 116) hx hb dX10_gives_43 (by decide) (fun c_39 => ?_) (fun c_39 => ?_)
                · have gc_39 : r_36.toInt = 0 := i_eq (rfl : r_36.toInt = r_36.toInt) (by decide : (0 : Int32).toInt = 0) c_39
                  skip
                  obtain ⟨n_40, en_40⟩ : ∃ y : Int32, y = l_30 + 1 := ⟨_, rfl⟩
                  have tn_40 : n_40.toInt = l_30.toInt + 1 := i_add en_40 (rfl : l_30.toInt = l_30.toInt) (by decide : (1 : Int32).toInt = 1) (by omega) (by omega)
                  refine lv_iinc (v := n_40) (lv' := [(4, .int n_40), (3, .int l_17), (2, .int r_3), (0, .ref (hm 0)), (1, .int q)]) hx hb dX10_gives_116 hl (k := 0) rfl (by rw [en_40]; rfl) (by decide) rfl (fun ls hl => ?_)
                  refine lv_goto (tgt := 24) hx hb dX10_gives_119 (by decide) ?_
                  exact ih24_31 f_26 f_27 f_28 f_29 n_40 hL24_31_0 (by omega) hL24_31_2 (fun h v hv => by
                    by_cases q9 : (v : Int) < l_30.toInt
                    · exact hL24_31_3 (h) v q9
                    · have e9 : v = l_30.toNatClampNeg := by rw [i_ix (rfl : l_30.toInt = l_30.toInt)]; omega
                      intro z
                      rw [e9, pkB_of (by omega)] at z
                      have z1 := of_decide_eq_true z.1
                      rcases p_38 with y | y
                      · omega
                      · exact absurd z1 y.2) (by omega) _ _ _ hP hD hS (lv_sub hl [0, 1, 2, 3, 4] rfl)
                · have gc_39 : r_36.toInt ≠ 0 := i_ne (rfl : r_36.toInt = r_36.toInt) (by decide : (0 : Int32).toInt = 0) c_39
                  skip
                  refine lv_aload_n hx hb dX10_gives_46 rfl (lv_at hl 3 rfl) ?_
                  refine gt_MD_MD_room hx hb hts hown hK hP lwd_183 dX10_gives_47 ?_
                  refine lv_iload hx hb dX10_gives_50 (lv_at hl 0 rfl) ?_
                  refine al_m_room hx hb hK hP (i_in (rfl : l_30.toInt = l_30.toInt) (by omega) (by omega)) dX10_gives_52 (fun n_41 en_41 => ?_)
                  refine lv_aload_n hx hb dX10_gives_53 rfl (lv_at hl 3 rfl) ?_
                  refine gt_MD_MD_packPounds hx hb hts hown hK hP lwd_181 dX10_gives_54 ?_
                  refine lv_iload_n hx hb dX10_gives_57 rfl (lv_at hl 1 rfl) ?_
                  refine al_m_packPounds hx hb hK hP hr_m_packPounds (i_in (rfl : l_17.toInt = l_17.toInt) (by omega) (by omega)) dX10_gives_58 (fun n_42 en_42 bn_42 => ?_)
                  refine lv_icmp_lt (tgt := 116) hx hb dX10_gives_59 (by decide) (fun c_43 => ?_) (fun c_43 => ?_)
                  · have gc_43 : n_41.toInt < n_42.toInt := i_lt (rfl : n_41.toInt = n_41.toInt) (rfl : n_42.toInt = n_42.toInt) c_43
                    skip
                    obtain ⟨n_44, en_44⟩ : ∃ y : Int32, y = l_30 + 1 := ⟨_, rfl⟩
                    have tn_44 : n_44.toInt = l_30.toInt + 1 := i_add en_44 (rfl : l_30.toInt = l_30.toInt) (by decide : (1 : Int32).toInt = 1) (by omega) (by omega)
                    refine lv_iinc (v := n_44) (lv' := [(4, .int n_44), (3, .int l_17), (2, .int r_3), (0, .ref (hm 0)), (1, .int q)]) hx hb dX10_gives_116 hl (k := 0) rfl (by rw [en_44]; rfl) (by decide) rfl (fun ls hl => ?_)
                    refine lv_goto (tgt := 24) hx hb dX10_gives_119 (by decide) ?_
                    exact ih24_31 f_26 f_27 f_28 f_29 n_44 hL24_31_0 (by omega) hL24_31_2 (fun h v hv => by
                      by_cases q9 : (v : Int) < l_30.toInt
                      · exact hL24_31_3 (h) v q9
                      · have e9 : v = l_30.toNatClampNeg := by rw [i_ix (rfl : l_30.toInt = l_30.toInt)]; omega
                        intro z
                        have z1 := z.2.1
                        rw [e9, ← en_41, ← en_42] at z1
                        omega) (by omega) _ _ _ hP hD hS (lv_sub hl [0, 1, 2, 3, 4] rfl)
                  · have gc_43 : n_42.toInt ≤ n_41.toInt := i_nlt (rfl : n_41.toInt = n_41.toInt) (rfl : n_42.toInt = n_42.toInt) c_43
                    skip
                    refine lv_aload_n hx hb dX10_gives_62 rfl (lv_at hl 3 rfl) ?_
                    refine gt_MD_MD_room hx hb hts hown hK hP lwd_183 dX10_gives_63 ?_
                    refine lv_iload hx hb dX10_gives_66 (lv_at hl 0 rfl) ?_
                    refine lv_dup2_11 hx hb dX10_gives_68 rfl rfl ?_
                    refine al_m_room hx hb hK hP (i_in (rfl : l_30.toInt = l_30.toInt) (by omega) (by omega)) dX10_gives_69 (fun n_45 en_45 => ?_)
                    obtain rfl : n_41 = n_45 := en_41.trans en_45.symm
                    refine lv_aload_n hx hb dX10_gives_70 rfl (lv_at hl 3 rfl) ?_
                    refine gt_MD_MD_packPounds hx hb hts hown hK hP lwd_181 dX10_gives_71 ?_
                    refine lv_iload_n hx hb dX10_gives_74 rfl (lv_at hl 1 rfl) ?_
                    refine al_m_packPounds hx hb hK hP hr_m_packPounds (i_in (rfl : l_17.toInt = l_17.toInt) (by omega) (by omega)) dX10_gives_75 (fun n_46 en_46 bn_46 => ?_)
                    obtain rfl : n_42 = n_46 := en_42.trans en_46.symm
                    refine lv_isub hx hb dX10_gives_76 ?_
                    have hb_47 := And.intro (i_bot n_41) (i_top n_41)
                    refine lv_topi (fun n_48 en_48 => ?_)
                    have tn_48 : n_48.toInt = n_41.toInt - n_42.toInt := i_sub en_48 (rfl : n_41.toInt = n_41.toInt) (rfl : n_42.toInt = n_42.toInt) (by omega) (by omega)
                    refine as_m_room (x := n_48) hx hb hK hP hD hS (i_in (rfl : l_30.toInt = l_30.toInt) (by omega) (by omega)) dX10_gives_77 (fun f_49 ef_49 H locs hP hD hS => ?_)
                    refine lv_aload_n hx hb dX10_gives_78 rfl (lv_at hl 3 rfl) ?_
                    refine gt_MD_MD_givenTo hx hb hts hown hK hP lwd_184 dX10_gives_79 ?_
                    refine lv_iload_n hx hb dX10_gives_82 rfl (lv_at hl 1 rfl) ?_
                    refine lv_iload hx hb dX10_gives_83 (lv_at hl 0 rfl) ?_
                    refine as_m_givenTo (x := l_30) hx hb hK hP hD hS (i_in (rfl : l_17.toInt = l_17.toInt) (by omega) (by omega)) dX10_gives_85 (fun f_50 ef_50 H locs hP hD hS => ?_)
                    have hlr9 := lessR_of (p := (f_m_packPounds l_17.toNatClampNeg).toInt) ef_49 (by rw [← en_41, ← en_42]; omega)
                    have hlf9 : leftN f_50 v_packed.toNatClampNeg = dif (leftN f_27 v_packed.toNatClampNeg) (2 ^ l_17.toNatClampNeg) := by rw [ef_50]; exact leftN_take hx9 hgm9 (by omega)
                    skip
                    refine lv_aload_n hx hb dX10_gives_86 rfl (lv_at hl 3 rfl) ?_
                    refine xi hD hS hA (xV (As := []) (rest := []) hx hb hml hown hts hK hP hD hS hA NT_ok hN hAe hl.1 ⟨Nat.le_refl _, Nat.le_refl _⟩ 0 rfl rfl rfl (c_X10_fits l D cy hm v_taped v_walkers v_loads v_pieces v_changeCosts v_planned v_isMarch v_clauseMany v_place v_end v_bad v_clauses v_codes v_open v_stacked v_isOver v_isBehind v_atW v_atL v_atT v_atH v_atM v_atI v_atQ v_packing v_packed v_goPace v_goMinutes v_spentAt v_ranChanges f_m_tape f_m_knee f_m_weight f_m_isLame f_m_loadWeight f_m_owner f_m_food f_m_miles f_m_slope f_m_clauseLetter f_m_sumFrom f_m_codeFrom f_m_codeTo f_m_code f_m_codeArg f_m_newLetter f_m_newSum f_m_newFrom f_m_newTo f_m_newCode f_m_newArg f_m_stack f_m_worth f_m_isRefused f_m_least f_m_packPounds f_m_packOwner f_49 f_50 f_26 f_29 f_m_plainTime f_m_muleTime f_m_planTo f_m_march f_m_tired f_m_ranMinutes f_m_tiredAhead f_m_isReached f_m_toEnd f_m_upTo f_m_upNext f_m_byChanges f_m_bandPaces H.size (by omega) (by omega) hr_m_packPounds hL24_31_0) (gi_V lwd_765 lwd_766 lwd_767 lwd_5 lwd_768) ⟨rfl, hd_X10_fits⟩ ⟨Nat.le_of_ble_eq_true rfl, Nat.le_of_ble_eq_true rfl⟩ rfl (Nat.le_of_ble_eq_true rfl) dX10_gives_87) (fun r_52 u_51 H locs hw hP hD hS => ?_)
                    obtain ⟨zcanBe_53, zsetPounds_54⟩ := u_51
                    try dsimp only at hw hP hD
                    obtain ⟨p_55, p_56, p_57⟩ := hw
                    refine lv_if_ne (tgt := 116) hx hb dX10_gives_90 (by decide) (fun c_58 => ?_) (fun c_58 => ?_)
                    · have gc_58 : r_52.toInt ≠ 0 := i_ne (rfl : r_52.toInt = r_52.toInt) (by decide : (0 : Int32).toInt = 0) c_58
                      skip
                      obtain ⟨n_59, en_59⟩ : ∃ y : Int32, y = l_30 + 1 := ⟨_, rfl⟩
                      have tn_59 : n_59.toInt = l_30.toInt + 1 := i_add en_59 (rfl : l_30.toInt = l_30.toInt) (by decide : (1 : Int32).toInt = 1) (by omega) (by omega)
                      refine lv_iinc (v := n_59) (lv' := [(4, .int n_59), (3, .int l_17), (2, .int r_3), (0, .ref (hm 0)), (1, .int q)]) hx hb dX10_gives_116 hl (k := 0) rfl (by rw [en_59]; rfl) (by decide) rfl (fun ls hl => ?_)
                      refine lv_goto (tgt := 24) hx hb dX10_gives_119 (by decide) ?_
                      exact ih24_31 zcanBe_53 f_50 f_49 zsetPounds_54 n_59 p_57 (by omega) (p_56.1 (by omega)) (fun h => by
                        rw [ef_50, upd_at] at h
                        omega) (by omega) _ _ _ hP hD hS (lv_sub hl [0, 1, 2, 3, 4] rfl)
                    · have gc_58 : r_52.toInt = 0 := i_eq (rfl : r_52.toInt = r_52.toInt) (by decide : (0 : Int32).toInt = 0) c_58
                      have hno9 : ¬ can (fun i => (f_m_packPounds i).toInt) (lessR (fun i => (f_28 i).toInt) l_30.toNatClampNeg (f_m_packPounds l_17.toNatClampNeg).toInt) (pkB v_packing) v_packed.toNatClampNeg v_walkers.toNatClampNeg (dif (leftN f_27 v_packed.toNatClampNeg) (2 ^ l_17.toNatClampNeg)) := fun z => by
                        rw [← hlr9, ← hlf9] at z
                        have := p_56.2 z
                        omega
                      skip
                      refine lv_aload_n hx hb dX10_gives_93 rfl (lv_at hl 3 rfl) ?_
                      refine gt_MD_MD_givenTo hx hb hts hown hK hP lwd_184 dX10_gives_94 ?_
                      refine lv_iload_n hx hb dX10_gives_97 rfl (lv_at hl 1 rfl) ?_
                      refine lv_iconst (v := (-1)) hx hb dX10_gives_98 (by decide) ?_
                      refine as_m_givenTo (x := (-1)) hx hb hK hP hD hS (i_in (rfl : l_17.toInt = l_17.toInt) (by omega) (by omega)) dX10_gives_99 (fun f_60 ef_60 H locs hP hD hS => ?_)
                      refine lv_aload_n hx hb dX10_gives_100 rfl (lv_at hl 3 rfl) ?_
                      refine gt_MD_MD_room hx hb hts hown hK hP lwd_183 dX10_gives_101 ?_
                      refine lv_iload hx hb dX10_gives_104 (lv_at hl 0 rfl) ?_
                      refine lv_dup2_11 hx hb dX10_gives_106 rfl rfl ?_
                      refine al_m_room hx hb hK hP (i_in (rfl : l_30.toInt = l_30.toInt) (by omega) (by omega)) dX10_gives_107 (fun n_61 en_61 => ?_)
                      have hsn_61 : n_61.toInt = n_48.toInt := by rw [en_61, ef_49, upd_at]
                      have hy9 := en_61
                      rw [ef_49, upd_at] at hy9
                      refine lv_aload_n hx hb dX10_gives_108 rfl (lv_at hl 3 rfl) ?_
                      refine gt_MD_MD_packPounds hx hb hts hown hK hP lwd_181 dX10_gives_109 ?_
                      refine lv_iload_n hx hb dX10_gives_112 rfl (lv_at hl 1 rfl) ?_
                      refine al_m_packPounds hx hb hK hP hr_m_packPounds (i_in (rfl : l_17.toInt = l_17.toInt) (by omega) (by omega)) dX10_gives_113 (fun n_62 en_62 bn_62 => ?_)
                      obtain rfl : n_42 = n_62 := en_42.trans en_62.symm
                      refine lv_iadd hx hb dX10_gives_114 ?_
                      have hb_63 := And.intro (i_bot n_61) (i_top n_61)
                      refine lv_topi (fun n_64 en_64 => ?_)
                      have tn_64 : n_64.toInt = n_61.toInt + n_42.toInt := i_add en_64 (rfl : n_61.toInt = n_61.toInt) (rfl : n_42.toInt = n_42.toInt) (by omega) (by omega)
                      refine as_m_room (x := n_64) hx hb hK hP hD hS (i_in (rfl : l_30.toInt = l_30.toInt) (by omega) (by omega)) dX10_gives_115 (fun f_65 ef_65 H locs hP hD hS => ?_)
                      have hgiv9 : f_60 = f_27 := by
                        funext v
                        by_cases q9 : v = l_17.toNatClampNeg
                        · rw [q9, ef_60, upd_at]; exact (i_same (by rw [hgm9]; decide)).symm
                        · rw [ef_60, upd_off _ _ q9, ef_50, upd_off _ _ q9]
                      have hroom9 : f_65 = f_28 := by
                        funext v
                        by_cases q9 : v = l_30.toNatClampNeg
                        · rw [q9, ef_65, upd_at]; exact i_same (by rw [← en_41]; have := congrArg Int32.toInt hy9; omega)
                        · rw [ef_65, upd_off _ _ q9, ef_49, upd_off _ _ q9]
                      skip
                      obtain ⟨n_66, en_66⟩ : ∃ y : Int32, y = l_30 + 1 := ⟨_, rfl⟩
                      have tn_66 : n_66.toInt = l_30.toInt + 1 := i_add en_66 (rfl : l_30.toInt = l_30.toInt) (by decide : (1 : Int32).toInt = 1) (by omega) (by omega)
                      refine lv_iinc (v := n_66) (lv' := [(4, .int n_66), (3, .int l_17), (2, .int r_3), (0, .ref (hm 0)), (1, .int q)]) hx hb dX10_gives_116 hl (k := 0) rfl (by rw [en_66]; rfl) (by decide) rfl (fun ls hl => ?_)
                      refine lv_goto (tgt := 24) hx hb dX10_gives_119 (by decide) ?_
                      exact ih24_31 zcanBe_53 f_60 f_65 zsetPounds_54 n_66 p_57 (by omega) (by rw [hroom9, hgiv9]; exact hL24_31_2) (fun h v hv => by
                        rw [hroom9, hgiv9]
                        by_cases q9 : (v : Int) < l_30.toInt
                        · exact hL24_31_3 (by rw [hgiv9] at h; exact h) v q9
                        · have e9 : v = l_30.toNatClampNeg := by rw [i_ix (rfl : l_30.toInt = l_30.toInt)]; omega
                          intro z
                          have z2 := z.2.2
                          rw [e9] at z2
                          exact hno9 z2) (by omega) _ _ _ hP hD hS (lv_sub hl [0, 1, 2, 3, 4] rfl)
          have k_67 : (0 : Int32).toInt = 0 := by decide
          exact L24_31 8589934592 f_13 f_14 f_15 f_16 0 hL9_18_0 (by omega) (hL9_18_2 (by omega)) (fun _ v hv => absurd hv (by omega)) (by omega) _ _ _ hP hD hS (lv_sub hl [0, 1, 2, 3, 4] rfl)
  have k_68 : (0 : Int32).toInt = 0 := by decide
  exact L9_18 8589934592 f_m_canBe zgivenTo_5 zroom_4 f_m_setPounds 0 hr_m_canBe (by omega) (fun _ => by
    have h8 := p_7 (by omega)
    rw [leftN_cg _ (fun x hx => h8.2 x (by rw [i_ix (rfl : v_packed.toInt = v_packed.toInt)] at hx; omega))]
    exact can_congr2 (fun v hv hp => (h8.1 v (by rw [i_ix (rfl : v_walkers.toInt = v_walkers.toInt)] at hv; omega) hp).1.symm) hcan) (by omega) _ _ _ hP hD hS (lv_sub hl [0, 1, 2, 3] rfl)
set_option maxHeartbeats 16000000 in
set_option maxRecDepth 100000 in
theorem c_X10_whole (l : Launch) (D : va_G) (cy : Nat → ClassId) (hm : Nat → Nat) (v_taped v_walkers v_loads v_pieces v_changeCosts v_planned v_isMarch v_clauseMany v_place v_end v_bad v_clauses v_codes v_open v_stacked v_isOver v_isBehind v_atW v_atL v_atT v_atH v_atM v_atI v_atQ v_packing v_packed v_goPace v_goMinutes v_spentAt v_ranChanges : Int32) (f_m_tape f_m_knee f_m_weight f_m_isLame f_m_loadWeight f_m_owner f_m_food f_m_miles f_m_slope f_m_clauseLetter f_m_sumFrom f_m_codeFrom f_m_codeTo f_m_code f_m_codeArg f_m_newLetter f_m_newSum f_m_newFrom f_m_newTo f_m_newCode f_m_newArg f_m_stack f_m_worth f_m_isRefused f_m_least f_m_packPounds f_m_packOwner f_m_room f_m_givenTo f_m_canBe f_m_setPounds f_m_plainTime f_m_muleTime f_m_planTo f_m_march f_m_tired f_m_ranMinutes f_m_tiredAhead f_m_isReached f_m_toEnd f_m_upTo f_m_upNext f_m_byChanges f_m_bandPaces : Nat → Int32) (sz : Nat) (i : Int32) (all : Int32) (x : Int32) (hb_v_walkers : 0 ≤ v_walkers.toInt ∧ v_walkers.toInt ≤ 6) (hb_v_loads : 0 ≤ v_loads.toInt ∧ v_loads.toInt ≤ 9) (hb_v_pieces : 0 ≤ v_pieces.toInt ∧ v_pieces.toInt ≤ 10) (hb_v_clauseMany : 0 ≤ v_clauseMany.toInt ∧ v_clauseMany.toInt ≤ 14) (hb_v_atW : 0 ≤ v_atW.toInt ∧ v_atW.toInt ≤ 5) (hb_v_packed : 0 ≤ v_packed.toInt ∧ v_packed.toInt ≤ 10) (hr_m_weight : rg (0) 250 f_m_weight) (hr_m_isLame : rg (0) 1 f_m_isLame) (hr_m_loadWeight : rg (0) 120 f_m_loadWeight) (hr_m_owner : rg (-1) 5 f_m_owner) (hr_m_food : rg (0) 20 f_m_food) (hr_m_miles : rg (0) 20 f_m_miles) (hr_m_isRefused : rg (0) 1 f_m_isRefused) (hr_m_packPounds : rg (0) 250 f_m_packPounds) (hr_m_packOwner : rg (-1) 5 f_m_packOwner) (hr_m_canBe : rg (0) 1 f_m_canBe) (hwf : wfC v_clauseMany f_m_sumFrom f_m_codeFrom f_m_codeTo f_m_code) : gMi l yX10_whole cX10_whole 5 .int 8 [.ref (hm 0), .int i, .int all, .int x] D cy (wMD cy hm v_taped v_walkers v_loads v_pieces v_changeCosts v_planned v_isMarch v_clauseMany v_place v_end v_bad v_clauses v_codes v_open v_stacked v_isOver v_isBehind v_atW v_atL v_atT v_atH v_atM v_atI v_atQ v_packing v_packed v_goPace v_goMinutes v_spentAt v_ranChanges f_m_tape f_m_knee f_m_weight f_m_isLame f_m_loadWeight f_m_owner f_m_food f_m_miles f_m_slope f_m_clauseLetter f_m_sumFrom f_m_codeFrom f_m_codeTo f_m_code f_m_codeArg f_m_newLetter f_m_newSum f_m_newFrom f_m_newTo f_m_newCode f_m_newArg f_m_stack f_m_worth f_m_isRefused f_m_least f_m_packPounds f_m_packOwner f_m_room f_m_givenTo f_m_canBe f_m_setPounds f_m_plainTime f_m_muleTime f_m_planTo f_m_march f_m_tired f_m_ranMinutes f_m_tiredAhead f_m_isReached f_m_toEnd f_m_upTo f_m_upNext f_m_byChanges f_m_bandPaces) NT sz (fun (r : Int32) (u : Int32 × Int32 × Int32 × Int32 × Int32 × Int32 × Int32 × Int32 × Int32 × (Nat → Int32) × (Nat → Int32) × (Nat → Int32) × (Nat → Int32) × (Nat → Int32) × (Nat → Int32) × (Nat → Int32) × (Nat → Int32) × (Nat → Int32)) => (0 ≤ (u.1).toInt ∧ (u.1).toInt ≤ 5) ∧ (0 ≤ (u.2.2.2.2.2.2.2.2.1).toInt ∧ (u.2.2.2.2.2.2.2.2.1).toInt ≤ 10) ∧ (rg (0) 1 (u.2.2.2.2.2.2.2.2.2.2.1)) ∧ (rg (0) 250 (u.2.2.2.2.2.2.2.2.2.2.2.2.1)) ∧ (rg (-1) 5 (u.2.2.2.2.2.2.2.2.2.2.2.2.2.1)) ∧ (rg (0) 1 (u.2.2.2.2.2.2.2.2.2.2.2.2.2.2.2.2.1))) (fun u => wMD cy hm v_taped v_walkers v_loads v_pieces v_changeCosts v_planned v_isMarch v_clauseMany v_place v_end v_bad v_clauses v_codes v_open v_stacked v_isOver v_isBehind (u.1) (u.2.1) (u.2.2.1) (u.2.2.2.1) (u.2.2.2.2.1) (u.2.2.2.2.2.1) (u.2.2.2.2.2.2.1) (u.2.2.2.2.2.2.2.1) (u.2.2.2.2.2.2.2.2.1) v_goPace v_goMinutes v_spentAt v_ranChanges f_m_tape f_m_knee f_m_weight f_m_isLame f_m_loadWeight f_m_owner f_m_food f_m_miles f_m_slope f_m_clauseLetter f_m_sumFrom f_m_codeFrom f_m_codeTo f_m_code f_m_codeArg f_m_newLetter f_m_newSum f_m_newFrom f_m_newTo f_m_newCode f_m_newArg f_m_stack (u.2.2.2.2.2.2.2.2.2.1) (u.2.2.2.2.2.2.2.2.2.2.1) (u.2.2.2.2.2.2.2.2.2.2.2.1) (u.2.2.2.2.2.2.2.2.2.2.2.2.1) (u.2.2.2.2.2.2.2.2.2.2.2.2.2.1) (u.2.2.2.2.2.2.2.2.2.2.2.2.2.2.1) (u.2.2.2.2.2.2.2.2.2.2.2.2.2.2.2.1) (u.2.2.2.2.2.2.2.2.2.2.2.2.2.2.2.2.1) (u.2.2.2.2.2.2.2.2.2.2.2.2.2.2.2.2.2) f_m_plainTime f_m_muleTime f_m_planTo f_m_march f_m_tired f_m_ranMinutes f_m_tiredAhead f_m_isReached f_m_toEnd f_m_upTo f_m_upNext f_m_byChanges f_m_bandPaces) := by
  refine gMi_in (by decide) (Nat.le_of_ble_eq_true rfl) ?_
  intro p e s m args below meth c A ls Q hx hb hml hts hown hsz hP hK hD hN hAe hA hS hl hret
  subst hsz
  have hl : lv_has ls 5 [(0, .ref (hm 0)), (1, .int i), (2, .int all), (3, .int x)] := hl
  have hrt := fun (r : Int32) (v_atW' : Int32) (v_atL' : Int32) (v_atT' : Int32) (v_atH' : Int32) (v_atM' : Int32) (v_atI' : Int32) (v_atQ' : Int32) (v_packing' : Int32) (v_packed' : Int32) (f_m_worth' : Nat → Int32) (f_m_isRefused' : Nat → Int32) (f_m_least' : Nat → Int32) (f_m_packPounds' : Nat → Int32) (f_m_packOwner' : Nat → Int32) (f_m_room' : Nat → Int32) (f_m_givenTo' : Nat → Int32) (f_m_canBe' : Nat → Int32) (f_m_setPounds' : Nat → Int32) (hp : (0 ≤ v_atW'.toInt ∧ v_atW'.toInt ≤ 5) ∧ (0 ≤ v_packed'.toInt ∧ v_packed'.toInt ≤ 10) ∧ (rg (0) 1 f_m_isRefused') ∧ (rg (0) 250 f_m_packPounds') ∧ (rg (-1) 5 f_m_packOwner') ∧ (rg (0) 1 f_m_canBe')) {H : Heap} {locs : List Loc} {pc : Nat} {ls : Array Slot} => hret r (v_atW', v_atL', v_atT', v_atH', v_atM', v_atI', v_atQ', v_packing', v_packed', f_m_worth', f_m_isRefused', f_m_least', f_m_packPounds', f_m_packOwner', f_m_room', f_m_givenTo', f_m_canBe', f_m_setPounds') (H := H) (locs := locs) (pc := pc) (ls := ls) hp
  clear hret
  refine lv_aload_n hx hb dX10_whole_0 rfl (lv_at hl 0 rfl) ?_
  refine lv_iload_n hx hb dX10_whole_1 rfl (lv_at hl 1 rfl) ?_
  refine lv_iload_n hx hb dX10_whole_2 rfl (lv_at hl 2 rfl) ?_
  refine xi hD hS hA (xV (As := [.int i, .int all]) (rest := []) hx hb hml hown hts hK hP hD hS hA NT_ok hN hAe hl.1 ⟨Nat.le_refl _, Nat.le_refl _⟩ 0 rfl rfl rfl (c_X10_canAsk l D cy hm v_taped v_walkers v_loads v_pieces v_changeCosts v_planned v_isMarch v_clauseMany v_place v_end v_bad v_clauses v_codes v_open v_stacked v_isOver v_isBehind v_atW v_atL v_atT v_atH v_atM v_atI v_atQ v_packing v_packed v_goPace v_goMinutes v_spentAt v_ranChanges f_m_tape f_m_knee f_m_weight f_m_isLame f_m_loadWeight f_m_owner f_m_food f_m_miles f_m_slope f_m_clauseLetter f_m_sumFrom f_m_codeFrom f_m_codeTo f_m_code f_m_codeArg f_m_newLetter f_m_newSum f_m_newFrom f_m_newTo f_m_newCode f_m_newArg f_m_stack f_m_worth f_m_isRefused f_m_least f_m_packPounds f_m_packOwner f_m_room f_m_givenTo f_m_canBe f_m_setPounds f_m_plainTime f_m_muleTime f_m_planTo f_m_march f_m_tired f_m_ranMinutes f_m_tiredAhead f_m_isReached f_m_toEnd f_m_upTo f_m_upNext f_m_byChanges f_m_bandPaces s.heap.size i all (by omega) (by omega)) (gi_V lwd_645 lwd_646 lwd_647 lwd_5 lwd_648) ⟨rfl, hd_X10_canAsk⟩ ⟨Nat.le_of_ble_eq_true rfl, Nat.le_of_ble_eq_true rfl⟩ rfl (Nat.le_of_ble_eq_true rfl) dX10_whole_3) (fun r_2 u_1 H locs hw hP hD hS => ?_)
  try dsimp only at hw hP hD
  obtain ⟨p_3, p_4⟩ := hw
  refine lv_if_eq (tgt := 28) hx hb dX10_whole_6 (by decide) (fun c_5 => ?_) (fun c_5 => ?_)
  · have gc_5 : r_2.toInt = 0 := i_eq (rfl : r_2.toInt = r_2.toInt) (by decide : (0 : Int32).toInt = 0) c_5
    refine lv_bipush (v := (-3)) hx hb dX10_whole_28 (by decide) ?_
    have k_6 : ((-3) : Int32).toInt = (-3) := by decide
    exact hrt (-3) v_atW v_atL v_atT v_atH v_atM v_atI v_atQ v_packing v_packed f_m_worth f_m_isRefused f_m_least f_m_packPounds f_m_packOwner f_m_room f_m_givenTo f_m_canBe f_m_setPounds ⟨(by omega), (by omega), hr_m_isRefused, hr_m_packPounds, hr_m_packOwner, hr_m_canBe⟩ hP hD hS rfl dX10_whole_30
  · have gc_5 : r_2.toInt ≠ 0 := i_ne (rfl : r_2.toInt = r_2.toInt) (by decide : (0 : Int32).toInt = 0) c_5
    refine lv_iload_n hx hb dX10_whole_9 rfl (lv_at hl 3 rfl) ?_
    refine lv_iconst (v := (-1)) hx hb dX10_whole_10 (by decide) ?_
    refine lv_icmp_eq (tgt := 31) hx hb dX10_whole_11 (by decide) (fun c_7 => ?_) (fun c_7 => ?_)
    · have gc_7 : x.toInt = (-1) := i_eq (rfl : x.toInt = x.toInt) (by decide : ((-1) : Int32).toInt = (-1)) c_7
      refine lv_aload_n hx hb dX10_whole_31 rfl (lv_at hl 0 rfl) ?_
      refine lv_iload_n hx hb dX10_whole_32 rfl (lv_at hl 1 rfl) ?_
      refine lv_iload_n hx hb dX10_whole_33 rfl (lv_at hl 2 rfl) ?_
      refine xv hD hS hA (xV (As := [.int i, .int all]) (rest := []) hx hb hml hown hts hK hP hD hS hA NT_ok hN hAe hl.1 ⟨Nat.le_refl _, Nat.le_refl _⟩ 0 rfl rfl rfl (c_X10_lays l D cy hm v_taped v_walkers v_loads v_pieces v_changeCosts v_planned v_isMarch v_clauseMany v_place v_end v_bad v_clauses v_codes v_open v_stacked v_isOver v_isBehind v_atW v_atL v_atT v_atH v_atM v_atI v_atQ v_packing v_packed v_goPace v_goMinutes v_spentAt v_ranChanges f_m_tape f_m_knee f_m_weight f_m_isLame f_m_loadWeight f_m_owner f_m_food f_m_miles f_m_slope f_m_clauseLetter f_m_sumFrom f_m_codeFrom f_m_codeTo f_m_code f_m_codeArg f_m_newLetter f_m_newSum f_m_newFrom f_m_newTo f_m_newCode f_m_newArg f_m_stack f_m_worth f_m_isRefused f_m_least f_m_packPounds f_m_packOwner f_m_room f_m_givenTo f_m_canBe f_m_setPounds f_m_plainTime f_m_muleTime f_m_planTo f_m_march f_m_tired f_m_ranMinutes f_m_tiredAhead f_m_isReached f_m_toEnd f_m_upTo f_m_upNext f_m_byChanges f_m_bandPaces H.size i all (by omega) (by omega) (by omega) hr_m_weight hr_m_isLame hr_m_miles hr_m_isRefused (by omega) (by omega) hwf) (gi_V lwd_653 lwd_654 lwd_655 lwd_5 lwd_656) ⟨rfl, hd_X10_lays⟩ ⟨Nat.le_of_ble_eq_true rfl, Nat.le_of_ble_eq_true rfl⟩ rfl (Nat.le_of_ble_eq_true rfl) dX10_whole_34) (fun u_8 H locs hw hP hD hS => ?_)
      obtain ⟨zatW_10, zatL_11, zatT_12, zatH_13, zatM_14, zatI_15, zatQ_16, zworth_17, zisRefused_18, zleast_19⟩ := u_8
      try dsimp only at hw hP hD
      obtain ⟨p_20, p_21⟩ := hw
      refine lv_aload_n hx hb dX10_whole_37 rfl (lv_at hl 0 rfl) ?_
      refine lv_iload_n hx hb dX10_whole_38 rfl (lv_at hl 1 rfl) ?_
      refine lv_aload_n hx hb dX10_whole_39 rfl (lv_at hl 0 rfl) ?_
      refine xi hD hS hA (xV (As := []) (rest := [.int i, .ref (hm 0)]) hx hb hml hown hts hK hP hD hS hA NT_ok hN hAe hl.1 ⟨Nat.le_refl _, Nat.le_refl _⟩ 0 rfl rfl rfl (c_X10_everybody l D cy hm v_taped v_walkers v_loads v_pieces v_changeCosts v_planned v_isMarch v_clauseMany v_place v_end v_bad v_clauses v_codes v_open v_stacked v_isOver v_isBehind zatW_10 zatL_11 zatT_12 zatH_13 zatM_14 zatI_15 zatQ_16 v_packing v_packed v_goPace v_goMinutes v_spentAt v_ranChanges f_m_tape f_m_knee f_m_weight f_m_isLame f_m_loadWeight f_m_owner f_m_food f_m_miles f_m_slope f_m_clauseLetter f_m_sumFrom f_m_codeFrom f_m_codeTo f_m_code f_m_codeArg f_m_newLetter f_m_newSum f_m_newFrom f_m_newTo f_m_newCode f_m_newArg f_m_stack zworth_17 zisRefused_18 zleast_19 f_m_packPounds f_m_packOwner f_m_room f_m_givenTo f_m_canBe f_m_setPounds f_m_plainTime f_m_muleTime f_m_planTo f_m_march f_m_tired f_m_ranMinutes f_m_tiredAhead f_m_isReached f_m_toEnd f_m_upTo f_m_upNext f_m_byChanges f_m_bandPaces H.size (by omega)) (gi_V lwd_736 lwd_737 lwd_738 lwd_5 lwd_739) ⟨rfl, hd_X10_everybody⟩ ⟨Nat.le_of_ble_eq_true rfl, Nat.le_of_ble_eq_true rfl⟩ rfl (Nat.le_of_ble_eq_true rfl) dX10_whole_40) (fun r_23 u_22 H locs hw hP hD hS => ?_)
      try dsimp only at hw hP hD
      clear hw
      refine lv_iconst (v := 1) hx hb dX10_whole_43 (by decide) ?_
      have k_24 : (1 : Int32).toInt = 1 := by decide
      refine xv hD hS hA (xV (As := [.int i, .int r_23, .int 1]) (rest := []) hx hb hml hown hts hK hP hD hS hA NT_ok hN hAe hl.1 ⟨Nat.le_refl _, Nat.le_refl _⟩ 0 rfl rfl rfl (c_X10_packs l D cy hm v_taped v_walkers v_loads v_pieces v_changeCosts v_planned v_isMarch v_clauseMany v_place v_end v_bad v_clauses v_codes v_open v_stacked v_isOver v_isBehind zatW_10 zatL_11 zatT_12 zatH_13 zatM_14 zatI_15 zatQ_16 v_packing v_packed v_goPace v_goMinutes v_spentAt v_ranChanges f_m_tape f_m_knee f_m_weight f_m_isLame f_m_loadWeight f_m_owner f_m_food f_m_miles f_m_slope f_m_clauseLetter f_m_sumFrom f_m_codeFrom f_m_codeTo f_m_code f_m_codeArg f_m_newLetter f_m_newSum f_m_newFrom f_m_newTo f_m_newCode f_m_newArg f_m_stack zworth_17 zisRefused_18 zleast_19 f_m_packPounds f_m_packOwner f_m_room f_m_givenTo f_m_canBe f_m_setPounds f_m_plainTime f_m_muleTime f_m_planTo f_m_march f_m_tired f_m_ranMinutes f_m_tiredAhead f_m_isReached f_m_toEnd f_m_upTo f_m_upNext f_m_byChanges f_m_bandPaces H.size i r_23 1 (by omega) (by omega) hr_m_loadWeight hr_m_owner hr_m_food hr_m_packPounds hr_m_packOwner (by omega) (by omega)) (gi_V lwd_740 lwd_741 lwd_742 lwd_5 lwd_743) ⟨rfl, hd_X10_packs⟩ ⟨Nat.le_of_ble_eq_true rfl, Nat.le_of_ble_eq_true rfl⟩ rfl (Nat.le_of_ble_eq_true rfl) dX10_whole_44) (fun u_25 H locs hw hP hD hS => ?_)
      obtain ⟨zpacking_27, zpacked_28, zpackPounds_29, zpackOwner_30⟩ := u_25
      try dsimp only at hw hP hD
      obtain ⟨p_31, p_32, p_33, p_34⟩ := hw
      refine lv_aload_n hx hb dX10_whole_47 rfl (lv_at hl 0 rfl) ?_
      refine lv_iconst (v := (-1)) hx hb dX10_whole_48 (by decide) ?_
      have k_35 : ((-1) : Int32).toInt = (-1) := by decide
      refine xi hD hS hA (xV (As := [.int (-1)]) (rest := []) hx hb hml hown hts hK hP hD hS hA NT_ok hN hAe hl.1 ⟨Nat.le_refl _, Nat.le_refl _⟩ 0 rfl rfl rfl (c_X10_wholePace l D cy hm v_taped v_walkers v_loads v_pieces v_changeCosts v_planned v_isMarch v_clauseMany v_place v_end v_bad v_clauses v_codes v_open v_stacked v_isOver v_isBehind zatW_10 zatL_11 zatT_12 zatH_13 zatM_14 zatI_15 zatQ_16 zpacking_27 zpacked_28 v_goPace v_goMinutes v_spentAt v_ranChanges f_m_tape f_m_knee f_m_weight f_m_isLame f_m_loadWeight f_m_owner f_m_food f_m_miles f_m_slope f_m_clauseLetter f_m_sumFrom f_m_codeFrom f_m_codeTo f_m_code f_m_codeArg f_m_newLetter f_m_newSum f_m_newFrom f_m_newTo f_m_newCode f_m_newArg f_m_stack zworth_17 zisRefused_18 zleast_19 zpackPounds_29 zpackOwner_30 f_m_room f_m_givenTo f_m_canBe f_m_setPounds f_m_plainTime f_m_muleTime f_m_planTo f_m_march f_m_tired f_m_ranMinutes f_m_tiredAhead f_m_isReached f_m_toEnd f_m_upTo f_m_upNext f_m_byChanges f_m_bandPaces H.size (-1) (by omega) (by omega) p_33 p_34 hr_m_canBe) (gi_V lwd_753 lwd_754 lwd_755 lwd_5 lwd_756) ⟨rfl, hd_X10_wholePace⟩ ⟨Nat.le_of_ble_eq_true rfl, Nat.le_of_ble_eq_true rfl⟩ rfl (Nat.le_of_ble_eq_true rfl) dX10_whole_49) (fun r_37 u_36 H locs hw hP hD hS => ?_)
      obtain ⟨zroom_38, zgivenTo_39, zcanBe_40, zsetPounds_41⟩ := u_36
      try dsimp only at hw hP hD
      obtain ⟨p_42, p_43, p_44⟩ := hw
      refine lv_istore (lv' := [(4, .int r_37), (0, .ref (hm 0)), (1, .int i), (2, .int all), (3, .int x)]) hx hb dX10_whole_52 hl (by decide) rfl (fun ls hl => ?_)
      refine lv_iload_n hx hb dX10_whole_54 rfl (lv_at hl 4 rfl) ?_
      refine lv_iconst (v := (-1)) hx hb dX10_whole_55 (by decide) ?_
      refine lv_icmp_ne (tgt := 62) hx hb dX10_whole_56 (by decide) (fun c_45 => ?_) (fun c_45 => ?_)
      · have gc_45 : x.toInt ≠ (-1) := i_ne (rfl : x.toInt = x.toInt) (by decide : ((-1) : Int32).toInt = (-1)) c_45
        exact absurd gc_45 (by omega)
      · have gc_45 : x.toInt = (-1) := i_eq (rfl : x.toInt = x.toInt) (by decide : ((-1) : Int32).toInt = (-1)) c_45
        refine lv_iload hx hb dX10_whole_59 (lv_at hl 0 rfl) ?_
        exact hrt r_37 zatW_10 zatL_11 zatT_12 zatH_13 zatM_14 zatI_15 zatQ_16 zpacking_27 zpacked_28 zworth_17 zisRefused_18 zleast_19 zpackPounds_29 zpackOwner_30 zroom_38 zgivenTo_39 zcanBe_40 zsetPounds_41 ⟨(by omega), (by omega), p_21, p_33, p_34, p_44⟩ hP hD hS rfl dX10_whole_61
    · have gc_7 : x.toInt ≠ (-1) := i_ne (rfl : x.toInt = x.toInt) (by decide : ((-1) : Int32).toInt = (-1)) c_7
      refine lv_iload_n hx hb dX10_whole_14 rfl (lv_at hl 3 rfl) ?_
      refine lv_bipush (v := 9) hx hb dX10_whole_15 (by decide) ?_
      refine lv_icmp_eq (tgt := 31) hx hb dX10_whole_17 (by decide) (fun c_46 => ?_) (fun c_46 => ?_)
      · have gc_46 : x.toInt = 9 := i_eq (rfl : x.toInt = x.toInt) (by decide : (9 : Int32).toInt = 9) c_46
        refine lv_aload_n hx hb dX10_whole_31 rfl (lv_at hl 0 rfl) ?_
        refine lv_iload_n hx hb dX10_whole_32 rfl (lv_at hl 1 rfl) ?_
        refine lv_iload_n hx hb dX10_whole_33 rfl (lv_at hl 2 rfl) ?_
        refine xv hD hS hA (xV (As := [.int i, .int all]) (rest := []) hx hb hml hown hts hK hP hD hS hA NT_ok hN hAe hl.1 ⟨Nat.le_refl _, Nat.le_refl _⟩ 0 rfl rfl rfl (c_X10_lays l D cy hm v_taped v_walkers v_loads v_pieces v_changeCosts v_planned v_isMarch v_clauseMany v_place v_end v_bad v_clauses v_codes v_open v_stacked v_isOver v_isBehind v_atW v_atL v_atT v_atH v_atM v_atI v_atQ v_packing v_packed v_goPace v_goMinutes v_spentAt v_ranChanges f_m_tape f_m_knee f_m_weight f_m_isLame f_m_loadWeight f_m_owner f_m_food f_m_miles f_m_slope f_m_clauseLetter f_m_sumFrom f_m_codeFrom f_m_codeTo f_m_code f_m_codeArg f_m_newLetter f_m_newSum f_m_newFrom f_m_newTo f_m_newCode f_m_newArg f_m_stack f_m_worth f_m_isRefused f_m_least f_m_packPounds f_m_packOwner f_m_room f_m_givenTo f_m_canBe f_m_setPounds f_m_plainTime f_m_muleTime f_m_planTo f_m_march f_m_tired f_m_ranMinutes f_m_tiredAhead f_m_isReached f_m_toEnd f_m_upTo f_m_upNext f_m_byChanges f_m_bandPaces H.size i all (by omega) (by omega) (by omega) hr_m_weight hr_m_isLame hr_m_miles hr_m_isRefused (by omega) (by omega) hwf) (gi_V lwd_653 lwd_654 lwd_655 lwd_5 lwd_656) ⟨rfl, hd_X10_lays⟩ ⟨Nat.le_of_ble_eq_true rfl, Nat.le_of_ble_eq_true rfl⟩ rfl (Nat.le_of_ble_eq_true rfl) dX10_whole_34) (fun u_47 H locs hw hP hD hS => ?_)
        obtain ⟨zatW_49, zatL_50, zatT_51, zatH_52, zatM_53, zatI_54, zatQ_55, zworth_56, zisRefused_57, zleast_58⟩ := u_47
        try dsimp only at hw hP hD
        obtain ⟨p_59, p_60⟩ := hw
        refine lv_aload_n hx hb dX10_whole_37 rfl (lv_at hl 0 rfl) ?_
        refine lv_iload_n hx hb dX10_whole_38 rfl (lv_at hl 1 rfl) ?_
        refine lv_aload_n hx hb dX10_whole_39 rfl (lv_at hl 0 rfl) ?_
        refine xi hD hS hA (xV (As := []) (rest := [.int i, .ref (hm 0)]) hx hb hml hown hts hK hP hD hS hA NT_ok hN hAe hl.1 ⟨Nat.le_refl _, Nat.le_refl _⟩ 0 rfl rfl rfl (c_X10_everybody l D cy hm v_taped v_walkers v_loads v_pieces v_changeCosts v_planned v_isMarch v_clauseMany v_place v_end v_bad v_clauses v_codes v_open v_stacked v_isOver v_isBehind zatW_49 zatL_50 zatT_51 zatH_52 zatM_53 zatI_54 zatQ_55 v_packing v_packed v_goPace v_goMinutes v_spentAt v_ranChanges f_m_tape f_m_knee f_m_weight f_m_isLame f_m_loadWeight f_m_owner f_m_food f_m_miles f_m_slope f_m_clauseLetter f_m_sumFrom f_m_codeFrom f_m_codeTo f_m_code f_m_codeArg f_m_newLetter f_m_newSum f_m_newFrom f_m_newTo f_m_newCode f_m_newArg f_m_stack zworth_56 zisRefused_57 zleast_58 f_m_packPounds f_m_packOwner f_m_room f_m_givenTo f_m_canBe f_m_setPounds f_m_plainTime f_m_muleTime f_m_planTo f_m_march f_m_tired f_m_ranMinutes f_m_tiredAhead f_m_isReached f_m_toEnd f_m_upTo f_m_upNext f_m_byChanges f_m_bandPaces H.size (by omega)) (gi_V lwd_736 lwd_737 lwd_738 lwd_5 lwd_739) ⟨rfl, hd_X10_everybody⟩ ⟨Nat.le_of_ble_eq_true rfl, Nat.le_of_ble_eq_true rfl⟩ rfl (Nat.le_of_ble_eq_true rfl) dX10_whole_40) (fun r_62 u_61 H locs hw hP hD hS => ?_)
        try dsimp only at hw hP hD
        clear hw
        refine lv_iconst (v := 1) hx hb dX10_whole_43 (by decide) ?_
        have k_63 : (1 : Int32).toInt = 1 := by decide
        refine xv hD hS hA (xV (As := [.int i, .int r_62, .int 1]) (rest := []) hx hb hml hown hts hK hP hD hS hA NT_ok hN hAe hl.1 ⟨Nat.le_refl _, Nat.le_refl _⟩ 0 rfl rfl rfl (c_X10_packs l D cy hm v_taped v_walkers v_loads v_pieces v_changeCosts v_planned v_isMarch v_clauseMany v_place v_end v_bad v_clauses v_codes v_open v_stacked v_isOver v_isBehind zatW_49 zatL_50 zatT_51 zatH_52 zatM_53 zatI_54 zatQ_55 v_packing v_packed v_goPace v_goMinutes v_spentAt v_ranChanges f_m_tape f_m_knee f_m_weight f_m_isLame f_m_loadWeight f_m_owner f_m_food f_m_miles f_m_slope f_m_clauseLetter f_m_sumFrom f_m_codeFrom f_m_codeTo f_m_code f_m_codeArg f_m_newLetter f_m_newSum f_m_newFrom f_m_newTo f_m_newCode f_m_newArg f_m_stack zworth_56 zisRefused_57 zleast_58 f_m_packPounds f_m_packOwner f_m_room f_m_givenTo f_m_canBe f_m_setPounds f_m_plainTime f_m_muleTime f_m_planTo f_m_march f_m_tired f_m_ranMinutes f_m_tiredAhead f_m_isReached f_m_toEnd f_m_upTo f_m_upNext f_m_byChanges f_m_bandPaces H.size i r_62 1 (by omega) (by omega) hr_m_loadWeight hr_m_owner hr_m_food hr_m_packPounds hr_m_packOwner (by omega) (by omega)) (gi_V lwd_740 lwd_741 lwd_742 lwd_5 lwd_743) ⟨rfl, hd_X10_packs⟩ ⟨Nat.le_of_ble_eq_true rfl, Nat.le_of_ble_eq_true rfl⟩ rfl (Nat.le_of_ble_eq_true rfl) dX10_whole_44) (fun u_64 H locs hw hP hD hS => ?_)
        obtain ⟨zpacking_66, zpacked_67, zpackPounds_68, zpackOwner_69⟩ := u_64
        try dsimp only at hw hP hD
        obtain ⟨p_70, p_71, p_72, p_73⟩ := hw
        refine lv_aload_n hx hb dX10_whole_47 rfl (lv_at hl 0 rfl) ?_
        refine lv_iconst (v := (-1)) hx hb dX10_whole_48 (by decide) ?_
        have k_74 : ((-1) : Int32).toInt = (-1) := by decide
        refine xi hD hS hA (xV (As := [.int (-1)]) (rest := []) hx hb hml hown hts hK hP hD hS hA NT_ok hN hAe hl.1 ⟨Nat.le_refl _, Nat.le_refl _⟩ 0 rfl rfl rfl (c_X10_wholePace l D cy hm v_taped v_walkers v_loads v_pieces v_changeCosts v_planned v_isMarch v_clauseMany v_place v_end v_bad v_clauses v_codes v_open v_stacked v_isOver v_isBehind zatW_49 zatL_50 zatT_51 zatH_52 zatM_53 zatI_54 zatQ_55 zpacking_66 zpacked_67 v_goPace v_goMinutes v_spentAt v_ranChanges f_m_tape f_m_knee f_m_weight f_m_isLame f_m_loadWeight f_m_owner f_m_food f_m_miles f_m_slope f_m_clauseLetter f_m_sumFrom f_m_codeFrom f_m_codeTo f_m_code f_m_codeArg f_m_newLetter f_m_newSum f_m_newFrom f_m_newTo f_m_newCode f_m_newArg f_m_stack zworth_56 zisRefused_57 zleast_58 zpackPounds_68 zpackOwner_69 f_m_room f_m_givenTo f_m_canBe f_m_setPounds f_m_plainTime f_m_muleTime f_m_planTo f_m_march f_m_tired f_m_ranMinutes f_m_tiredAhead f_m_isReached f_m_toEnd f_m_upTo f_m_upNext f_m_byChanges f_m_bandPaces H.size (-1) (by omega) (by omega) p_72 p_73 hr_m_canBe) (gi_V lwd_753 lwd_754 lwd_755 lwd_5 lwd_756) ⟨rfl, hd_X10_wholePace⟩ ⟨Nat.le_of_ble_eq_true rfl, Nat.le_of_ble_eq_true rfl⟩ rfl (Nat.le_of_ble_eq_true rfl) dX10_whole_49) (fun r_76 u_75 H locs hw hP hD hS => ?_)
        obtain ⟨zroom_77, zgivenTo_78, zcanBe_79, zsetPounds_80⟩ := u_75
        try dsimp only at hw hP hD
        obtain ⟨p_81, p_82, p_83⟩ := hw
        refine lv_istore (lv' := [(4, .int r_76), (0, .ref (hm 0)), (1, .int i), (2, .int all), (3, .int x)]) hx hb dX10_whole_52 hl (by decide) rfl (fun ls hl => ?_)
        refine lv_iload_n hx hb dX10_whole_54 rfl (lv_at hl 4 rfl) ?_
        refine lv_iconst (v := (-1)) hx hb dX10_whole_55 (by decide) ?_
        refine lv_icmp_ne (tgt := 62) hx hb dX10_whole_56 (by decide) (fun c_84 => ?_) (fun c_84 => ?_)
        · have gc_84 : x.toInt ≠ (-1) := i_ne (rfl : x.toInt = x.toInt) (by decide : ((-1) : Int32).toInt = (-1)) c_84
          refine lv_iload hx hb dX10_whole_62 (lv_at hl 0 rfl) ?_
          refine lv_if_ne (tgt := 70) hx hb dX10_whole_64 (by decide) (fun c_85 => ?_) (fun c_85 => ?_)
          · have gc_85 : r_76.toInt ≠ 0 := i_ne (rfl : r_76.toInt = r_76.toInt) (by decide : (0 : Int32).toInt = 0) c_85
            refine lv_iload_n hx hb dX10_whole_70 rfl (lv_at hl 4 rfl) ?_
            refine lv_bipush (v := 9) hx hb dX10_whole_71 (by decide) ?_
            refine lv_icmp_ne (tgt := 84) hx hb dX10_whole_73 (by decide) (fun c_86 => ?_) (fun c_86 => ?_)
            · have gc_86 : x.toInt ≠ 9 := i_ne (rfl : x.toInt = x.toInt) (by decide : (9 : Int32).toInt = 9) c_86
              exact absurd gc_86 (by omega)
            · have gc_86 : x.toInt = 9 := i_eq (rfl : x.toInt = x.toInt) (by decide : (9 : Int32).toInt = 9) c_86
              refine lv_aload_n hx hb dX10_whole_76 rfl (lv_at hl 1 rfl) ?_
              refine lv_iload_n hx hb dX10_whole_77 rfl (lv_at hl 2 rfl) ?_
              refine lv_iload hx hb dX10_whole_78 (lv_at hl 0 rfl) ?_
              refine xi hD hS hA (xV (As := [.int i, .int r_76]) (rest := []) hx hb hml hown hts hK hP hD hS hA NT_ok hN hAe hl.1 ⟨Nat.le_refl _, Nat.le_refl _⟩ 0 rfl rfl rfl (c_X10_minutesOf l D cy hm v_taped v_walkers v_loads v_pieces v_changeCosts v_planned v_isMarch v_clauseMany v_place v_end v_bad v_clauses v_codes v_open v_stacked v_isOver v_isBehind zatW_49 zatL_50 zatT_51 zatH_52 zatM_53 zatI_54 zatQ_55 zpacking_66 zpacked_67 v_goPace v_goMinutes v_spentAt v_ranChanges f_m_tape f_m_knee f_m_weight f_m_isLame f_m_loadWeight f_m_owner f_m_food f_m_miles f_m_slope f_m_clauseLetter f_m_sumFrom f_m_codeFrom f_m_codeTo f_m_code f_m_codeArg f_m_newLetter f_m_newSum f_m_newFrom f_m_newTo f_m_newCode f_m_newArg f_m_stack zworth_56 zisRefused_57 zleast_58 zpackPounds_68 zpackOwner_69 zroom_77 zgivenTo_78 zcanBe_79 zsetPounds_80 f_m_plainTime f_m_muleTime f_m_planTo f_m_march f_m_tired f_m_ranMinutes f_m_tiredAhead f_m_isReached f_m_toEnd f_m_upTo f_m_upNext f_m_byChanges f_m_bandPaces H.size i r_76 hr_m_miles (by omega) (by omega)) (gi_V lwd_668 lwd_669 lwd_670 lwd_5 lwd_671) ⟨rfl, hd_X10_minutesOf⟩ ⟨Nat.le_of_ble_eq_true rfl, Nat.le_of_ble_eq_true rfl⟩ rfl (Nat.le_of_ble_eq_true rfl) dX10_whole_80) (fun r_88 u_87 H locs hw hP hD hS => ?_)
              try dsimp only at hw hP hD
              have p_89 := hw
              clear hw
              exact hrt r_88 zatW_49 zatL_50 zatT_51 zatH_52 zatM_53 zatI_54 zatQ_55 zpacking_66 zpacked_67 zworth_56 zisRefused_57 zleast_58 zpackPounds_68 zpackOwner_69 zroom_77 zgivenTo_78 zcanBe_79 zsetPounds_80 ⟨(by omega), (by omega), p_60, p_72, p_73, p_83⟩ hP hD hS rfl dX10_whole_83
          · have gc_85 : r_76.toInt = 0 := i_eq (rfl : r_76.toInt = r_76.toInt) (by decide : (0 : Int32).toInt = 0) c_85
            refine lv_bipush (v := (-2)) hx hb dX10_whole_67 (by decide) ?_
            have k_90 : ((-2) : Int32).toInt = (-2) := by decide
            exact hrt (-2) zatW_49 zatL_50 zatT_51 zatH_52 zatM_53 zatI_54 zatQ_55 zpacking_66 zpacked_67 zworth_56 zisRefused_57 zleast_58 zpackPounds_68 zpackOwner_69 zroom_77 zgivenTo_78 zcanBe_79 zsetPounds_80 ⟨(by omega), (by omega), p_60, p_72, p_73, p_83⟩ hP hD hS rfl dX10_whole_69
        · have gc_84 : x.toInt = (-1) := i_eq (rfl : x.toInt = x.toInt) (by decide : ((-1) : Int32).toInt = (-1)) c_84
          exact absurd gc_84 (by omega)
      · have gc_46 : x.toInt ≠ 9 := i_ne (rfl : x.toInt = x.toInt) (by decide : (9 : Int32).toInt = 9) c_46
        refine lv_aload_n hx hb dX10_whole_20 rfl (lv_at hl 0 rfl) ?_
        refine lv_iload_n hx hb dX10_whole_21 rfl (lv_at hl 3 rfl) ?_
        refine xi hD hS hA (xV (As := [.int x]) (rest := []) hx hb hml hown hts hK hP hD hS hA NT_ok hN hAe hl.1 ⟨Nat.le_refl _, Nat.le_refl _⟩ 0 rfl rfl rfl (c_X10_isLoad l D cy hm v_taped v_walkers v_loads v_pieces v_changeCosts v_planned v_isMarch v_clauseMany v_place v_end v_bad v_clauses v_codes v_open v_stacked v_isOver v_isBehind v_atW v_atL v_atT v_atH v_atM v_atI v_atQ v_packing v_packed v_goPace v_goMinutes v_spentAt v_ranChanges f_m_tape f_m_knee f_m_weight f_m_isLame f_m_loadWeight f_m_owner f_m_food f_m_miles f_m_slope f_m_clauseLetter f_m_sumFrom f_m_codeFrom f_m_codeTo f_m_code f_m_codeArg f_m_newLetter f_m_newSum f_m_newFrom f_m_newTo f_m_newCode f_m_newArg f_m_stack f_m_worth f_m_isRefused f_m_least f_m_packPounds f_m_packOwner f_m_room f_m_givenTo f_m_canBe f_m_setPounds f_m_plainTime f_m_muleTime f_m_planTo f_m_march f_m_tired f_m_ranMinutes f_m_tiredAhead f_m_isReached f_m_toEnd f_m_upTo f_m_upNext f_m_byChanges f_m_bandPaces H.size x (by omega)) (gi_V lwd_732 lwd_733 lwd_734 lwd_5 lwd_735) ⟨rfl, hd_X10_isLoad⟩ ⟨Nat.le_of_ble_eq_true rfl, Nat.le_of_ble_eq_true rfl⟩ rfl (Nat.le_of_ble_eq_true rfl) dX10_whole_22) (fun r_92 u_91 H locs hw hP hD hS => ?_)
        try dsimp only at hw hP hD
        obtain ⟨p_93, p_94⟩ := hw
        refine lv_if_ne (tgt := 31) hx hb dX10_whole_25 (by decide) (fun c_95 => ?_) (fun c_95 => ?_)
        · have gc_95 : r_92.toInt ≠ 0 := i_ne (rfl : r_92.toInt = r_92.toInt) (by decide : (0 : Int32).toInt = 0) c_95
          refine lv_aload_n hx hb dX10_whole_31 rfl (lv_at hl 0 rfl) ?_
          refine lv_iload_n hx hb dX10_whole_32 rfl (lv_at hl 1 rfl) ?_
          refine lv_iload_n hx hb dX10_whole_33 rfl (lv_at hl 2 rfl) ?_
          refine xv hD hS hA (xV (As := [.int i, .int all]) (rest := []) hx hb hml hown hts hK hP hD hS hA NT_ok hN hAe hl.1 ⟨Nat.le_refl _, Nat.le_refl _⟩ 0 rfl rfl rfl (c_X10_lays l D cy hm v_taped v_walkers v_loads v_pieces v_changeCosts v_planned v_isMarch v_clauseMany v_place v_end v_bad v_clauses v_codes v_open v_stacked v_isOver v_isBehind v_atW v_atL v_atT v_atH v_atM v_atI v_atQ v_packing v_packed v_goPace v_goMinutes v_spentAt v_ranChanges f_m_tape f_m_knee f_m_weight f_m_isLame f_m_loadWeight f_m_owner f_m_food f_m_miles f_m_slope f_m_clauseLetter f_m_sumFrom f_m_codeFrom f_m_codeTo f_m_code f_m_codeArg f_m_newLetter f_m_newSum f_m_newFrom f_m_newTo f_m_newCode f_m_newArg f_m_stack f_m_worth f_m_isRefused f_m_least f_m_packPounds f_m_packOwner f_m_room f_m_givenTo f_m_canBe f_m_setPounds f_m_plainTime f_m_muleTime f_m_planTo f_m_march f_m_tired f_m_ranMinutes f_m_tiredAhead f_m_isReached f_m_toEnd f_m_upTo f_m_upNext f_m_byChanges f_m_bandPaces H.size i all (by omega) (by omega) (by omega) hr_m_weight hr_m_isLame hr_m_miles hr_m_isRefused (by omega) (by omega) hwf) (gi_V lwd_653 lwd_654 lwd_655 lwd_5 lwd_656) ⟨rfl, hd_X10_lays⟩ ⟨Nat.le_of_ble_eq_true rfl, Nat.le_of_ble_eq_true rfl⟩ rfl (Nat.le_of_ble_eq_true rfl) dX10_whole_34) (fun u_96 H locs hw hP hD hS => ?_)
          obtain ⟨zatW_98, zatL_99, zatT_100, zatH_101, zatM_102, zatI_103, zatQ_104, zworth_105, zisRefused_106, zleast_107⟩ := u_96
          try dsimp only at hw hP hD
          obtain ⟨p_108, p_109⟩ := hw
          refine lv_aload_n hx hb dX10_whole_37 rfl (lv_at hl 0 rfl) ?_
          refine lv_iload_n hx hb dX10_whole_38 rfl (lv_at hl 1 rfl) ?_
          refine lv_aload_n hx hb dX10_whole_39 rfl (lv_at hl 0 rfl) ?_
          refine xi hD hS hA (xV (As := []) (rest := [.int i, .ref (hm 0)]) hx hb hml hown hts hK hP hD hS hA NT_ok hN hAe hl.1 ⟨Nat.le_refl _, Nat.le_refl _⟩ 0 rfl rfl rfl (c_X10_everybody l D cy hm v_taped v_walkers v_loads v_pieces v_changeCosts v_planned v_isMarch v_clauseMany v_place v_end v_bad v_clauses v_codes v_open v_stacked v_isOver v_isBehind zatW_98 zatL_99 zatT_100 zatH_101 zatM_102 zatI_103 zatQ_104 v_packing v_packed v_goPace v_goMinutes v_spentAt v_ranChanges f_m_tape f_m_knee f_m_weight f_m_isLame f_m_loadWeight f_m_owner f_m_food f_m_miles f_m_slope f_m_clauseLetter f_m_sumFrom f_m_codeFrom f_m_codeTo f_m_code f_m_codeArg f_m_newLetter f_m_newSum f_m_newFrom f_m_newTo f_m_newCode f_m_newArg f_m_stack zworth_105 zisRefused_106 zleast_107 f_m_packPounds f_m_packOwner f_m_room f_m_givenTo f_m_canBe f_m_setPounds f_m_plainTime f_m_muleTime f_m_planTo f_m_march f_m_tired f_m_ranMinutes f_m_tiredAhead f_m_isReached f_m_toEnd f_m_upTo f_m_upNext f_m_byChanges f_m_bandPaces H.size (by omega)) (gi_V lwd_736 lwd_737 lwd_738 lwd_5 lwd_739) ⟨rfl, hd_X10_everybody⟩ ⟨Nat.le_of_ble_eq_true rfl, Nat.le_of_ble_eq_true rfl⟩ rfl (Nat.le_of_ble_eq_true rfl) dX10_whole_40) (fun r_111 u_110 H locs hw hP hD hS => ?_)
          try dsimp only at hw hP hD
          clear hw
          refine lv_iconst (v := 1) hx hb dX10_whole_43 (by decide) ?_
          have k_112 : (1 : Int32).toInt = 1 := by decide
          refine xv hD hS hA (xV (As := [.int i, .int r_111, .int 1]) (rest := []) hx hb hml hown hts hK hP hD hS hA NT_ok hN hAe hl.1 ⟨Nat.le_refl _, Nat.le_refl _⟩ 0 rfl rfl rfl (c_X10_packs l D cy hm v_taped v_walkers v_loads v_pieces v_changeCosts v_planned v_isMarch v_clauseMany v_place v_end v_bad v_clauses v_codes v_open v_stacked v_isOver v_isBehind zatW_98 zatL_99 zatT_100 zatH_101 zatM_102 zatI_103 zatQ_104 v_packing v_packed v_goPace v_goMinutes v_spentAt v_ranChanges f_m_tape f_m_knee f_m_weight f_m_isLame f_m_loadWeight f_m_owner f_m_food f_m_miles f_m_slope f_m_clauseLetter f_m_sumFrom f_m_codeFrom f_m_codeTo f_m_code f_m_codeArg f_m_newLetter f_m_newSum f_m_newFrom f_m_newTo f_m_newCode f_m_newArg f_m_stack zworth_105 zisRefused_106 zleast_107 f_m_packPounds f_m_packOwner f_m_room f_m_givenTo f_m_canBe f_m_setPounds f_m_plainTime f_m_muleTime f_m_planTo f_m_march f_m_tired f_m_ranMinutes f_m_tiredAhead f_m_isReached f_m_toEnd f_m_upTo f_m_upNext f_m_byChanges f_m_bandPaces H.size i r_111 1 (by omega) (by omega) hr_m_loadWeight hr_m_owner hr_m_food hr_m_packPounds hr_m_packOwner (by omega) (by omega)) (gi_V lwd_740 lwd_741 lwd_742 lwd_5 lwd_743) ⟨rfl, hd_X10_packs⟩ ⟨Nat.le_of_ble_eq_true rfl, Nat.le_of_ble_eq_true rfl⟩ rfl (Nat.le_of_ble_eq_true rfl) dX10_whole_44) (fun u_113 H locs hw hP hD hS => ?_)
          obtain ⟨zpacking_115, zpacked_116, zpackPounds_117, zpackOwner_118⟩ := u_113
          try dsimp only at hw hP hD
          obtain ⟨p_119, p_120, p_121, p_122⟩ := hw
          refine lv_aload_n hx hb dX10_whole_47 rfl (lv_at hl 0 rfl) ?_
          refine lv_iconst (v := (-1)) hx hb dX10_whole_48 (by decide) ?_
          have k_123 : ((-1) : Int32).toInt = (-1) := by decide
          refine xi hD hS hA (xV (As := [.int (-1)]) (rest := []) hx hb hml hown hts hK hP hD hS hA NT_ok hN hAe hl.1 ⟨Nat.le_refl _, Nat.le_refl _⟩ 0 rfl rfl rfl (c_X10_wholePace l D cy hm v_taped v_walkers v_loads v_pieces v_changeCosts v_planned v_isMarch v_clauseMany v_place v_end v_bad v_clauses v_codes v_open v_stacked v_isOver v_isBehind zatW_98 zatL_99 zatT_100 zatH_101 zatM_102 zatI_103 zatQ_104 zpacking_115 zpacked_116 v_goPace v_goMinutes v_spentAt v_ranChanges f_m_tape f_m_knee f_m_weight f_m_isLame f_m_loadWeight f_m_owner f_m_food f_m_miles f_m_slope f_m_clauseLetter f_m_sumFrom f_m_codeFrom f_m_codeTo f_m_code f_m_codeArg f_m_newLetter f_m_newSum f_m_newFrom f_m_newTo f_m_newCode f_m_newArg f_m_stack zworth_105 zisRefused_106 zleast_107 zpackPounds_117 zpackOwner_118 f_m_room f_m_givenTo f_m_canBe f_m_setPounds f_m_plainTime f_m_muleTime f_m_planTo f_m_march f_m_tired f_m_ranMinutes f_m_tiredAhead f_m_isReached f_m_toEnd f_m_upTo f_m_upNext f_m_byChanges f_m_bandPaces H.size (-1) (by omega) (by omega) p_121 p_122 hr_m_canBe) (gi_V lwd_753 lwd_754 lwd_755 lwd_5 lwd_756) ⟨rfl, hd_X10_wholePace⟩ ⟨Nat.le_of_ble_eq_true rfl, Nat.le_of_ble_eq_true rfl⟩ rfl (Nat.le_of_ble_eq_true rfl) dX10_whole_49) (fun r_125 u_124 H locs hw hP hD hS => ?_)
          obtain ⟨zroom_126, zgivenTo_127, zcanBe_128, zsetPounds_129⟩ := u_124
          try dsimp only at hw hP hD
          obtain ⟨p_130, p_131, p_132⟩ := hw
          refine lv_istore (lv' := [(4, .int r_125), (0, .ref (hm 0)), (1, .int i), (2, .int all), (3, .int x)]) hx hb dX10_whole_52 hl (by decide) rfl (fun ls hl => ?_)
          refine lv_iload_n hx hb dX10_whole_54 rfl (lv_at hl 4 rfl) ?_
          refine lv_iconst (v := (-1)) hx hb dX10_whole_55 (by decide) ?_
          refine lv_icmp_ne (tgt := 62) hx hb dX10_whole_56 (by decide) (fun c_133 => ?_) (fun c_133 => ?_)
          · have gc_133 : x.toInt ≠ (-1) := i_ne (rfl : x.toInt = x.toInt) (by decide : ((-1) : Int32).toInt = (-1)) c_133
            refine lv_iload hx hb dX10_whole_62 (lv_at hl 0 rfl) ?_
            refine lv_if_ne (tgt := 70) hx hb dX10_whole_64 (by decide) (fun c_134 => ?_) (fun c_134 => ?_)
            · have gc_134 : r_125.toInt ≠ 0 := i_ne (rfl : r_125.toInt = r_125.toInt) (by decide : (0 : Int32).toInt = 0) c_134
              refine lv_iload_n hx hb dX10_whole_70 rfl (lv_at hl 4 rfl) ?_
              refine lv_bipush (v := 9) hx hb dX10_whole_71 (by decide) ?_
              refine lv_icmp_ne (tgt := 84) hx hb dX10_whole_73 (by decide) (fun c_135 => ?_) (fun c_135 => ?_)
              · have gc_135 : x.toInt ≠ 9 := i_ne (rfl : x.toInt = x.toInt) (by decide : (9 : Int32).toInt = 9) c_135
                refine lv_aload_n hx hb dX10_whole_84 rfl (lv_at hl 1 rfl) ?_
                refine lv_iload hx hb dX10_whole_85 (lv_at hl 0 rfl) ?_
                refine xv hD hS hA (xV (As := [.int r_125]) (rest := []) hx hb hml hown hts hK hP hD hS hA NT_ok hN hAe hl.1 ⟨Nat.le_refl _, Nat.le_refl _⟩ 0 rfl rfl rfl (c_X10_gives l D cy hm v_taped v_walkers v_loads v_pieces v_changeCosts v_planned v_isMarch v_clauseMany v_place v_end v_bad v_clauses v_codes v_open v_stacked v_isOver v_isBehind zatW_98 zatL_99 zatT_100 zatH_101 zatM_102 zatI_103 zatQ_104 zpacking_115 zpacked_116 v_goPace v_goMinutes v_spentAt v_ranChanges f_m_tape f_m_knee f_m_weight f_m_isLame f_m_loadWeight f_m_owner f_m_food f_m_miles f_m_slope f_m_clauseLetter f_m_sumFrom f_m_codeFrom f_m_codeTo f_m_code f_m_codeArg f_m_newLetter f_m_newSum f_m_newFrom f_m_newTo f_m_newCode f_m_newArg f_m_stack zworth_105 zisRefused_106 zleast_107 zpackPounds_117 zpackOwner_118 zroom_126 zgivenTo_127 zcanBe_128 zsetPounds_129 f_m_plainTime f_m_muleTime f_m_planTo f_m_march f_m_tired f_m_ranMinutes f_m_tiredAhead f_m_isReached f_m_toEnd f_m_upTo f_m_upNext f_m_byChanges f_m_bandPaces H.size r_125 (by omega) (by omega) p_121 p_122 p_132 (p_131 (by omega))) (gi_V lwd_769 lwd_770 lwd_771 lwd_5 lwd_772) ⟨rfl, hd_X10_gives⟩ ⟨Nat.le_of_ble_eq_true rfl, Nat.le_of_ble_eq_true rfl⟩ rfl (Nat.le_of_ble_eq_true rfl) dX10_whole_87) (fun u_136 H locs hw hP hD hS => ?_)
                obtain ⟨zroom_138, zgivenTo_139, zcanBe_140, zsetPounds_141⟩ := u_136
                try dsimp only at hw hP hD
                have p_142 := hw
                clear hw
                refine lv_aload_n hx hb dX10_whole_90 rfl (lv_at hl 1 rfl) ?_
                refine gt_MD_MD_givenTo hx hb hts hown hK hP lwd_184 dX10_whole_91 ?_
                refine lv_iload_n hx hb dX10_whole_94 rfl (lv_at hl 4 rfl) ?_
                refine al_m_givenTo hx hb hK hP (i_in (rfl : x.toInt = x.toInt) (by omega) (by omega)) dX10_whole_95 (fun n_143 en_143 => ?_)
                exact hrt n_143 zatW_98 zatL_99 zatT_100 zatH_101 zatM_102 zatI_103 zatQ_104 zpacking_115 zpacked_116 zworth_105 zisRefused_106 zleast_107 zpackPounds_117 zpackOwner_118 zroom_138 zgivenTo_139 zcanBe_140 zsetPounds_141 ⟨(by omega), (by omega), p_109, p_121, p_122, p_142⟩ hP hD hS rfl dX10_whole_96
              · have gc_135 : x.toInt = 9 := i_eq (rfl : x.toInt = x.toInt) (by decide : (9 : Int32).toInt = 9) c_135
                exact absurd gc_135 (by omega)
            · have gc_134 : r_125.toInt = 0 := i_eq (rfl : r_125.toInt = r_125.toInt) (by decide : (0 : Int32).toInt = 0) c_134
              refine lv_bipush (v := (-2)) hx hb dX10_whole_67 (by decide) ?_
              have k_144 : ((-2) : Int32).toInt = (-2) := by decide
              exact hrt (-2) zatW_98 zatL_99 zatT_100 zatH_101 zatM_102 zatI_103 zatQ_104 zpacking_115 zpacked_116 zworth_105 zisRefused_106 zleast_107 zpackPounds_117 zpackOwner_118 zroom_126 zgivenTo_127 zcanBe_128 zsetPounds_129 ⟨(by omega), (by omega), p_109, p_121, p_122, p_132⟩ hP hD hS rfl dX10_whole_69
          · have gc_133 : x.toInt = (-1) := i_eq (rfl : x.toInt = x.toInt) (by decide : ((-1) : Int32).toInt = (-1)) c_133
            exact absurd gc_133 (by omega)
        · have gc_95 : r_92.toInt = 0 := i_eq (rfl : r_92.toInt = r_92.toInt) (by decide : (0 : Int32).toInt = 0) c_95
          refine lv_bipush (v := (-3)) hx hb dX10_whole_28 (by decide) ?_
          have k_145 : ((-3) : Int32).toInt = (-3) := by decide
          exact hrt (-3) v_atW v_atL v_atT v_atH v_atM v_atI v_atQ v_packing v_packed f_m_worth f_m_isRefused f_m_least f_m_packPounds f_m_packOwner f_m_room f_m_givenTo f_m_canBe f_m_setPounds ⟨(by omega), (by omega), hr_m_isRefused, hr_m_packPounds, hr_m_packOwner, hr_m_canBe⟩ hP hD hS rfl dX10_whole_30
