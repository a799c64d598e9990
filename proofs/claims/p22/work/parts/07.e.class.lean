set_option maxHeartbeats 16000000 in
set_option maxRecDepth 100000 in
theorem c_X1_isTold (l : Launch) (D : va_G) (cy : Nat → ClassId) (hs : Nat → Nat) (hH hT sH sT : Nat) (v_tape_size v_band_walkers v_band_loads v_band_pieces v_rules_clauses v_reader_end v_reader_at v_reader_length v_reader_letter v_reader_fault v_draft_clauses v_paces_version v_packing_quicker v_packing_loads v_packing_looseCount v_marches_told v_marches_changeMinutes v_marches_marching v_marches_gone v_search_known v_search_countHere v_search_countThere v_search_cost v_search_most : Int32) (v_search_found : Int64) (f_bytes f_knee f_weight f_limps f_bheft f_owner f_food f_miles f_slope f_rsteps f_rkind f_ryields f_rholds f_rletters f_rstack f_dsteps f_dkind f_dyields f_dholds f_dletters f_dstack f_caps f_versions f_sharing f_pheft f_prow f_holder f_comes f_pcaps f_room f_loose f_reached f_mrow f_minutesOn f_mtired : Nat → Int32) (f_here f_there : Nat → Int64) (f_statesHere f_statesThere f_listed f_stired f_burdens f_pacesOn f_restedOn f_behindOn f_behindFor f_first f_second : Nat → Int32) (f_plans f_tiredOn : Nat → Nat → Int32) (tS : Nat) (sz : Nat) (k : Int32) : gMi l yX1_isTold cX1_isTold 2 .boolean 1 [.ref (hs 40), .int k] D cy (wSP cy hs hH hT sH sT v_tape_size v_band_walkers v_band_loads v_band_pieces v_rules_clauses v_reader_end v_reader_at v_reader_length v_reader_letter v_reader_fault v_draft_clauses v_paces_version v_packing_quicker v_packing_loads v_packing_looseCount v_marches_told v_marches_changeMinutes v_marches_marching v_marches_gone v_search_known v_search_countHere v_search_countThere v_search_cost v_search_most v_search_found f_bytes f_knee f_weight f_limps f_bheft f_owner f_food f_miles f_slope f_rsteps f_rkind f_ryields f_rholds f_rletters f_rstack f_dsteps f_dkind f_dyields f_dholds f_dletters f_dstack f_caps f_versions f_sharing f_pheft f_prow f_holder f_comes f_pcaps f_room f_loose f_reached f_mrow f_minutesOn f_mtired f_here f_there f_statesHere f_statesThere f_listed f_stired f_burdens f_pacesOn f_restedOn f_behindOn f_behindFor f_first f_second f_plans f_tiredOn) (NS tS) sz (fun (r : Int32) (u : Unit) => (0 ≤ r.toInt ∧ r.toInt ≤ 1) ∧ (r.toInt = 1 → 0 ≤ k.toInt ∧ k.toInt ≤ 5)) (fun u => wSP cy hs hH hT sH sT v_tape_size v_band_walkers v_band_loads v_band_pieces v_rules_clauses v_reader_end v_reader_at v_reader_length v_reader_letter v_reader_fault v_draft_clauses v_paces_version v_packing_quicker v_packing_loads v_packing_looseCount v_marches_told v_marches_changeMinutes v_marches_marching v_marches_gone v_search_known v_search_countHere v_search_countThere v_search_cost v_search_most v_search_found f_bytes f_knee f_weight f_limps f_bheft f_owner f_food f_miles f_slope f_rsteps f_rkind f_ryields f_rholds f_rletters f_rstack f_dsteps f_dkind f_dyields f_dholds f_dletters f_dstack f_caps f_versions f_sharing f_pheft f_prow f_holder f_comes f_pcaps f_room f_loose f_reached f_mrow f_minutesOn f_mtired f_here f_there f_statesHere f_statesThere f_listed f_stired f_burdens f_pacesOn f_restedOn f_behindOn f_behindFor f_first f_second f_plans f_tiredOn) := by
  refine gMi_in (by decide) (Nat.le_of_ble_eq_true rfl) ?_
  intro p e s m args below meth c A ls Q hx hb hml hts hown hsz hP hK hD hN hAe hA hS hl hret
  subst hsz
  have hl : lv_has ls 2 [(0, .ref (hs 40)), (1, .int k)] := hl
  have hrt := fun (r : Int32)  (hp : (0 ≤ r.toInt ∧ r.toInt ≤ 1) ∧ (r.toInt = 1 → 0 ≤ k.toInt ∧ k.toInt ≤ 5)) {H : Heap} {locs : List Loc} {pc : Nat} {ls : Array Slot} => hret r () (H := H) (locs := locs) (pc := pc) (ls := ls) hp
  clear hret
  refine lv_iload_n hx hb dX1_isTold_0 rfl (lv_at hl 1 rfl) ?_
  refine lv_if_lt (tgt := 25) hx hb dX1_isTold_1 (by decide) (fun c_1 => ?_) (fun c_1 => ?_)
  · have gc_1 : k.toInt < 0 := i_lt (rfl : k.toInt = k.toInt) (by decide : (0 : Int32).toInt = 0) c_1
    refine lv_iconst (v := 0) hx hb dX1_isTold_25 (by decide) ?_
    have k_2 : (0 : Int32).toInt = 0 := by decide
    exact hrt 0  ⟨(by omega), (by omega)⟩ hP hD hS rfl dX1_isTold_26
  · have gc_1 : 0 ≤ k.toInt := i_nlt (rfl : k.toInt = k.toInt) (by decide : (0 : Int32).toInt = 0) c_1
    refine lv_iload_n hx hb dX1_isTold_4 rfl (lv_at hl 1 rfl) ?_
    refine lv_bipush (v := 6) hx hb dX1_isTold_5 (by decide) ?_
    refine lv_icmp_ge (tgt := 25) hx hb dX1_isTold_7 (by decide) (fun c_3 => ?_) (fun c_3 => ?_)
    · have gc_3 : 6 ≤ k.toInt := i_le (by decide : (6 : Int32).toInt = 6) (rfl : k.toInt = k.toInt) c_3
      refine lv_iconst (v := 0) hx hb dX1_isTold_25 (by decide) ?_
      have k_4 : (0 : Int32).toInt = 0 := by decide
      exact hrt 0  ⟨(by omega), (by omega)⟩ hP hD hS rfl dX1_isTold_26
    · have gc_3 : k.toInt < 6 := i_nle (by decide : (6 : Int32).toInt = 6) (rfl : k.toInt = k.toInt) c_3
      refine lv_aload_n hx hb dX1_isTold_10 rfl (lv_at hl 0 rfl) ?_
      refine gt_SP_marches_told hx hb hts hown hK hP lwd_915 dX1_isTold_11 ?_
      refine lv_iload_n hx hb dX1_isTold_14 rfl (lv_at hl 1 rfl) ?_
      refine lv_ishr hx hb dX1_isTold_15 ?_
      refine lv_topi (fun n_5 en_5 => ?_)
      refine lv_iconst (v := 1) hx hb dX1_isTold_16 (by decide) ?_
      refine lv_iand hx hb dX1_isTold_17 ?_
      refine lv_topi (fun n_6 en_6 => ?_)
      have bn_6 : 0 ≤ n_6.toInt ∧ n_6.toInt ≤ 1 := i_msk 1 en_6 (by decide) (by decide) (by decide)
      refine lv_if_eq (tgt := 25) hx hb dX1_isTold_18 (by decide) (fun c_7 => ?_) (fun c_7 => ?_)
      · have gc_7 : n_6.toInt = 0 := i_eq (rfl : n_6.toInt = n_6.toInt) (by decide : (0 : Int32).toInt = 0) c_7
        refine lv_iconst (v := 0) hx hb dX1_isTold_25 (by decide) ?_
        have k_8 : (0 : Int32).toInt = 0 := by decide
        exact hrt 0  ⟨(by omega), (by omega)⟩ hP hD hS rfl dX1_isTold_26
      · have gc_7 : n_6.toInt ≠ 0 := i_ne (rfl : n_6.toInt = n_6.toInt) (by decide : (0 : Int32).toInt = 0) c_7
        refine lv_iconst (v := 1) hx hb dX1_isTold_21 (by decide) ?_
        refine lv_goto (tgt := 26) hx hb dX1_isTold_22 (by decide) ?_
        have k_9 : (1 : Int32).toInt = 1 := by decide
        exact hrt 1  ⟨(by omega), (by omega)⟩ hP hD hS rfl dX1_isTold_26
set_option maxHeartbeats 16000000 in
set_option maxRecDepth 100000 in
theorem c_X1_burden (l : Launch) (D : va_G) (cy : Nat → ClassId) (hs : Nat → Nat) (hH hT sH sT : Nat) (v_tape_size v_band_walkers v_band_loads v_band_pieces v_rules_clauses v_reader_end v_reader_at v_reader_length v_reader_letter v_reader_fault v_draft_clauses v_paces_version v_packing_quicker v_packing_loads v_packing_looseCount v_marches_told v_marches_changeMinutes v_marches_marching v_marches_gone v_search_known v_search_countHere v_search_countThere v_search_cost v_search_most : Int32) (v_search_found : Int64) (f_bytes f_knee f_weight f_limps f_bheft f_owner f_food f_miles f_slope f_rsteps f_rkind f_ryields f_rholds f_rletters f_rstack f_dsteps f_dkind f_dyields f_dholds f_dletters f_dstack f_caps f_versions f_sharing f_pheft f_prow f_holder f_comes f_pcaps f_room f_loose f_reached f_mrow f_minutesOn f_mtired : Nat → Int32) (f_here f_there : Nat → Int64) (f_statesHere f_statesThere f_listed f_stired f_burdens f_pacesOn f_restedOn f_behindOn f_behindFor f_first f_second : Nat → Int32) (f_plans f_tiredOn : Nat → Nat → Int32) (tS : Nat) (sz : Nat) (k : Int32) (w : Int32) (i : Int32) (hb_v_band_loads : 0 ≤ v_band_loads.toInt ∧ v_band_loads.toInt ≤ 9) (hr_bheft : rg (0) 120 f_bheft) (hr_food : rg (0) 20 f_food) (ha_k : 0 ≤ k.toInt ∧ k.toInt ≤ 5) (ha_i : 0 ≤ i.toInt ∧ i.toInt ≤ 9) : gMi l yX1_burden cX1_burden 6 .int 2 [.ref (hs 40), .int k, .int w, .int i] D cy (wSP cy hs hH hT sH sT v_tape_size v_band_walkers v_band_loads v_band_pieces v_rules_clauses v_reader_end v_reader_at v_reader_length v_reader_letter v_reader_fault v_draft_clauses v_paces_version v_packing_quicker v_packing_loads v_packing_looseCount v_marches_told v_marches_changeMinutes v_marches_marching v_marches_gone v_search_known v_search_countHere v_search_countThere v_search_cost v_search_most v_search_found f_bytes f_knee f_weight f_limps f_bheft f_owner f_food f_miles f_slope f_rsteps f_rkind f_ryields f_rholds f_rletters f_rstack f_dsteps f_dkind f_dyields f_dholds f_dletters f_dstack f_caps f_versions f_sharing f_pheft f_prow f_holder f_comes f_pcaps f_room f_loose f_reached f_mrow f_minutesOn f_mtired f_here f_there f_statesHere f_statesThere f_listed f_stired f_burdens f_pacesOn f_restedOn f_behindOn f_behindFor f_first f_second f_plans f_tiredOn) (NS tS) sz (fun (r : Int32) (u : Unit) => True) (fun u => wSP cy hs hH hT sH sT v_tape_size v_band_walkers v_band_loads v_band_pieces v_rules_clauses v_reader_end v_reader_at v_reader_length v_reader_letter v_reader_fault v_draft_clauses v_paces_version v_packing_quicker v_packing_loads v_packing_looseCount v_marches_told v_marches_changeMinutes v_marches_marching v_marches_gone v_search_known v_search_countHere v_search_countThere v_search_cost v_search_most v_search_found f_bytes f_knee f_weight f_limps f_bheft f_owner f_food f_miles f_slope f_rsteps f_rkind f_ryields f_rholds f_rletters f_rstack f_dsteps f_dkind f_dyields f_dholds f_dletters f_dstack f_caps f_versions f_sharing f_pheft f_prow f_holder f_comes f_pcaps f_room f_loose f_reached f_mrow f_minutesOn f_mtired f_here f_there f_statesHere f_statesThere f_listed f_stired f_burdens f_pacesOn f_restedOn f_behindOn f_behindFor f_first f_second f_plans f_tiredOn) := by
  refine gMi_in (by decide) (Nat.le_of_ble_eq_true rfl) ?_
  intro p e s m args below meth c A ls Q hx hb hml hts hown hsz hP hK hD hN hAe hA hS hl hret
  subst hsz
  have hl : lv_has ls 6 [(0, .ref (hs 40)), (1, .int k), (2, .int w), (3, .int i)] := hl
  have hrt := fun (r : Int32)   {H : Heap} {locs : List Loc} {pc : Nat} {ls : Array Slot} => hret r () (H := H) (locs := locs) (pc := pc) (ls := ls) trivial
  clear hret
  refine lv_iconst (v := 0) hx hb dX1_burden_0 (by decide) ?_
  refine lv_istore (lv' := [(4, .int 0), (0, .ref (hs 40)), (1, .int k), (2, .int w), (3, .int i)]) hx hb dX1_burden_1 hl (by decide) rfl (fun ls hl => ?_)
  refine lv_iconst (v := 0) hx hb dX1_burden_3 (by decide) ?_
  refine lv_istore (lv' := [(5, .int 0), (4, .int 0), (0, .ref (hs 40)), (1, .int k), (2, .int w), (3, .int i)]) hx hb dX1_burden_4 hl (by decide) rfl (fun ls hl => ?_)
  have L6_5 : ∀ (n : Nat) (l_3 : Int32) (l_4 : Int32), (0 ≤ l_4.toInt ∧ l_4.toInt ≤ 9) → 10 - l_4.toInt < n → ∀ (H : Heap) (locs : List Loc) (ls : Array Slot), va_P D vwCl (wSP cy hs hH hT sH sT v_tape_size v_band_walkers v_band_loads v_band_pieces v_rules_clauses v_reader_end v_reader_at v_reader_length v_reader_letter v_reader_fault v_draft_clauses v_paces_version v_packing_quicker v_packing_loads v_packing_looseCount v_marches_told v_marches_changeMinutes v_marches_marching v_marches_gone v_search_known v_search_countHere v_search_countThere v_search_cost v_search_most v_search_found f_bytes f_knee f_weight f_limps f_bheft f_owner f_food f_miles f_slope f_rsteps f_rkind f_ryields f_rholds f_rletters f_rstack f_dsteps f_dkind f_dyields f_dholds f_dletters f_dstack f_caps f_versions f_sharing f_pheft f_prow f_holder f_comes f_pcaps f_room f_loose f_reached f_mrow f_minutesOn f_mtired f_here f_there f_statesHere f_statesThere f_listed f_stired f_burdens f_pacesOn f_restedOn f_behindOn f_behindFor f_first f_second f_plans f_tiredOn) H → va_D A (wSP cy hs hH hT sH sT v_tape_size v_band_walkers v_band_loads v_band_pieces v_rules_clauses v_reader_end v_reader_at v_reader_length v_reader_letter v_reader_fault v_draft_clauses v_paces_version v_packing_quicker v_packing_loads v_packing_looseCount v_marches_told v_marches_changeMinutes v_marches_marching v_marches_gone v_search_known v_search_countHere v_search_countThere v_search_cost v_search_most v_search_found f_bytes f_knee f_weight f_limps f_bheft f_owner f_food f_miles f_slope f_rsteps f_rkind f_ryields f_rholds f_rletters f_rstack f_dsteps f_dkind f_dyields f_dholds f_dletters f_dstack f_caps f_versions f_sharing f_pheft f_prow f_holder f_comes f_pcaps f_room f_loose f_reached f_mrow f_minutesOn f_mtired f_here f_there f_statesHere f_statesThere f_listed f_stired f_burdens f_pacesOn f_restedOn f_behindOn f_behindFor f_first f_second f_plans f_tiredOn) → va_S A s.heap H locs → lv_has ls 6 [(5, .int l_4), (4, .int l_3), (0, .ref (hs 40)), (1, .int k), (2, .int w), (3, .int i)] → W p l e (gRm 2) s m args below meth c H locs 0 0 Q (F0 m 6 ls []) := by
    intro n
    induction n with
    | zero => intro l_3 l_4 hL6_5_0 hm; exact absurd hm (by omega)
    | succ n ih6_5 =>
      intro l_3 l_4 hL6_5_0 hmL6_5 H locs ls hP hD hS hl
      refine lv_iload hx hb dX1_burden_6 (lv_at hl 0 rfl) ?_
      refine lv_aload_n hx hb dX1_burden_8 rfl (lv_at hl 2 rfl) ?_
      refine gt_SP_marches_band hx hb hts hown hK hP lwd_116 dX1_burden_9 ?_
      refine gt_SP_band_loads hx hb hts hown hK hP lwd_950 dX1_burden_12 ?_
      refine lv_icmp_ge (tgt := 52) hx hb dX1_burden_15 (by decide) (fun c_6 => ?_) (fun c_6 => ?_)
      · have gc_6 : v_band_loads.toInt ≤ l_4.toInt := i_le (rfl : v_band_loads.toInt = v_band_loads.toInt) (rfl : l_4.toInt = l_4.toInt) c_6
        refine lv_iload hx hb dX1_burden_52 (lv_at hl 1 rfl) ?_
        exact hrt l_3   hP hD hS rfl dX1_burden_54
      · have gc_6 : l_4.toInt < v_band_loads.toInt := i_nle (rfl : v_band_loads.toInt = v_band_loads.toInt) (rfl : l_4.toInt = l_4.toInt) c_6
        refine lv_aload_n hx hb dX1_burden_18 rfl (lv_at hl 2 rfl) ?_
        refine gt_SP_marches_plans hx hb hts hown hK hP lwd_110 dX1_burden_19 ?_
        refine lv_iload_n hx hb dX1_burden_22 rfl (lv_at hl 3 rfl) ?_
        refine aq_plans (i := k) hx hb hK hP (by first | omega | decide) dX1_burden_23 ?_
        refine lv_iload hx hb dX1_burden_24 (lv_at hl 0 rfl) ?_
        refine ar_plans (i := k) hx hb hK hP (by first | omega | decide) (i_in (rfl : l_4.toInt = l_4.toInt) (by omega) (by omega)) dX1_burden_26 (fun n_7 en_7 => ?_)
        refine lv_iload_n hx hb dX1_burden_27 rfl (lv_at hl 4 rfl) ?_
        refine lv_icmp_ne (tgt := 46) hx hb dX1_burden_28 (by decide) (fun c_8 => ?_) (fun c_8 => ?_)
        · have gc_8 : n_7.toInt ≠ w.toInt := i_ne (rfl : n_7.toInt = n_7.toInt) (rfl : w.toInt = w.toInt) c_8
          obtain ⟨n_9, en_9⟩ : ∃ y : Int32, y = l_4 + 1 := ⟨_, rfl⟩
          have tn_9 : n_9.toInt = l_4.toInt + 1 := i_add en_9 (rfl : l_4.toInt = l_4.toInt) (by decide : (1 : Int32).toInt = 1) (by omega) (by omega)
          refine lv_iinc (v := n_9) (lv' := [(5, .int n_9), (4, .int l_3), (0, .ref (hs 40)), (1, .int k), (2, .int w), (3, .int i)]) hx hb dX1_burden_46 hl (k := 0) rfl (by rw [en_9]; rfl) (by decide) rfl (fun ls hl => ?_)
          refine lv_goto (tgt := 6) hx hb dX1_burden_49 (by decide) ?_
          exact ih6_5 l_3 n_9 (by omega) (by omega) _ _ _ hP hD hS (lv_sub hl [0, 1, 2, 3, 4, 5] rfl)
        · have gc_8 : n_7.toInt = w.toInt := i_eq (rfl : n_7.toInt = n_7.toInt) (rfl : w.toInt = w.toInt) c_8
          refine lv_iload hx hb dX1_burden_31 (lv_at hl 1 rfl) ?_
          refine lv_aload_n hx hb dX1_burden_33 rfl (lv_at hl 2 rfl) ?_
          refine gt_SP_marches_band hx hb hts hown hK hP lwd_116 dX1_burden_34 ?_
          refine lv_iload hx hb dX1_burden_37 (lv_at hl 0 rfl) ?_
          refine lv_iload_n hx hb dX1_burden_39 rfl (lv_at hl 5 rfl) ?_
          refine xi hD hS hA (xV (As := [.int l_4, .int i]) (rest := [.int l_3]) hx hb hml hown hts hK hP hD hS hA NS_ok hN hAe hl.1 ⟨Nat.le_refl _, Nat.le_refl _⟩ 3 rfl rfl rfl (c_X0_heftAt l D cy hs hH hT sH sT v_tape_size v_band_walkers v_band_loads v_band_pieces v_rules_clauses v_reader_end v_reader_at v_reader_length v_reader_letter v_reader_fault v_draft_clauses v_paces_version v_packing_quicker v_packing_loads v_packing_looseCount v_marches_told v_marches_changeMinutes v_marches_marching v_marches_gone v_search_known v_search_countHere v_search_countThere v_search_cost v_search_most v_search_found f_bytes f_knee f_weight f_limps f_bheft f_owner f_food f_miles f_slope f_rsteps f_rkind f_ryields f_rholds f_rletters f_rstack f_dsteps f_dkind f_dyields f_dholds f_dletters f_dstack f_caps f_versions f_sharing f_pheft f_prow f_holder f_comes f_pcaps f_room f_loose f_reached f_mrow f_minutesOn f_mtired f_here f_there f_statesHere f_statesThere f_listed f_stired f_burdens f_pacesOn f_restedOn f_behindOn f_behindFor f_first f_second f_plans f_tiredOn tS H.size l_4 i hr_bheft hr_food (by omega) (by omega)) (gi_V lwd_951 lwd_692 lwd_693 lwd_18 lwd_694) ⟨rfl, hd_X0_heftAt⟩ ⟨Nat.le_of_ble_eq_true rfl, Nat.le_of_ble_eq_true rfl⟩ rfl (Nat.le_of_ble_eq_true rfl) dX1_burden_40) (fun r_11 u_10 H locs hw hP hD hS => ?_)
          try dsimp only at hw hP hD
          have p_12 := hw
          clear hw
          refine lv_iadd hx hb dX1_burden_43 ?_
          refine lv_topi (fun n_13 en_13 => ?_)
          refine lv_istore (lv' := [(4, .int n_13), (5, .int l_4), (0, .ref (hs 40)), (1, .int k), (2, .int w), (3, .int i)]) hx hb dX1_burden_44 hl (by decide) rfl (fun ls hl => ?_)
          obtain ⟨n_14, en_14⟩ : ∃ y : Int32, y = l_4 + 1 := ⟨_, rfl⟩
          have tn_14 : n_14.toInt = l_4.toInt + 1 := i_add en_14 (rfl : l_4.toInt = l_4.toInt) (by decide : (1 : Int32).toInt = 1) (by omega) (by omega)
          refine lv_iinc (v := n_14) (lv' := [(5, .int n_14), (4, .int n_13), (0, .ref (hs 40)), (1, .int k), (2, .int w), (3, .int i)]) hx hb dX1_burden_46 hl (k := 1) rfl (by rw [en_14]; rfl) (by decide) rfl (fun ls hl => ?_)
          refine lv_goto (tgt := 6) hx hb dX1_burden_49 (by decide) ?_
          exact ih6_5 n_13 n_14 (by omega) (by omega) _ _ _ hP hD hS (lv_sub hl [0, 1, 2, 3, 4, 5] rfl)
  have k_15 : (0 : Int32).toInt = 0 := by decide
  have k_16 : (0 : Int32).toInt = 0 := by decide
  exact L6_5 8589934592 0 0 (by omega) (by omega) _ _ _ hP hD hS (lv_sub hl [0, 1, 2, 3, 4, 5] rfl)
set_option maxHeartbeats 16000000 in
set_option maxRecDepth 100000 in
theorem c_X1_changesAt (l : Launch) (D : va_G) (cy : Nat → ClassId) (hs : Nat → Nat) (hH hT sH sT : Nat) (v_tape_size v_band_walkers v_band_loads v_band_pieces v_rules_clauses v_reader_end v_reader_at v_reader_length v_reader_letter v_reader_fault v_draft_clauses v_paces_version v_packing_quicker v_packing_loads v_packing_looseCount v_marches_told v_marches_changeMinutes v_marches_marching v_marches_gone v_search_known v_search_countHere v_search_countThere v_search_cost v_search_most : Int32) (v_search_found : Int64) (f_bytes f_knee f_weight f_limps f_bheft f_owner f_food f_miles f_slope f_rsteps f_rkind f_ryields f_rholds f_rletters f_rstack f_dsteps f_dkind f_dyields f_dholds f_dletters f_dstack f_caps f_versions f_sharing f_pheft f_prow f_holder f_comes f_pcaps f_room f_loose f_reached f_mrow f_minutesOn f_mtired : Nat → Int32) (f_here f_there : Nat → Int64) (f_statesHere f_statesThere f_listed f_stired f_burdens f_pacesOn f_restedOn f_behindOn f_behindFor f_first f_second : Nat → Int32) (f_plans f_tiredOn : Nat → Nat → Int32) (tS : Nat) (sz : Nat) (i : Int32) (hr_mrow : rg (0) 17 f_mrow) (ha_i : 0 ≤ i.toInt ∧ i.toInt ≤ 9) : gMi l yX1_changesAt cX1_changesAt 2 .boolean 1 [.ref (hs 40), .int i] D cy (wSP cy hs hH hT sH sT v_tape_size v_band_walkers v_band_loads v_band_pieces v_rules_clauses v_reader_end v_reader_at v_reader_length v_reader_letter v_reader_fault v_draft_clauses v_paces_version v_packing_quicker v_packing_loads v_packing_looseCount v_marches_told v_marches_changeMinutes v_marches_marching v_marches_gone v_search_known v_search_countHere v_search_countThere v_search_cost v_search_most v_search_found f_bytes f_knee f_weight f_limps f_bheft f_owner f_food f_miles f_slope f_rsteps f_rkind f_ryields f_rholds f_rletters f_rstack f_dsteps f_dkind f_dyields f_dholds f_dletters f_dstack f_caps f_versions f_sharing f_pheft f_prow f_holder f_comes f_pcaps f_room f_loose f_reached f_mrow f_minutesOn f_mtired f_here f_there f_statesHere f_statesThere f_listed f_stired f_burdens f_pacesOn f_restedOn f_behindOn f_behindFor f_first f_second f_plans f_tiredOn) (NS tS) sz (fun (r : Int32) (u : Unit) => (0 ≤ r.toInt ∧ r.toInt ≤ 1)) (fun u => wSP cy hs hH hT sH sT v_tape_size v_band_walkers v_band_loads v_band_pieces v_rules_clauses v_reader_end v_reader_at v_reader_length v_reader_letter v_reader_fault v_draft_clauses v_paces_version v_packing_quicker v_packing_loads v_packing_looseCount v_marches_told v_marches_changeMinutes v_marches_marching v_marches_gone v_search_known v_search_countHere v_search_countThere v_search_cost v_search_most v_search_found f_bytes f_knee f_weight f_limps f_bheft f_owner f_food f_miles f_slope f_rsteps f_rkind f_ryields f_rholds f_rletters f_rstack f_dsteps f_dkind f_dyields f_dholds f_dletters f_dstack f_caps f_versions f_sharing f_pheft f_prow f_holder f_comes f_pcaps f_room f_loose f_reached f_mrow f_minutesOn f_mtired f_here f_there f_statesHere f_statesThere f_listed f_stired f_burdens f_pacesOn f_restedOn f_behindOn f_behindFor f_first f_second f_plans f_tiredOn) := by
  refine gMi_in (by decide) (Nat.le_of_ble_eq_true rfl) ?_
  intro p e s m args below meth c A ls Q hx hb hml hts hown hsz hP hK hD hN hAe hA hS hl hret
  subst hsz
  have hl : lv_has ls 2 [(0, .ref (hs 40)), (1, .int i)] := hl
  have hrt := fun (r : Int32)  (hp : (0 ≤ r.toInt ∧ r.toInt ≤ 1)) {H : Heap} {locs : List Loc} {pc : Nat} {ls : Array Slot} => hret r () (H := H) (locs := locs) (pc := pc) (ls := ls) hp
  clear hret
  refine lv_iload_n hx hb dX1_changesAt_0 rfl (lv_at hl 1 rfl) ?_
  refine lv_if_le (tgt := 31) hx hb dX1_changesAt_1 (by decide) (fun c_1 => ?_) (fun c_1 => ?_)
  · have gc_1 : i.toInt ≤ 0 := i_le (rfl : i.toInt = i.toInt) (by decide : (0 : Int32).toInt = 0) c_1
    refine lv_iconst (v := 0) hx hb dX1_changesAt_31 (by decide) ?_
    have k_2 : (0 : Int32).toInt = 0 := by decide
    exact hrt 0  (by omega) hP hD hS rfl dX1_changesAt_32
  · have gc_1 : 0 < i.toInt := i_nle (rfl : i.toInt = i.toInt) (by decide : (0 : Int32).toInt = 0) c_1
    refine lv_aload_n hx hb dX1_changesAt_4 rfl (lv_at hl 0 rfl) ?_
    refine gt_SP_marches_row hx hb hts hown hK hP lwd_112 dX1_changesAt_5 ?_
    refine lv_iload_n hx hb dX1_changesAt_8 rfl (lv_at hl 1 rfl) ?_
    refine al_mrow hx hb hK hP hr_mrow (i_in (rfl : i.toInt = i.toInt) (by omega) (by omega)) dX1_changesAt_9 (fun n_3 en_3 bn_3 => ?_)
    refine lv_bipush (v := 6) hx hb dX1_changesAt_10 (by decide) ?_
    refine lv_irem hx hb dX1_changesAt_12 (by decide) ?_
    refine lv_topi (fun n_4 en_4 => ?_)
    have tn_4 : n_4.toInt = n_3.toInt % 6 := i_rem en_4 (rfl : n_3.toInt = n_3.toInt) (by decide : (6 : Int32).toInt = 6) (by omega) (by omega)
    refine lv_aload_n hx hb dX1_changesAt_13 rfl (lv_at hl 0 rfl) ?_
    refine gt_SP_marches_row hx hb hts hown hK hP lwd_112 dX1_changesAt_14 ?_
    refine lv_iload_n hx hb dX1_changesAt_17 rfl (lv_at hl 1 rfl) ?_
    refine lv_iconst (v := 1) hx hb dX1_changesAt_18 (by decide) ?_
    refine lv_isub hx hb dX1_changesAt_19 ?_
    refine lv_topi (fun n_5 en_5 => ?_)
    have tn_5 : n_5.toInt = i.toInt - 1 := i_sub en_5 (rfl : i.toInt = i.toInt) (by decide : (1 : Int32).toInt = 1) (by omega) (by omega)
    refine al_mrow hx hb hK hP hr_mrow (i_in tn_5 (by omega) (by omega)) dX1_changesAt_20 (fun n_6 en_6 bn_6 => ?_)
    refine lv_bipush (v := 6) hx hb dX1_changesAt_21 (by decide) ?_
    refine lv_irem hx hb dX1_changesAt_23 (by decide) ?_
    refine lv_topi (fun n_7 en_7 => ?_)
    have tn_7 : n_7.toInt = n_6.toInt % 6 := i_rem en_7 (rfl : n_6.toInt = n_6.toInt) (by decide : (6 : Int32).toInt = 6) (by omega) (by omega)
    refine lv_icmp_eq (tgt := 31) hx hb dX1_changesAt_24 (by decide) (fun c_8 => ?_) (fun c_8 => ?_)
    · have gc_8 : n_3.toInt % 6 = n_6.toInt % 6 := i_eq tn_4 tn_7 c_8
      refine lv_iconst (v := 0) hx hb dX1_changesAt_31 (by decide) ?_
      have k_9 : (0 : Int32).toInt = 0 := by decide
      exact hrt 0  (by omega) hP hD hS rfl dX1_changesAt_32
    · have gc_8 : n_3.toInt % 6 ≠ n_6.toInt % 6 := i_ne tn_4 tn_7 c_8
      refine lv_iconst (v := 1) hx hb dX1_changesAt_27 (by decide) ?_
      refine lv_goto (tgt := 32) hx hb dX1_changesAt_28 (by decide) ?_
      have k_10 : (1 : Int32).toInt = 1 := by decide
      exact hrt 1  (by omega) hP hD hS rfl dX1_changesAt_32
set_option maxHeartbeats 16000000 in
set_option maxRecDepth 100000 in
theorem c_fill_mtired (l : Launch) (D : va_G) (cy : Nat → ClassId) (hs : Nat → Nat) (hH hT sH sT : Nat) (v_tape_size v_band_walkers v_band_loads v_band_pieces v_rules_clauses v_reader_end v_reader_at v_reader_length v_reader_letter v_reader_fault v_draft_clauses v_paces_version v_packing_quicker v_packing_loads v_packing_looseCount v_marches_told v_marches_changeMinutes v_marches_marching v_marches_gone v_search_known v_search_countHere v_search_countThere v_search_cost v_search_most : Int32) (v_search_found : Int64) (f_bytes f_knee f_weight f_limps f_bheft f_owner f_food f_miles f_slope f_rsteps f_rkind f_ryields f_rholds f_rletters f_rstack f_dsteps f_dkind f_dyields f_dholds f_dletters f_dstack f_caps f_versions f_sharing f_pheft f_prow f_holder f_comes f_pcaps f_room f_loose f_reached f_mrow f_minutesOn f_mtired : Nat → Int32) (f_here f_there : Nat → Int64) (f_statesHere f_statesThere f_listed f_stired f_burdens f_pacesOn f_restedOn f_behindOn f_behindFor f_first f_second : Nat → Int32) (f_plans f_tiredOn : Nat → Nat → Int32) (tS : Nat) (sz : Nat) (x : Int32) (hr_mtired : rg (0) 5 f_mtired) (ha_x : 0 ≤ x.toInt ∧ x.toInt ≤ 5) : gMv l yJ7_fill_53178 cJ7_fill_53178 4 1 [.ref (hs 61), .int x] D cy (wSP cy hs hH hT sH sT v_tape_size v_band_walkers v_band_loads v_band_pieces v_rules_clauses v_reader_end v_reader_at v_reader_length v_reader_letter v_reader_fault v_draft_clauses v_paces_version v_packing_quicker v_packing_loads v_packing_looseCount v_marches_told v_marches_changeMinutes v_marches_marching v_marches_gone v_search_known v_search_countHere v_search_countThere v_search_cost v_search_most v_search_found f_bytes f_knee f_weight f_limps f_bheft f_owner f_food f_miles f_slope f_rsteps f_rkind f_ryields f_rholds f_rletters f_rstack f_dsteps f_dkind f_dyields f_dholds f_dletters f_dstack f_caps f_versions f_sharing f_pheft f_prow f_holder f_comes f_pcaps f_room f_loose f_reached f_mrow f_minutesOn f_mtired f_here f_there f_statesHere f_statesThere f_listed f_stired f_burdens f_pacesOn f_restedOn f_behindOn f_behindFor f_first f_second f_plans f_tiredOn) (NS tS) sz (fun (u : (Nat → Int32)) => (rg (0) 5 u)) (fun u => wSP cy hs hH hT sH sT v_tape_size v_band_walkers v_band_loads v_band_pieces v_rules_clauses v_reader_end v_reader_at v_reader_length v_reader_letter v_reader_fault v_draft_clauses v_paces_version v_packing_quicker v_packing_loads v_packing_looseCount v_marches_told v_marches_changeMinutes v_marches_marching v_marches_gone v_search_known v_search_countHere v_search_countThere v_search_cost v_search_most v_search_found f_bytes f_knee f_weight f_limps f_bheft f_owner f_food f_miles f_slope f_rsteps f_rkind f_ryields f_rholds f_rletters f_rstack f_dsteps f_dkind f_dyields f_dholds f_dletters f_dstack f_caps f_versions f_sharing f_pheft f_prow f_holder f_comes f_pcaps f_room f_loose f_reached f_mrow f_minutesOn u f_here f_there f_statesHere f_statesThere f_listed f_stired f_burdens f_pacesOn f_restedOn f_behindOn f_behindFor f_first f_second f_plans f_tiredOn) := by
  refine gMv_in (by decide) (Nat.le_of_ble_eq_true rfl) ?_
  intro p e s m args below meth c A ls Q hx hb hml hts hown hsz hP hK hD hN hAe hA hS hl hret
  subst hsz
  have hl : lv_has ls 4 [(0, .ref (hs 61)), (1, .int x)] := hl
  have hrt := fun (f_mtired' : Nat → Int32) (hp : (rg (0) 5 f_mtired')) {H : Heap} {locs : List Loc} {pc : Nat} {ls : Array Slot} => hret f_mtired' (H := H) (locs := locs) (pc := pc) (ls := ls) hp
  clear hret
  refine lv_iconst (v := 0) hx hb dJ7_fill_53178_0 (by decide) ?_
  refine lv_istore_n (lv' := [(2, .int 0), (0, .ref (hs 61)), (1, .int x)]) hx hb dJ7_fill_53178_1 rfl hl (by decide) rfl (fun ls hl => ?_)
  refine lv_aload_n hx hb dJ7_fill_53178_2 rfl (lv_at hl 1 rfl) ?_
  refine ln_mtired hx hb hK hP dJ7_fill_53178_3 ?_
  refine lv_istore_n (lv' := [(3, .int 6), (2, .int 0), (0, .ref (hs 61)), (1, .int x)]) hx hb dJ7_fill_53178_4 rfl hl (by decide) rfl (fun ls hl => ?_)
  have L5_5 : ∀ (n : Nat) (f_3 : Nat → Int32) (l_4 : Int32), (rg (0) 5 f_3) → (0 ≤ l_4.toInt ∧ l_4.toInt ≤ 6) → 7 - l_4.toInt < n → ∀ (H : Heap) (locs : List Loc) (ls : Array Slot), va_P D vwCl (wSP cy hs hH hT sH sT v_tape_size v_band_walkers v_band_loads v_band_pieces v_rules_clauses v_reader_end v_reader_at v_reader_length v_reader_letter v_reader_fault v_draft_clauses v_paces_version v_packing_quicker v_packing_loads v_packing_looseCount v_marches_told v_marches_changeMinutes v_marches_marching v_marches_gone v_search_known v_search_countHere v_search_countThere v_search_cost v_search_most v_search_found f_bytes f_knee f_weight f_limps f_bheft f_owner f_food f_miles f_slope f_rsteps f_rkind f_ryields f_rholds f_rletters f_rstack f_dsteps f_dkind f_dyields f_dholds f_dletters f_dstack f_caps f_versions f_sharing f_pheft f_prow f_holder f_comes f_pcaps f_room f_loose f_reached f_mrow f_minutesOn f_3 f_here f_there f_statesHere f_statesThere f_listed f_stired f_burdens f_pacesOn f_restedOn f_behindOn f_behindFor f_first f_second f_plans f_tiredOn) H → va_D A (wSP cy hs hH hT sH sT v_tape_size v_band_walkers v_band_loads v_band_pieces v_rules_clauses v_reader_end v_reader_at v_reader_length v_reader_letter v_reader_fault v_draft_clauses v_paces_version v_packing_quicker v_packing_loads v_packing_looseCount v_marches_told v_marches_changeMinutes v_marches_marching v_marches_gone v_search_known v_search_countHere v_search_countThere v_search_cost v_search_most v_search_found f_bytes f_knee f_weight f_limps f_bheft f_owner f_food f_miles f_slope f_rsteps f_rkind f_ryields f_rholds f_rletters f_rstack f_dsteps f_dkind f_dyields f_dholds f_dletters f_dstack f_caps f_versions f_sharing f_pheft f_prow f_holder f_comes f_pcaps f_room f_loose f_reached f_mrow f_minutesOn f_3 f_here f_there f_statesHere f_statesThere f_listed f_stired f_burdens f_pacesOn f_restedOn f_behindOn f_behindFor f_first f_second f_plans f_tiredOn) → va_S A s.heap H locs → lv_has ls 4 [(3, .int 6), (2, .int l_4), (0, .ref (hs 61)), (1, .int x)] → W p l e (gRm 1) s m args below meth c H locs 0 0 Q (F0 m 5 ls []) := by
    intro n
    induction n with
    | zero => intro f_3 l_4 hL5_5_0 hL5_5_1 hm; exact absurd hm (by omega)
    | succ n ih5_5 =>
      intro f_3 l_4 hL5_5_0 hL5_5_1 hmL5_5 H locs ls hP hD hS hl
      refine lv_iload_n hx hb dJ7_fill_53178_5 rfl (lv_at hl 1 rfl) ?_
      refine lv_iload_n hx hb dJ7_fill_53178_6 rfl (lv_at hl 0 rfl) ?_
      refine lv_icmp_ge (tgt := 20) hx hb dJ7_fill_53178_7 (by decide) (fun c_6 => ?_) (fun c_6 => ?_)
      · have gc_6 : 6 ≤ l_4.toInt := i_le (by decide : (6 : Int32).toInt = 6) (rfl : l_4.toInt = l_4.toInt) c_6
        exact hrt f_3 hL5_5_0 hP hD hS dJ7_fill_53178_20
      · have gc_6 : l_4.toInt < 6 := i_nle (by decide : (6 : Int32).toInt = 6) (rfl : l_4.toInt = l_4.toInt) c_6
        refine lv_aload_n hx hb dJ7_fill_53178_10 rfl (lv_at hl 2 rfl) ?_
        refine lv_iload_n hx hb dJ7_fill_53178_11 rfl (lv_at hl 1 rfl) ?_
        refine lv_iload_n hx hb dJ7_fill_53178_12 rfl (lv_at hl 3 rfl) ?_
        refine as_mtired (x := x) hx hb hK hP hD hS hL5_5_0 (i_in (rfl : l_4.toInt = l_4.toInt) (by omega) (by omega)) (by omega) dJ7_fill_53178_13 (fun f_7 ef_7 rf_7 H locs hP hD hS => ?_)
        obtain ⟨n_8, en_8⟩ : ∃ y : Int32, y = l_4 + 1 := ⟨_, rfl⟩
        have tn_8 : n_8.toInt = l_4.toInt + 1 := i_add en_8 (rfl : l_4.toInt = l_4.toInt) (by decide : (1 : Int32).toInt = 1) (by omega) (by omega)
        refine lv_iinc (v := n_8) (lv' := [(2, .int n_8), (3, .int 6), (0, .ref (hs 61)), (1, .int x)]) hx hb dJ7_fill_53178_14 hl (k := 1) rfl (by rw [en_8]; rfl) (by decide) rfl (fun ls hl => ?_)
        refine lv_goto (tgt := 5) hx hb dJ7_fill_53178_17 (by decide) ?_
        exact ih5_5 f_7 n_8 rf_7 (by omega) (by omega) _ _ _ hP hD hS (lv_sub hl [1, 0, 2, 3] rfl)
  have k_9 : (0 : Int32).toInt = 0 := by decide
  exact L5_5 8589934592 f_mtired 0 hr_mtired (by omega) (by omega) _ _ _ hP hD hS (lv_sub hl [0, 1, 2, 3] rfl)
set_option maxHeartbeats 16000000 in
set_option maxRecDepth 100000 in
theorem c_fill_pacesOn (l : Launch) (D : va_G) (cy : Nat → ClassId) (hs : Nat → Nat) (hH hT sH sT : Nat) (v_tape_size v_band_walkers v_band_loads v_band_pieces v_rules_clauses v_reader_end v_reader_at v_reader_length v_reader_letter v_reader_fault v_draft_clauses v_paces_version v_packing_quicker v_packing_loads v_packing_looseCount v_marches_told v_marches_changeMinutes v_marches_marching v_marches_gone v_search_known v_search_countHere v_search_countThere v_search_cost v_search_most : Int32) (v_search_found : Int64) (f_bytes f_knee f_weight f_limps f_bheft f_owner f_food f_miles f_slope f_rsteps f_rkind f_ryields f_rholds f_rletters f_rstack f_dsteps f_dkind f_dyields f_dholds f_dletters f_dstack f_caps f_versions f_sharing f_pheft f_prow f_holder f_comes f_pcaps f_room f_loose f_reached f_mrow f_minutesOn f_mtired : Nat → Int32) (f_here f_there : Nat → Int64) (f_statesHere f_statesThere f_listed f_stired f_burdens f_pacesOn f_restedOn f_behindOn f_behindFor f_first f_second : Nat → Int32) (f_plans f_tiredOn : Nat → Nat → Int32) (tS : Nat) (sz : Nat) (x : Int32) (hr_pacesOn : rg (-1) 60 f_pacesOn) (ha_x : -1 ≤ x.toInt ∧ x.toInt ≤ 60) : gMv l yJ7_fill_53178 cJ7_fill_53178 4 1 [.ref (hs 70), .int x] D cy (wSP cy hs hH hT sH sT v_tape_size v_band_walkers v_band_loads v_band_pieces v_rules_clauses v_reader_end v_reader_at v_reader_length v_reader_letter v_reader_fault v_draft_clauses v_paces_version v_packing_quicker v_packing_loads v_packing_looseCount v_marches_told v_marches_changeMinutes v_marches_marching v_marches_gone v_search_known v_search_countHere v_search_countThere v_search_cost v_search_most v_search_found f_bytes f_knee f_weight f_limps f_bheft f_owner f_food f_miles f_slope f_rsteps f_rkind f_ryields f_rholds f_rletters f_rstack f_dsteps f_dkind f_dyields f_dholds f_dletters f_dstack f_caps f_versions f_sharing f_pheft f_prow f_holder f_comes f_pcaps f_room f_loose f_reached f_mrow f_minutesOn f_mtired f_here f_there f_statesHere f_statesThere f_listed f_stired f_burdens f_pacesOn f_restedOn f_behindOn f_behindFor f_first f_second f_plans f_tiredOn) (NS tS) sz (fun (u : (Nat → Int32)) => (rg (-1) 60 u)) (fun u => wSP cy hs hH hT sH sT v_tape_size v_band_walkers v_band_loads v_band_pieces v_rules_clauses v_reader_end v_reader_at v_reader_length v_reader_letter v_reader_fault v_draft_clauses v_paces_version v_packing_quicker v_packing_loads v_packing_looseCount v_marches_told v_marches_changeMinutes v_marches_marching v_marches_gone v_search_known v_search_countHere v_search_countThere v_search_cost v_search_most v_search_found f_bytes f_knee f_weight f_limps f_bheft f_owner f_food f_miles f_slope f_rsteps f_rkind f_ryields f_rholds f_rletters f_rstack f_dsteps f_dkind f_dyields f_dholds f_dletters f_dstack f_caps f_versions f_sharing f_pheft f_prow f_holder f_comes f_pcaps f_room f_loose f_reached f_mrow f_minutesOn f_mtired f_here f_there f_statesHere f_statesThere f_listed f_stired f_burdens u f_restedOn f_behindOn f_behindFor f_first f_second f_plans f_tiredOn) := by
  refine gMv_in (by decide) (Nat.le_of_ble_eq_true rfl) ?_
  intro p e s m args below meth c A ls Q hx hb hml hts hown hsz hP hK hD hN hAe hA hS hl hret
  subst hsz
  have hl : lv_has ls 4 [(0, .ref (hs 70)), (1, .int x)] := hl
  have hrt := fun (f_pacesOn' : Nat → Int32) (hp : (rg (-1) 60 f_pacesOn')) {H : Heap} {locs : List Loc} {pc : Nat} {ls : Array Slot} => hret f_pacesOn' (H := H) (locs := locs) (pc := pc) (ls := ls) hp
  clear hret
  refine lv_iconst (v := 0) hx hb dJ7_fill_53178_0 (by decide) ?_
  refine lv_istore_n (lv' := [(2, .int 0), (0, .ref (hs 70)), (1, .int x)]) hx hb dJ7_fill_53178_1 rfl hl (by decide) rfl (fun ls hl => ?_)
  refine lv_aload_n hx hb dJ7_fill_53178_2 rfl (lv_at hl 1 rfl) ?_
  refine ln_pacesOn hx hb hK hP dJ7_fill_53178_3 ?_
  refine lv_istore_n (lv' := [(3, .int 144), (2, .int 0), (0, .ref (hs 70)), (1, .int x)]) hx hb dJ7_fill_53178_4 rfl hl (by decide) rfl (fun ls hl => ?_)
  have L5_5 : ∀ (n : Nat) (f_3 : Nat → Int32) (l_4 : Int32), (rg (-1) 60 f_3) → (0 ≤ l_4.toInt ∧ l_4.toInt ≤ 144) → 145 - l_4.toInt < n → ∀ (H : Heap) (locs : List Loc) (ls : Array Slot), va_P D vwCl (wSP cy hs hH hT sH sT v_tape_size v_band_walkers v_band_loads v_band_pieces v_rules_clauses v_reader_end v_reader_at v_reader_length v_reader_letter v_reader_fault v_draft_clauses v_paces_version v_packing_quicker v_packing_loads v_packing_looseCount v_marches_told v_marches_changeMinutes v_marches_marching v_marches_gone v_search_known v_search_countHere v_search_countThere v_search_cost v_search_most v_search_found f_bytes f_knee f_weight f_limps f_bheft f_owner f_food f_miles f_slope f_rsteps f_rkind f_ryields f_rholds f_rletters f_rstack f_dsteps f_dkind f_dyields f_dholds f_dletters f_dstack f_caps f_versions f_sharing f_pheft f_prow f_holder f_comes f_pcaps f_room f_loose f_reached f_mrow f_minutesOn f_mtired f_here f_there f_statesHere f_statesThere f_listed f_stired f_burdens f_3 f_restedOn f_behindOn f_behindFor f_first f_second f_plans f_tiredOn) H → va_D A (wSP cy hs hH hT sH sT v_tape_size v_band_walkers v_band_loads v_band_pieces v_rules_clauses v_reader_end v_reader_at v_reader_length v_reader_letter v_reader_fault v_draft_clauses v_paces_version v_packing_quicker v_packing_loads v_packing_looseCount v_marches_told v_marches_changeMinutes v_marches_marching v_marches_gone v_search_known v_search_countHere v_search_countThere v_search_cost v_search_most v_search_found f_bytes f_knee f_weight f_limps f_bheft f_owner f_food f_miles f_slope f_rsteps f_rkind f_ryields f_rholds f_rletters f_rstack f_dsteps f_dkind f_dyields f_dholds f_dletters f_dstack f_caps f_versions f_sharing f_pheft f_prow f_holder f_comes f_pcaps f_room f_loose f_reached f_mrow f_minutesOn f_mtired f_here f_there f_statesHere f_statesThere f_listed f_stired f_burdens f_3 f_restedOn f_behindOn f_behindFor f_first f_second f_plans f_tiredOn) → va_S A s.heap H locs → lv_has ls 4 [(3, .int 144), (2, .int l_4), (0, .ref (hs 70)), (1, .int x)] → W p l e (gRm 1) s m args below meth c H locs 0 0 Q (F0 m 5 ls []) := by
    intro n
    induction n with
    | zero => intro f_3 l_4 hL5_5_0 hL5_5_1 hm; exact absurd hm (by omega)
    | succ n ih5_5 =>
      intro f_3 l_4 hL5_5_0 hL5_5_1 hmL5_5 H locs ls hP hD hS hl
      refine lv_iload_n hx hb dJ7_fill_53178_5 rfl (lv_at hl 1 rfl) ?_
      refine lv_iload_n hx hb dJ7_fill_53178_6 rfl (lv_at hl 0 rfl) ?_
      refine lv_icmp_ge (tgt := 20) hx hb dJ7_fill_53178_7 (by decide) (fun c_6 => ?_) (fun c_6 => ?_)
      · have gc_6 : 144 ≤ l_4.toInt := i_le (by decide : (144 : Int32).toInt = 144) (rfl : l_4.toInt = l_4.toInt) c_6
        exact hrt f_3 hL5_5_0 hP hD hS dJ7_fill_53178_20
      · have gc_6 : l_4.toInt < 144 := i_nle (by decide : (144 : Int32).toInt = 144) (rfl : l_4.toInt = l_4.toInt) c_6
        refine lv_aload_n hx hb dJ7_fill_53178_10 rfl (lv_at hl 2 rfl) ?_
        refine lv_iload_n hx hb dJ7_fill_53178_11 rfl (lv_at hl 1 rfl) ?_
        refine lv_iload_n hx hb dJ7_fill_53178_12 rfl (lv_at hl 3 rfl) ?_
        refine as_pacesOn (x := x) hx hb hK hP hD hS hL5_5_0 (i_in (rfl : l_4.toInt = l_4.toInt) (by omega) (by omega)) (by omega) dJ7_fill_53178_13 (fun f_7 ef_7 rf_7 H locs hP hD hS => ?_)
        obtain ⟨n_8, en_8⟩ : ∃ y : Int32, y = l_4 + 1 := ⟨_, rfl⟩
        have tn_8 : n_8.toInt = l_4.toInt + 1 := i_add en_8 (rfl : l_4.toInt = l_4.toInt) (by decide : (1 : Int32).toInt = 1) (by omega) (by omega)
        refine lv_iinc (v := n_8) (lv' := [(2, .int n_8), (3, .int 144), (0, .ref (hs 70)), (1, .int x)]) hx hb dJ7_fill_53178_14 hl (k := 1) rfl (by rw [en_8]; rfl) (by decide) rfl (fun ls hl => ?_)
        refine lv_goto (tgt := 5) hx hb dJ7_fill_53178_17 (by decide) ?_
        exact ih5_5 f_7 n_8 rf_7 (by omega) (by omega) _ _ _ hP hD hS (lv_sub hl [1, 0, 2, 3] rfl)
  have k_9 : (0 : Int32).toInt = 0 := by decide
  exact L5_5 8589934592 f_pacesOn 0 hr_pacesOn (by omega) (by omega) _ _ _ hP hD hS (lv_sub hl [0, 1, 2, 3] rfl)
set_option maxHeartbeats 16000000 in
set_option maxRecDepth 100000 in
theorem c_fill_restedOn (l : Launch) (D : va_G) (cy : Nat → ClassId) (hs : Nat → Nat) (hH hT sH sT : Nat) (v_tape_size v_band_walkers v_band_loads v_band_pieces v_rules_clauses v_reader_end v_reader_at v_reader_length v_reader_letter v_reader_fault v_draft_clauses v_paces_version v_packing_quicker v_packing_loads v_packing_looseCount v_marches_told v_marches_changeMinutes v_marches_marching v_marches_gone v_search_known v_search_countHere v_search_countThere v_search_cost v_search_most : Int32) (v_search_found : Int64) (f_bytes f_knee f_weight f_limps f_bheft f_owner f_food f_miles f_slope f_rsteps f_rkind f_ryields f_rholds f_rletters f_rstack f_dsteps f_dkind f_dyields f_dholds f_dletters f_dstack f_caps f_versions f_sharing f_pheft f_prow f_holder f_comes f_pcaps f_room f_loose f_reached f_mrow f_minutesOn f_mtired : Nat → Int32) (f_here f_there : Nat → Int64) (f_statesHere f_statesThere f_listed f_stired f_burdens f_pacesOn f_restedOn f_behindOn f_behindFor f_first f_second : Nat → Int32) (f_plans f_tiredOn : Nat → Nat → Int32) (tS : Nat) (sz : Nat) (x : Int32) (hr_restedOn : rg (-1) 5 f_restedOn) (ha_x : -1 ≤ x.toInt ∧ x.toInt ≤ 5) : gMv l yJ7_fill_53178 cJ7_fill_53178 4 1 [.ref (hs 71), .int x] D cy (wSP cy hs hH hT sH sT v_tape_size v_band_walkers v_band_loads v_band_pieces v_rules_clauses v_reader_end v_reader_at v_reader_length v_reader_letter v_reader_fault v_draft_clauses v_paces_version v_packing_quicker v_packing_loads v_packing_looseCount v_marches_told v_marches_changeMinutes v_marches_marching v_marches_gone v_search_known v_search_countHere v_search_countThere v_search_cost v_search_most v_search_found f_bytes f_knee f_weight f_limps f_bheft f_owner f_food f_miles f_slope f_rsteps f_rkind f_ryields f_rholds f_rletters f_rstack f_dsteps f_dkind f_dyields f_dholds f_dletters f_dstack f_caps f_versions f_sharing f_pheft f_prow f_holder f_comes f_pcaps f_room f_loose f_reached f_mrow f_minutesOn f_mtired f_here f_there f_statesHere f_statesThere f_listed f_stired f_burdens f_pacesOn f_restedOn f_behindOn f_behindFor f_first f_second f_plans f_tiredOn) (NS tS) sz (fun (u : (Nat → Int32)) => (rg (-1) 5 u)) (fun u => wSP cy hs hH hT sH sT v_tape_size v_band_walkers v_band_loads v_band_pieces v_rules_clauses v_reader_end v_reader_at v_reader_length v_reader_letter v_reader_fault v_draft_clauses v_paces_version v_packing_quicker v_packing_loads v_packing_looseCount v_marches_told v_marches_changeMinutes v_marches_marching v_marches_gone v_search_known v_search_countHere v_search_countThere v_search_cost v_search_most v_search_found f_bytes f_knee f_weight f_limps f_bheft f_owner f_food f_miles f_slope f_rsteps f_rkind f_ryields f_rholds f_rletters f_rstack f_dsteps f_dkind f_dyields f_dholds f_dletters f_dstack f_caps f_versions f_sharing f_pheft f_prow f_holder f_comes f_pcaps f_room f_loose f_reached f_mrow f_minutesOn f_mtired f_here f_there f_statesHere f_statesThere f_listed f_stired f_burdens f_pacesOn u f_behindOn f_behindFor f_first f_second f_plans f_tiredOn) := by
  refine gMv_in (by decide) (Nat.le_of_ble_eq_true rfl) ?_
  intro p e s m args below meth c A ls Q hx hb hml hts hown hsz hP hK hD hN hAe hA hS hl hret
  subst hsz
  have hl : lv_has ls 4 [(0, .ref (hs 71)), (1, .int x)] := hl
  have hrt := fun (f_restedOn' : Nat → Int32) (hp : (rg (-1) 5 f_restedOn')) {H : Heap} {locs : List Loc} {pc : Nat} {ls : Array Slot} => hret f_restedOn' (H := H) (locs := locs) (pc := pc) (ls := ls) hp
  clear hret
  refine lv_iconst (v := 0) hx hb dJ7_fill_53178_0 (by decide) ?_
  refine lv_istore_n (lv' := [(2, .int 0), (0, .ref (hs 71)), (1, .int x)]) hx hb dJ7_fill_53178_1 rfl hl (by decide) rfl (fun ls hl => ?_)
  refine lv_aload_n hx hb dJ7_fill_53178_2 rfl (lv_at hl 1 rfl) ?_
  refine ln_restedOn hx hb hK hP dJ7_fill_53178_3 ?_
  refine lv_istore_n (lv' := [(3, .int 24), (2, .int 0), (0, .ref (hs 71)), (1, .int x)]) hx hb dJ7_fill_53178_4 rfl hl (by decide) rfl (fun ls hl => ?_)
  have L5_5 : ∀ (n : Nat) (f_3 : Nat → Int32) (l_4 : Int32), (rg (-1) 5 f_3) → (0 ≤ l_4.toInt ∧ l_4.toInt ≤ 24) → 25 - l_4.toInt < n → ∀ (H : Heap) (locs : List Loc) (ls : Array Slot), va_P D vwCl (wSP cy hs hH hT sH sT v_tape_size v_band_walkers v_band_loads v_band_pieces v_rules_clauses v_reader_end v_reader_at v_reader_length v_reader_letter v_reader_fault v_draft_clauses v_paces_version v_packing_quicker v_packing_loads v_packing_looseCount v_marches_told v_marches_changeMinutes v_marches_marching v_marches_gone v_search_known v_search_countHere v_search_countThere v_search_cost v_search_most v_search_found f_bytes f_knee f_weight f_limps f_bheft f_owner f_food f_miles f_slope f_rsteps f_rkind f_ryields f_rholds f_rletters f_rstack f_dsteps f_dkind f_dyields f_dholds f_dletters f_dstack f_caps f_versions f_sharing f_pheft f_prow f_holder f_comes f_pcaps f_room f_loose f_reached f_mrow f_minutesOn f_mtired f_here f_there f_statesHere f_statesThere f_listed f_stired f_burdens f_pacesOn f_3 f_behindOn f_behindFor f_first f_second f_plans f_tiredOn) H → va_D A (wSP cy hs hH hT sH sT v_tape_size v_band_walkers v_band_loads v_band_pieces v_rules_clauses v_reader_end v_reader_at v_reader_length v_reader_letter v_reader_fault v_draft_clauses v_paces_version v_packing_quicker v_packing_loads v_packing_looseCount v_marches_told v_marches_changeMinutes v_marches_marching v_marches_gone v_search_known v_search_countHere v_search_countThere v_search_cost v_search_most v_search_found f_bytes f_knee f_weight f_limps f_bheft f_owner f_food f_miles f_slope f_rsteps f_rkind f_ryields f_rholds f_rletters f_rstack f_dsteps f_dkind f_dyields f_dholds f_dletters f_dstack f_caps f_versions f_sharing f_pheft f_prow f_holder f_comes f_pcaps f_room f_loose f_reached f_mrow f_minutesOn f_mtired f_here f_there f_statesHere f_statesThere f_listed f_stired f_burdens f_pacesOn f_3 f_behindOn f_behindFor f_first f_second f_plans f_tiredOn) → va_S A s.heap H locs → lv_has ls 4 [(3, .int 24), (2, .int l_4), (0, .ref (hs 71)), (1, .int x)] → W p l e (gRm 1) s m args below meth c H locs 0 0 Q (F0 m 5 ls []) := by
    intro n
    induction n with
    | zero => intro f_3 l_4 hL5_5_0 hL5_5_1 hm; exact absurd hm (by omega)
    | succ n ih5_5 =>
      intro f_3 l_4 hL5_5_0 hL5_5_1 hmL5_5 H locs ls hP hD hS hl
      refine lv_iload_n hx hb dJ7_fill_53178_5 rfl (lv_at hl 1 rfl) ?_
      refine lv_iload_n hx hb dJ7_fill_53178_6 rfl (lv_at hl 0 rfl) ?_
      refine lv_icmp_ge (tgt := 20) hx hb dJ7_fill_53178_7 (by decide) (fun c_6 => ?_) (fun c_6 => ?_)
      · have gc_6 : 24 ≤ l_4.toInt := i_le (by decide : (24 : Int32).toInt = 24) (rfl : l_4.toInt = l_4.toInt) c_6
        exact hrt f_3 hL5_5_0 hP hD hS dJ7_fill_53178_20
      · have gc_6 : l_4.toInt < 24 := i_nle (by decide : (24 : Int32).toInt = 24) (rfl : l_4.toInt = l_4.toInt) c_6
        refine lv_aload_n hx hb dJ7_fill_53178_10 rfl (lv_at hl 2 rfl) ?_
        refine lv_iload_n hx hb dJ7_fill_53178_11 rfl (lv_at hl 1 rfl) ?_
        refine lv_iload_n hx hb dJ7_fill_53178_12 rfl (lv_at hl 3 rfl) ?_
        refine as_restedOn (x := x) hx hb hK hP hD hS hL5_5_0 (i_in (rfl : l_4.toInt = l_4.toInt) (by omega) (by omega)) (by omega) dJ7_fill_53178_13 (fun f_7 ef_7 rf_7 H locs hP hD hS => ?_)
        obtain ⟨n_8, en_8⟩ : ∃ y : Int32, y = l_4 + 1 := ⟨_, rfl⟩
        have tn_8 : n_8.toInt = l_4.toInt + 1 := i_add en_8 (rfl : l_4.toInt = l_4.toInt) (by decide : (1 : Int32).toInt = 1) (by omega) (by omega)
        refine lv_iinc (v := n_8) (lv' := [(2, .int n_8), (3, .int 24), (0, .ref (hs 71)), (1, .int x)]) hx hb dJ7_fill_53178_14 hl (k := 1) rfl (by rw [en_8]; rfl) (by decide) rfl (fun ls hl => ?_)
        refine lv_goto (tgt := 5) hx hb dJ7_fill_53178_17 (by decide) ?_
        exact ih5_5 f_7 n_8 rf_7 (by omega) (by omega) _ _ _ hP hD hS (lv_sub hl [1, 0, 2, 3] rfl)
  have k_9 : (0 : Int32).toInt = 0 := by decide
  exact L5_5 8589934592 f_restedOn 0 hr_restedOn (by omega) (by omega) _ _ _ hP hD hS (lv_sub hl [0, 1, 2, 3] rfl)
set_option maxHeartbeats 16000000 in
set_option maxRecDepth 100000 in
theorem c_fill_behindFor (l : Launch) (D : va_G) (cy : Nat → ClassId) (hs : Nat → Nat) (hH hT sH sT : Nat) (v_tape_size v_band_walkers v_band_loads v_band_pieces v_rules_clauses v_reader_end v_reader_at v_reader_length v_reader_letter v_reader_fault v_draft_clauses v_paces_version v_packing_quicker v_packing_loads v_packing_looseCount v_marches_told v_marches_changeMinutes v_marches_marching v_marches_gone v_search_known v_search_countHere v_search_countThere v_search_cost v_search_most : Int32) (v_search_found : Int64) (f_bytes f_knee f_weight f_limps f_bheft f_owner f_food f_miles f_slope f_rsteps f_rkind f_ryields f_rholds f_rletters f_rstack f_dsteps f_dkind f_dyields f_dholds f_dletters f_dstack f_caps f_versions f_sharing f_pheft f_prow f_holder f_comes f_pcaps f_room f_loose f_reached f_mrow f_minutesOn f_mtired : Nat → Int32) (f_here f_there : Nat → Int64) (f_statesHere f_statesThere f_listed f_stired f_burdens f_pacesOn f_restedOn f_behindOn f_behindFor f_first f_second : Nat → Int32) (f_plans f_tiredOn : Nat → Nat → Int32) (tS : Nat) (sz : Nat) (x : Int32) : gMv l yJ7_fill_53178 cJ7_fill_53178 4 1 [.ref (hs 73), .int x] D cy (wSP cy hs hH hT sH sT v_tape_size v_band_walkers v_band_loads v_band_pieces v_rules_clauses v_reader_end v_reader_at v_reader_length v_reader_letter v_reader_fault v_draft_clauses v_paces_version v_packing_quicker v_packing_loads v_packing_looseCount v_marches_told v_marches_changeMinutes v_marches_marching v_marches_gone v_search_known v_search_countHere v_search_countThere v_search_cost v_search_most v_search_found f_bytes f_knee f_weight f_limps f_bheft f_owner f_food f_miles f_slope f_rsteps f_rkind f_ryields f_rholds f_rletters f_rstack f_dsteps f_dkind f_dyields f_dholds f_dletters f_dstack f_caps f_versions f_sharing f_pheft f_prow f_holder f_comes f_pcaps f_room f_loose f_reached f_mrow f_minutesOn f_mtired f_here f_there f_statesHere f_statesThere f_listed f_stired f_burdens f_pacesOn f_restedOn f_behindOn f_behindFor f_first f_second f_plans f_tiredOn) (NS tS) sz (fun (u : (Nat → Int32)) => True) (fun u => wSP cy hs hH hT sH sT v_tape_size v_band_walkers v_band_loads v_band_pieces v_rules_clauses v_reader_end v_reader_at v_reader_length v_reader_letter v_reader_fault v_draft_clauses v_paces_version v_packing_quicker v_packing_loads v_packing_looseCount v_marches_told v_marches_changeMinutes v_marches_marching v_marches_gone v_search_known v_search_countHere v_search_countThere v_search_cost v_search_most v_search_found f_bytes f_knee f_weight f_limps f_bheft f_owner f_food f_miles f_slope f_rsteps f_rkind f_ryields f_rholds f_rletters f_rstack f_dsteps f_dkind f_dyields f_dholds f_dletters f_dstack f_caps f_versions f_sharing f_pheft f_prow f_holder f_comes f_pcaps f_room f_loose f_reached f_mrow f_minutesOn f_mtired f_here f_there f_statesHere f_statesThere f_listed f_stired f_burdens f_pacesOn f_restedOn f_behindOn u f_first f_second f_plans f_tiredOn) := by
  refine gMv_in (by decide) (Nat.le_of_ble_eq_true rfl) ?_
  intro p e s m args below meth c A ls Q hx hb hml hts hown hsz hP hK hD hN hAe hA hS hl hret
  subst hsz
  have hl : lv_has ls 4 [(0, .ref (hs 73)), (1, .int x)] := hl
  have hrt := fun (f_behindFor' : Nat → Int32)  {H : Heap} {locs : List Loc} {pc : Nat} {ls : Array Slot} => hret f_behindFor' (H := H) (locs := locs) (pc := pc) (ls := ls) trivial
  clear hret
  refine lv_iconst (v := 0) hx hb dJ7_fill_53178_0 (by decide) ?_
  refine lv_istore_n (lv' := [(2, .int 0), (0, .ref (hs 73)), (1, .int x)]) hx hb dJ7_fill_53178_1 rfl hl (by decide) rfl (fun ls hl => ?_)
  refine lv_aload_n hx hb dJ7_fill_53178_2 rfl (lv_at hl 1 rfl) ?_
  refine ln_behindFor hx hb hK hP dJ7_fill_53178_3 ?_
  refine lv_istore_n (lv' := [(3, .int 144), (2, .int 0), (0, .ref (hs 73)), (1, .int x)]) hx hb dJ7_fill_53178_4 rfl hl (by decide) rfl (fun ls hl => ?_)
  have L5_5 : ∀ (n : Nat) (f_3 : Nat → Int32) (l_4 : Int32), (0 ≤ l_4.toInt ∧ l_4.toInt ≤ 144) → 145 - l_4.toInt < n → ∀ (H : Heap) (locs : List Loc) (ls : Array Slot), va_P D vwCl (wSP cy hs hH hT sH sT v_tape_size v_band_walkers v_band_loads v_band_pieces v_rules_clauses v_reader_end v_reader_at v_reader_length v_reader_letter v_reader_fault v_draft_clauses v_paces_version v_packing_quicker v_packing_loads v_packing_looseCount v_marches_told v_marches_changeMinutes v_marches_marching v_marches_gone v_search_known v_search_countHere v_search_countThere v_search_cost v_search_most v_search_found f_bytes f_knee f_weight f_limps f_bheft f_owner f_food f_miles f_slope f_rsteps f_rkind f_ryields f_rholds f_rletters f_rstack f_dsteps f_dkind f_dyields f_dholds f_dletters f_dstack f_caps f_versions f_sharing f_pheft f_prow f_holder f_comes f_pcaps f_room f_loose f_reached f_mrow f_minutesOn f_mtired f_here f_there f_statesHere f_statesThere f_listed f_stired f_burdens f_pacesOn f_restedOn f_behindOn f_3 f_first f_second f_plans f_tiredOn) H → va_D A (wSP cy hs hH hT sH sT v_tape_size v_band_walkers v_band_loads v_band_pieces v_rules_clauses v_reader_end v_reader_at v_reader_length v_reader_letter v_reader_fault v_draft_clauses v_paces_version v_packing_quicker v_packing_loads v_packing_looseCount v_marches_told v_marches_changeMinutes v_marches_marching v_marches_gone v_search_known v_search_countHere v_search_countThere v_search_cost v_search_most v_search_found f_bytes f_knee f_weight f_limps f_bheft f_owner f_food f_miles f_slope f_rsteps f_rkind f_ryields f_rholds f_rletters f_rstack f_dsteps f_dkind f_dyields f_dholds f_dletters f_dstack f_caps f_versions f_sharing f_pheft f_prow f_holder f_comes f_pcaps f_room f_loose f_reached f_mrow f_minutesOn f_mtired f_here f_there f_statesHere f_statesThere f_listed f_stired f_burdens f_pacesOn f_restedOn f_behindOn f_3 f_first f_second f_plans f_tiredOn) → va_S A s.heap H locs → lv_has ls 4 [(3, .int 144), (2, .int l_4), (0, .ref (hs 73)), (1, .int x)] → W p l e (gRm 1) s m args below meth c H locs 0 0 Q (F0 m 5 ls []) := by
    intro n
    induction n with
    | zero => intro f_3 l_4 hL5_5_0 hm; exact absurd hm (by omega)
    | succ n ih5_5 =>
      intro f_3 l_4 hL5_5_0 hmL5_5 H locs ls hP hD hS hl
      refine lv_iload_n hx hb dJ7_fill_53178_5 rfl (lv_at hl 1 rfl) ?_
      refine lv_iload_n hx hb dJ7_fill_53178_6 rfl (lv_at hl 0 rfl) ?_
      refine lv_icmp_ge (tgt := 20) hx hb dJ7_fill_53178_7 (by decide) (fun c_6 => ?_) (fun c_6 => ?_)
      · have gc_6 : 144 ≤ l_4.toInt := i_le (by decide : (144 : Int32).toInt = 144) (rfl : l_4.toInt = l_4.toInt) c_6
        exact hrt f_3  hP hD hS dJ7_fill_53178_20
      · have gc_6 : l_4.toInt < 144 := i_nle (by decide : (144 : Int32).toInt = 144) (rfl : l_4.toInt = l_4.toInt) c_6
        refine lv_aload_n hx hb dJ7_fill_53178_10 rfl (lv_at hl 2 rfl) ?_
        refine lv_iload_n hx hb dJ7_fill_53178_11 rfl (lv_at hl 1 rfl) ?_
        refine lv_iload_n hx hb dJ7_fill_53178_12 rfl (lv_at hl 3 rfl) ?_
        refine as_behindFor (x := x) hx hb hK hP hD hS (i_in (rfl : l_4.toInt = l_4.toInt) (by omega) (by omega)) dJ7_fill_53178_13 (fun f_7 ef_7 H locs hP hD hS => ?_)
        obtain ⟨n_8, en_8⟩ : ∃ y : Int32, y = l_4 + 1 := ⟨_, rfl⟩
        have tn_8 : n_8.toInt = l_4.toInt + 1 := i_add en_8 (rfl : l_4.toInt = l_4.toInt) (by decide : (1 : Int32).toInt = 1) (by omega) (by omega)
        refine lv_iinc (v := n_8) (lv' := [(2, .int n_8), (3, .int 144), (0, .ref (hs 73)), (1, .int x)]) hx hb dJ7_fill_53178_14 hl (k := 1) rfl (by rw [en_8]; rfl) (by decide) rfl (fun ls hl => ?_)
        refine lv_goto (tgt := 5) hx hb dJ7_fill_53178_17 (by decide) ?_
        exact ih5_5 f_7 n_8 (by omega) (by omega) _ _ _ hP hD hS (lv_sub hl [1, 0, 2, 3] rfl)
  have k_9 : (0 : Int32).toInt = 0 := by decide
  exact L5_5 8589934592 f_behindFor 0 (by omega) (by omega) _ _ _ hP hD hS (lv_sub hl [0, 1, 2, 3] rfl)
set_option maxHeartbeats 16000000 in
set_option maxRecDepth 100000 in
theorem c_X1_restedPace (l : Launch) (D : va_G) (cy : Nat → ClassId) (hs : Nat → Nat) (hH hT sH sT : Nat) (v_tape_size v_band_walkers v_band_loads v_band_pieces v_rules_clauses v_reader_end v_reader_at v_reader_length v_reader_letter v_reader_fault v_draft_clauses v_paces_version v_packing_quicker v_packing_loads v_packing_looseCount v_marches_told v_marches_changeMinutes v_marches_marching v_marches_gone v_search_known v_search_countHere v_search_countThere v_search_cost v_search_most : Int32) (v_search_found : Int64) (f_bytes f_knee f_weight f_limps f_bheft f_owner f_food f_miles f_slope f_rsteps f_rkind f_ryields f_rholds f_rletters f_rstack f_dsteps f_dkind f_dyields f_dholds f_dletters f_dstack f_caps f_versions f_sharing f_pheft f_prow f_holder f_comes f_pcaps f_room f_loose f_reached f_mrow f_minutesOn f_mtired : Nat → Int32) (f_here f_there : Nat → Int64) (f_statesHere f_statesThere f_listed f_stired f_burdens f_pacesOn f_restedOn f_behindOn f_behindFor f_first f_second : Nat → Int32) (f_plans f_tiredOn : Nat → Nat → Int32) (tS : Nat) (sz : Nat) (i : Int32) (hb_v_band_walkers : 0 ≤ v_band_walkers.toInt ∧ v_band_walkers.toInt ≤ 6) (hb_v_band_loads : 0 ≤ v_band_loads.toInt ∧ v_band_loads.toInt ≤ 9) (hb_v_rules_clauses : 0 ≤ v_rules_clauses.toInt ∧ v_rules_clauses.toInt ≤ 14) (hr_weight : rg (0) 250 f_weight) (hr_limps : rg (0) 1 f_limps) (hr_bheft : rg (0) 120 f_bheft) (hr_food : rg (0) 20 f_food) (hr_miles : rg (0) 20 f_miles) (hr_mrow : rg (0) 17 f_mrow) (hr_mtired : rg (0) 5 f_mtired) (hr_tiredOn : rg2 (0) 5 f_tiredOn) (ha_i : 0 ≤ i.toInt ∧ i.toInt ≤ 9) : gMi l yX1_restedPace cX1_restedPace 7 .int 4 [.ref (hs 40), .int i] D cy (wSP cy hs hH hT sH sT v_tape_size v_band_walkers v_band_loads v_band_pieces v_rules_clauses v_reader_end v_reader_at v_reader_length v_reader_letter v_reader_fault v_draft_clauses v_paces_version v_packing_quicker v_packing_loads v_packing_looseCount v_marches_told v_marches_changeMinutes v_marches_marching v_marches_gone v_search_known v_search_countHere v_search_countThere v_search_cost v_search_most v_search_found f_bytes f_knee f_weight f_limps f_bheft f_owner f_food f_miles f_slope f_rsteps f_rkind f_ryields f_rholds f_rletters f_rstack f_dsteps f_dkind f_dyields f_dholds f_dletters f_dstack f_caps f_versions f_sharing f_pheft f_prow f_holder f_comes f_pcaps f_room f_loose f_reached f_mrow f_minutesOn f_mtired f_here f_there f_statesHere f_statesThere f_listed f_stired f_burdens f_pacesOn f_restedOn f_behindOn f_behindFor f_first f_second f_plans f_tiredOn) (NS tS) sz (fun (r : Int32) (u : (Nat → Int32) × (Nat → Int32) × (Nat → Nat → Int32)) => (0 ≤ r.toInt ∧ r.toInt ≤ 60) ∧ (rg2 (0) 5 (u.2.2))) (fun u => wSP cy hs hH hT sH sT v_tape_size v_band_walkers v_band_loads v_band_pieces v_rules_clauses v_reader_end v_reader_at v_reader_length v_reader_letter v_reader_fault v_draft_clauses v_paces_version v_packing_quicker v_packing_loads v_packing_looseCount v_marches_told v_marches_changeMinutes v_marches_marching v_marches_gone v_search_known v_search_countHere v_search_countThere v_search_cost v_search_most v_search_found f_bytes f_knee f_weight f_limps f_bheft f_owner f_food f_miles f_slope f_rsteps f_rkind f_ryields f_rholds (u.1) (u.2.1) f_dsteps f_dkind f_dyields f_dholds f_dletters f_dstack f_caps f_versions f_sharing f_pheft f_prow f_holder f_comes f_pcaps f_room f_loose f_reached f_mrow f_minutesOn f_mtired f_here f_there f_statesHere f_statesThere f_listed f_stired f_burdens f_pacesOn f_restedOn f_behindOn f_behindFor f_first f_second f_plans (u.2.2)) := by
  refine gMi_in (by decide) (Nat.le_of_ble_eq_true rfl) ?_
  intro p e s m args below meth c A ls Q hx hb hml hts hown hsz hP hK hD hN hAe hA hS hl hret
  subst hsz
  have hl : lv_has ls 7 [(0, .ref (hs 40)), (1, .int i)] := hl
  have hrt := fun (r : Int32) (f_rletters' : Nat → Int32) (f_rstack' : Nat → Int32) (f_tiredOn' : Nat → Nat → Int32) (hp : (0 ≤ r.toInt ∧ r.toInt ≤ 60) ∧ (rg2 (0) 5 f_tiredOn')) {H : Heap} {locs : List Loc} {pc : Nat} {ls : Array Slot} => hret r (f_rletters', f_rstack', f_tiredOn') (H := H) (locs := locs) (pc := pc) (ls := ls) hp
  clear hret
  refine lv_aload_n hx hb dX1_restedPace_0 rfl (lv_at hl 0 rfl) ?_
  refine gt_SP_marches_row hx hb hts hown hK hP lwd_112 dX1_restedPace_1 ?_
  refine lv_iload_n hx hb dX1_restedPace_4 rfl (lv_at hl 1 rfl) ?_
  refine al_mrow hx hb hK hP hr_mrow (i_in (rfl : i.toInt = i.toInt) (by omega) (by omega)) dX1_restedPace_5 (fun n_1 en_1 bn_1 => ?_)
  refine lv_bipush (v := 6) hx hb dX1_restedPace_6 (by decide) ?_
  refine lv_irem hx hb dX1_restedPace_8 (by decide) ?_
  refine lv_topi (fun n_2 en_2 => ?_)
  have tn_2 : n_2.toInt = n_1.toInt % 6 := i_rem en_2 (rfl : n_1.toInt = n_1.toInt) (by decide : (6 : Int32).toInt = 6) (by omega) (by omega)
  refine lv_istore_n (lv' := [(2, .int n_2), (0, .ref (hs 40)), (1, .int i)]) hx hb dX1_restedPace_9 rfl hl (by decide) rfl (fun ls hl => ?_)
  refine lv_bipush (v := 60) hx hb dX1_restedPace_10 (by decide) ?_
  refine lv_istore_n (lv' := [(3, .int 60), (2, .int n_2), (0, .ref (hs 40)), (1, .int i)]) hx hb dX1_restedPace_12 rfl hl (by decide) rfl (fun ls hl => ?_)
  refine lv_iconst (v := 0) hx hb dX1_restedPace_13 (by decide) ?_
  refine lv_istore (lv' := [(4, .int 0), (3, .int 60), (2, .int n_2), (0, .ref (hs 40)), (1, .int i)]) hx hb dX1_restedPace_14 hl (by decide) rfl (fun ls hl => ?_)
  have L16_13 : ∀ (n : Nat) (f_8 : Nat → Int32) (f_9 : Nat → Int32) (f_10 : Nat → Nat → Int32) (l_11 : Int32) (l_12 : Int32), (rg2 (0) 5 f_10) → (0 ≤ l_11.toInt ∧ l_11.toInt ≤ 60) → (0 ≤ l_12.toInt ∧ l_12.toInt ≤ 6) → 7 - l_12.toInt < n → ∀ (H : Heap) (locs : List Loc) (ls : Array Slot), va_P D vwCl (wSP cy hs hH hT sH sT v_tape_size v_band_walkers v_band_loads v_band_pieces v_rules_clauses v_reader_end v_reader_at v_reader_length v_reader_letter v_reader_fault v_draft_clauses v_paces_version v_packing_quicker v_packing_loads v_packing_looseCount v_marches_told v_marches_changeMinutes v_marches_marching v_marches_gone v_search_known v_search_countHere v_search_countThere v_search_cost v_search_most v_search_found f_bytes f_knee f_weight f_limps f_bheft f_owner f_food f_miles f_slope f_rsteps f_rkind f_ryields f_rholds f_8 f_9 f_dsteps f_dkind f_dyields f_dholds f_dletters f_dstack f_caps f_versions f_sharing f_pheft f_prow f_holder f_comes f_pcaps f_room f_loose f_reached f_mrow f_minutesOn f_mtired f_here f_there f_statesHere f_statesThere f_listed f_stired f_burdens f_pacesOn f_restedOn f_behindOn f_behindFor f_first f_second f_plans f_10) H → va_D A (wSP cy hs hH hT sH sT v_tape_size v_band_walkers v_band_loads v_band_pieces v_rules_clauses v_reader_end v_reader_at v_reader_length v_reader_letter v_reader_fault v_draft_clauses v_paces_version v_packing_quicker v_packing_loads v_packing_looseCount v_marches_told v_marches_changeMinutes v_marches_marching v_marches_gone v_search_known v_search_countHere v_search_countThere v_search_cost v_search_most v_search_found f_bytes f_knee f_weight f_limps f_bheft f_owner f_food f_miles f_slope f_rsteps f_rkind f_ryields f_rholds f_8 f_9 f_dsteps f_dkind f_dyields f_dholds f_dletters f_dstack f_caps f_versions f_sharing f_pheft f_prow f_holder f_comes f_pcaps f_room f_loose f_reached f_mrow f_minutesOn f_mtired f_here f_there f_statesHere f_statesThere f_listed f_stired f_burdens f_pacesOn f_restedOn f_behindOn f_behindFor f_first f_second f_plans f_10) → va_S A s.heap H locs → lv_has ls 7 [(4, .int l_12), (3, .int l_11), (2, .int n_2), (0, .ref (hs 40)), (1, .int i)] → W p l e (gRm 4) s m args below meth c H locs 0 0 Q (F0 m 16 ls []) := by
    intro n
    induction n with
    | zero => intro f_8 f_9 f_10 l_11 l_12 hL16_13_0 hL16_13_1 hL16_13_2 hm; exact absurd hm (by omega)
    | succ n ih16_13 =>
      intro f_8 f_9 f_10 l_11 l_12 hL16_13_0 hL16_13_1 hL16_13_2 hmL16_13 H locs ls hP hD hS hl
      refine lv_iload hx hb dX1_restedPace_16 (lv_at hl 0 rfl) ?_
      refine lv_aload_n hx hb dX1_restedPace_18 rfl (lv_at hl 3 rfl) ?_
      refine gt_SP_marches_band hx hb hts hown hK hP lwd_116 dX1_restedPace_19 ?_
      refine gt_SP_band_walkers hx hb hts hown hK hP lwd_939 dX1_restedPace_22 ?_
      refine lv_icmp_ge (tgt := 116) hx hb dX1_restedPace_25 (by decide) (fun c_14 => ?_) (fun c_14 => ?_)
      · have gc_14 : v_band_walkers.toInt ≤ l_12.toInt := i_le (rfl : v_band_walkers.toInt = v_band_walkers.toInt) (rfl : l_12.toInt = l_12.toInt) c_14
        refine lv_iload_n hx hb dX1_restedPace_116 rfl (lv_at hl 1 rfl) ?_
        exact hrt l_11 f_8 f_9 f_10 ⟨(by omega), hL16_13_0⟩ hP hD hS rfl dX1_restedPace_117
      · have gc_14 : l_12.toInt < v_band_walkers.toInt := i_nle (rfl : v_band_walkers.toInt = v_band_walkers.toInt) (rfl : l_12.toInt = l_12.toInt) c_14
        refine lv_aload_n hx hb dX1_restedPace_28 rfl (lv_at hl 3 rfl) ?_
        refine gt_SP_marches_tired hx hb hts hown hK hP lwd_115 dX1_restedPace_29 ?_
        refine lv_iload hx hb dX1_restedPace_32 (lv_at hl 0 rfl) ?_
        refine al_mtired hx hb hK hP hr_mtired (i_in (rfl : l_12.toInt = l_12.toInt) (by omega) (by omega)) dX1_restedPace_34 (fun n_15 en_15 bn_15 => ?_)
        refine lv_istore (lv' := [(5, .int n_15), (4, .int l_12), (3, .int l_11), (2, .int n_2), (0, .ref (hs 40)), (1, .int i)]) hx hb dX1_restedPace_35 hl (by decide) rfl (fun ls hl => ?_)
        refine lv_iconst (v := 0) hx hb dX1_restedPace_37 (by decide) ?_
        refine lv_istore (lv' := [(6, .int 0), (5, .int n_15), (4, .int l_12), (3, .int l_11), (2, .int n_2), (0, .ref (hs 40)), (1, .int i)]) hx hb dX1_restedPace_38 hl (by decide) rfl (fun ls hl => ?_)
        have L40_24 : ∀ (n : Nat) (f_20 : Nat → Int32) (f_21 : Nat → Int32) (l_22 : Int32) (l_23 : Int32), (0 ≤ l_22.toInt ∧ l_22.toInt ≤ 5) → (0 ≤ l_23.toInt ∧ l_23.toInt ≤ 3) → 4 - l_23.toInt < n → ∀ (H : Heap) (locs : List Loc) (ls : Array Slot), va_P D vwCl (wSP cy hs hH hT sH sT v_tape_size v_band_walkers v_band_loads v_band_pieces v_rules_clauses v_reader_end v_reader_at v_reader_length v_reader_letter v_reader_fault v_draft_clauses v_paces_version v_packing_quicker v_packing_loads v_packing_looseCount v_marches_told v_marches_changeMinutes v_marches_marching v_marches_gone v_search_known v_search_countHere v_search_countThere v_search_cost v_search_most v_search_found f_bytes f_knee f_weight f_limps f_bheft f_owner f_food f_miles f_slope f_rsteps f_rkind f_ryields f_rholds f_20 f_21 f_dsteps f_dkind f_dyields f_dholds f_dletters f_dstack f_caps f_versions f_sharing f_pheft f_prow f_holder f_comes f_pcaps f_room f_loose f_reached f_mrow f_minutesOn f_mtired f_here f_there f_statesHere f_statesThere f_listed f_stired f_burdens f_pacesOn f_restedOn f_behindOn f_behindFor f_first f_second f_plans f_10) H → va_D A (wSP cy hs hH hT sH sT v_tape_size v_band_walkers v_band_loads v_band_pieces v_rules_clauses v_reader_end v_reader_at v_reader_length v_reader_letter v_reader_fault v_draft_clauses v_paces_version v_packing_quicker v_packing_loads v_packing_looseCount v_marches_told v_marches_changeMinutes v_marches_marching v_marches_gone v_search_known v_search_countHere v_search_countThere v_search_cost v_search_most v_search_found f_bytes f_knee f_weight f_limps f_bheft f_owner f_food f_miles f_slope f_rsteps f_rkind f_ryields f_rholds f_20 f_21 f_dsteps f_dkind f_dyields f_dholds f_dletters f_dstack f_caps f_versions f_sharing f_pheft f_prow f_holder f_comes f_pcaps f_room f_loose f_reached f_mrow f_minutesOn f_mtired f_here f_there f_statesHere f_statesThere f_listed f_stired f_burdens f_pacesOn f_restedOn f_behindOn f_behindFor f_first f_second f_plans f_10) → va_S A s.heap H locs → lv_has ls 7 [(6, .int l_23), (5, .int l_22), (4, .int l_12), (3, .int l_11), (2, .int n_2), (0, .ref (hs 40)), (1, .int i)] → W p l e (gRm 4) s m args below meth c H locs 0 0 Q (F0 m 40 ls []) := by
          intro n
          induction n with
          | zero => intro f_20 f_21 l_22 l_23 hL40_24_0 hL40_24_1 hm; exact absurd hm (by omega)
          | succ n ih40_24 =>
            intro f_20 f_21 l_22 l_23 hL40_24_0 hL40_24_1 hmL40_24 H locs ls hP hD hS hl
            refine lv_iload hx hb dX1_restedPace_40 (lv_at hl 0 rfl) ?_
            refine lv_aload_n hx hb dX1_restedPace_42 rfl (lv_at hl 5 rfl) ?_
            refine gt_SP_marches_row hx hb hts hown hK hP lwd_112 dX1_restedPace_43 ?_
            refine lv_iload_n hx hb dX1_restedPace_46 rfl (lv_at hl 6 rfl) ?_
            refine al_mrow hx hb hK hP hr_mrow (i_in (rfl : i.toInt = i.toInt) (by omega) (by omega)) dX1_restedPace_47 (fun n_25 en_25 bn_25 => ?_)
            obtain rfl : n_1 = n_25 := en_1.trans en_25.symm
            refine lv_bipush (v := 6) hx hb dX1_restedPace_48 (by decide) ?_
            refine lv_idiv hx hb dX1_restedPace_50 (by decide) ?_
            refine lv_topi (fun n_26 en_26 => ?_)
            have tn_26 : n_26.toInt = n_1.toInt / 6 := i_div en_26 (rfl : n_1.toInt = n_1.toInt) (by decide : (6 : Int32).toInt = 6) (by omega) (by omega)
            refine lv_icmp_ge (tgt := 74) hx hb dX1_restedPace_51 (by decide) (fun c_27 => ?_) (fun c_27 => ?_)
            · have gc_27 : n_1.toInt / 6 ≤ l_23.toInt := i_le tn_26 (rfl : l_23.toInt = l_23.toInt) c_27
              refine lv_aload_n hx hb dX1_restedPace_74 rfl (lv_at hl 5 rfl) ?_
              refine gt_SP_marches_tiredOn hx hb hts hown hK hP lwd_114 dX1_restedPace_75 ?_
              refine lv_iload_n hx hb dX1_restedPace_78 rfl (lv_at hl 6 rfl) ?_
              refine aq_tiredOn (i := i) hx hb hK hP (by first | omega | decide) dX1_restedPace_79 ?_
              refine lv_iload hx hb dX1_restedPace_80 (lv_at hl 2 rfl) ?_
              refine lv_iload hx hb dX1_restedPace_82 (lv_at hl 1 rfl) ?_
              refine aw_tiredOn (i := i) (x := l_22) hx hb hK hP hD hS hL16_13_0 (by first | omega | decide) (i_in (rfl : l_12.toInt = l_12.toInt) (by omega) (by omega)) (by omega) dX1_restedPace_84 (fun f_28 ef_28 rf_28 H locs hP hD hS => ?_)
              refine lv_iload_n hx hb dX1_restedPace_85 rfl (lv_at hl 3 rfl) ?_
              refine lv_aload_n hx hb dX1_restedPace_86 rfl (lv_at hl 5 rfl) ?_
              refine gt_SP_marches_paces hx hb hts hown hK hP lwd_117 dX1_restedPace_87 ?_
              refine lv_iload hx hb dX1_restedPace_90 (lv_at hl 2 rfl) ?_
              refine lv_aload_n hx hb dX1_restedPace_92 rfl (lv_at hl 5 rfl) ?_
              refine lv_iload_n hx hb dX1_restedPace_93 rfl (lv_at hl 4 rfl) ?_
              refine lv_iload hx hb dX1_restedPace_94 (lv_at hl 2 rfl) ?_
              refine lv_iload_n hx hb dX1_restedPace_96 rfl (lv_at hl 6 rfl) ?_
              refine xi hD hS hA (xV (As := [.int n_2, .int l_12, .int i]) (rest := [.int l_12, .ref (hs 27), .int l_11]) hx hb hml hown hts hK hP hD hS hA NS_ok hN hAe hl.1 ⟨Nat.le_refl _, Nat.le_refl _⟩ 40 rfl rfl rfl (c_X1_burden l D cy hs hH hT sH sT v_tape_size v_band_walkers v_band_loads v_band_pieces v_rules_clauses v_reader_end v_reader_at v_reader_length v_reader_letter v_reader_fault v_draft_clauses v_paces_version v_packing_quicker v_packing_loads v_packing_looseCount v_marches_told v_marches_changeMinutes v_marches_marching v_marches_gone v_search_known v_search_countHere v_search_countThere v_search_cost v_search_most v_search_found f_bytes f_knee f_weight f_limps f_bheft f_owner f_food f_miles f_slope f_rsteps f_rkind f_ryields f_rholds f_20 f_21 f_dsteps f_dkind f_dyields f_dholds f_dletters f_dstack f_caps f_versions f_sharing f_pheft f_prow f_holder f_comes f_pcaps f_room f_loose f_reached f_mrow f_minutesOn f_mtired f_here f_there f_statesHere f_statesThere f_listed f_stired f_burdens f_pacesOn f_restedOn f_behindOn f_behindFor f_first f_second f_plans f_28 tS H.size n_2 l_12 i (by omega) hr_bheft hr_food (by omega) (by omega)) (gi_V lwd_946 lwd_947 lwd_948 lwd_38 lwd_949) ⟨rfl, hd_X1_burden⟩ ⟨Nat.le_of_ble_eq_true rfl, Nat.le_of_ble_eq_true rfl⟩ rfl (Nat.le_of_ble_eq_true rfl) dX1_restedPace_97) (fun r_30 u_29 H locs hw hP hD hS => ?_)
              try dsimp only at hw hP hD
              clear hw
              refine lv_iload hx hb dX1_restedPace_100 (lv_at hl 1 rfl) ?_
              refine lv_iload_n hx hb dX1_restedPace_102 rfl (lv_at hl 6 rfl) ?_
              refine xi hD hS hA (xV (As := [.int l_12, .int r_30, .int l_22, .int i]) (rest := [.int l_11]) hx hb hml hown hts hK hP hD hS hA NS_ok hN hAe hl.1 ⟨Nat.le_refl _, Nat.le_refl _⟩ 27 rfl rfl rfl (c_X3_paceOf l D cy hs hH hT sH sT v_tape_size v_band_walkers v_band_loads v_band_pieces v_rules_clauses v_reader_end v_reader_at v_reader_length v_reader_letter v_reader_fault v_draft_clauses v_paces_version v_packing_quicker v_packing_loads v_packing_looseCount v_marches_told v_marches_changeMinutes v_marches_marching v_marches_gone v_search_known v_search_countHere v_search_countThere v_search_cost v_search_most v_search_found f_bytes f_knee f_weight f_limps f_bheft f_owner f_food f_miles f_slope f_rsteps f_rkind f_ryields f_rholds f_20 f_21 f_dsteps f_dkind f_dyields f_dholds f_dletters f_dstack f_caps f_versions f_sharing f_pheft f_prow f_holder f_comes f_pcaps f_room f_loose f_reached f_mrow f_minutesOn f_mtired f_here f_there f_statesHere f_statesThere f_listed f_stired f_burdens f_pacesOn f_restedOn f_behindOn f_behindFor f_first f_second f_plans f_28 tS H.size l_12 r_30 l_22 i (by omega) (by omega) hr_weight hr_limps hr_miles (by omega) (by omega)) (gi_V lwd_952 lwd_510 lwd_511 lwd_30 lwd_512) ⟨rfl, hd_X3_paceOf⟩ ⟨Nat.le_of_ble_eq_true rfl, Nat.le_of_ble_eq_true rfl⟩ rfl (Nat.le_of_ble_eq_true rfl) dX1_restedPace_103) (fun r_32 u_31 H locs hw hP hD hS => ?_)
              obtain ⟨zrletters_33, zrstack_34⟩ := u_31
              try dsimp only at hw hP hD
              have p_35 := hw
              clear hw
              refine va_mmin hx hb (by rw [hml]; exact hl.1.symm) hown (hts _ lwd_940) (hts _ lwd_528) (hts _ lwd_529) (hts _ lwd_530) (Nat.le_of_ble_eq_true rfl) (Nat.le_of_ble_eq_true rfl) (Nat.zero_le _) (Nat.zero_le _) dX1_restedPace_106 ?_
              refine lv_topi (fun n_36 en_36 => ?_)
              have tn_36 := i_min en_36 (rfl : l_11.toInt = l_11.toInt) (rfl : r_32.toInt = r_32.toInt)
              refine lv_istore_n (lv' := [(3, .int n_36), (6, .int l_23), (5, .int l_22), (4, .int l_12), (2, .int n_2), (0, .ref (hs 40)), (1, .int i)]) hx hb dX1_restedPace_109 rfl hl (by decide) rfl (fun ls hl => ?_)
              obtain ⟨n_37, en_37⟩ : ∃ y : Int32, y = l_12 + 1 := ⟨_, rfl⟩
              have tn_37 : n_37.toInt = l_12.toInt + 1 := i_add en_37 (rfl : l_12.toInt = l_12.toInt) (by decide : (1 : Int32).toInt = 1) (by omega) (by omega)
              refine lv_iinc (v := n_37) (lv' := [(4, .int n_37), (3, .int n_36), (6, .int l_23), (5, .int l_22), (2, .int n_2), (0, .ref (hs 40)), (1, .int i)]) hx hb dX1_restedPace_110 hl (k := 3) rfl (by rw [en_37]; rfl) (by decide) rfl (fun ls hl => ?_)
              refine lv_goto (tgt := 16) hx hb dX1_restedPace_113 (by decide) ?_
              exact ih16_13 zrletters_33 zrstack_34 f_28 n_36 n_37 rf_28 (by omega) (by omega) (by omega) _ _ _ hP hD hS (lv_sub hl [0, 1, 4, 5, 6] rfl)
            · have gc_27 : l_23.toInt < n_1.toInt / 6 := i_nle tn_26 (rfl : l_23.toInt = l_23.toInt) c_27
              refine lv_aload_n hx hb dX1_restedPace_54 rfl (lv_at hl 5 rfl) ?_
              refine gt_SP_marches_paces hx hb hts hown hK hP lwd_117 dX1_restedPace_55 ?_
              refine lv_iload hx hb dX1_restedPace_58 (lv_at hl 2 rfl) ?_
              refine lv_iload hx hb dX1_restedPace_60 (lv_at hl 1 rfl) ?_
              refine lv_iload_n hx hb dX1_restedPace_62 rfl (lv_at hl 6 rfl) ?_
              refine xi hD hS hA (xV (As := [.int l_12, .int l_22, .int i]) (rest := []) hx hb hml hown hts hK hP hD hS hA NS_ok hN hAe hl.1 ⟨Nat.le_refl _, Nat.le_refl _⟩ 27 rfl rfl rfl (c_X3_tiredRested l D cy hs hH hT sH sT v_tape_size v_band_walkers v_band_loads v_band_pieces v_rules_clauses v_reader_end v_reader_at v_reader_length v_reader_letter v_reader_fault v_draft_clauses v_paces_version v_packing_quicker v_packing_loads v_packing_looseCount v_marches_told v_marches_changeMinutes v_marches_marching v_marches_gone v_search_known v_search_countHere v_search_countThere v_search_cost v_search_most v_search_found f_bytes f_knee f_weight f_limps f_bheft f_owner f_food f_miles f_slope f_rsteps f_rkind f_ryields f_rholds f_20 f_21 f_dsteps f_dkind f_dyields f_dholds f_dletters f_dstack f_caps f_versions f_sharing f_pheft f_prow f_holder f_comes f_pcaps f_room f_loose f_reached f_mrow f_minutesOn f_mtired f_here f_there f_statesHere f_statesThere f_listed f_stired f_burdens f_pacesOn f_restedOn f_behindOn f_behindFor f_first f_second f_plans f_10 tS H.size l_12 l_22 i (by omega) (by omega) hr_weight hr_miles (by omega) (by omega) (by omega)) (gi_V lwd_941 lwd_942 lwd_943 lwd_30 lwd_944) ⟨rfl, hd_X3_tiredRested⟩ ⟨Nat.le_of_ble_eq_true rfl, Nat.le_of_ble_eq_true rfl⟩ rfl (Nat.le_of_ble_eq_true rfl) dX1_restedPace_63) (fun r_39 u_38 H locs hw hP hD hS => ?_)
              obtain ⟨zrletters_40, zrstack_41⟩ := u_38
              try dsimp only at hw hP hD
              have p_42 := hw
              clear hw
              refine lv_istore (lv' := [(5, .int r_39), (6, .int l_23), (4, .int l_12), (3, .int l_11), (2, .int n_2), (0, .ref (hs 40)), (1, .int i)]) hx hb dX1_restedPace_66 hl (by decide) rfl (fun ls hl => ?_)
              obtain ⟨n_43, en_43⟩ : ∃ y : Int32, y = l_23 + 1 := ⟨_, rfl⟩
              have tn_43 : n_43.toInt = l_23.toInt + 1 := i_add en_43 (rfl : l_23.toInt = l_23.toInt) (by decide : (1 : Int32).toInt = 1) (by omega) (by omega)
              refine lv_iinc (v := n_43) (lv' := [(6, .int n_43), (5, .int r_39), (4, .int l_12), (3, .int l_11), (2, .int n_2), (0, .ref (hs 40)), (1, .int i)]) hx hb dX1_restedPace_68 hl (k := 1) rfl (by rw [en_43]; rfl) (by decide) rfl (fun ls hl => ?_)
              refine lv_goto (tgt := 40) hx hb dX1_restedPace_71 (by decide) ?_
              exact ih40_24 zrletters_40 zrstack_41 r_39 n_43 (by omega) (by omega) (by omega) _ _ _ hP hD hS (lv_sub hl [0, 1, 2, 3, 4, 5, 6] rfl)
        have k_44 : (0 : Int32).toInt = 0 := by decide
        exact L40_24 8589934592 f_8 f_9 n_15 0 (by omega) (by omega) (by omega) _ _ _ hP hD hS (lv_sub hl [0, 1, 2, 3, 4, 5, 6] rfl)
  have k_45 : (60 : Int32).toInt = 60 := by decide
  have k_46 : (0 : Int32).toInt = 0 := by decide
  exact L16_13 8589934592 f_rletters f_rstack f_tiredOn 60 0 hr_tiredOn (by omega) (by omega) (by omega) _ _ _ hP hD hS (lv_sub hl [0, 1, 2, 3, 4] rfl)
set_option maxHeartbeats 16000000 in
set_option maxRecDepth 100000 in
theorem c_X1_step (l : Launch) (D : va_G) (cy : Nat → ClassId) (hs : Nat → Nat) (hH hT sH sT : Nat) (v_tape_size v_band_walkers v_band_loads v_band_pieces v_rules_clauses v_reader_end v_reader_at v_reader_length v_reader_letter v_reader_fault v_draft_clauses v_paces_version v_packing_quicker v_packing_loads v_packing_looseCount v_marches_told v_marches_changeMinutes v_marches_marching v_marches_gone v_search_known v_search_countHere v_search_countThere v_search_cost v_search_most : Int32) (v_search_found : Int64) (f_bytes f_knee f_weight f_limps f_bheft f_owner f_food f_miles f_slope f_rsteps f_rkind f_ryields f_rholds f_rletters f_rstack f_dsteps f_dkind f_dyields f_dholds f_dletters f_dstack f_caps f_versions f_sharing f_pheft f_prow f_holder f_comes f_pcaps f_room f_loose f_reached f_mrow f_minutesOn f_mtired : Nat → Int32) (f_here f_there : Nat → Int64) (f_statesHere f_statesThere f_listed f_stired f_burdens f_pacesOn f_restedOn f_behindOn f_behindFor f_first f_second : Nat → Int32) (f_plans f_tiredOn : Nat → Nat → Int32) (tS : Nat) (sz : Nat) (i : Int32) (mi : Int32) (hb_v_band_walkers : 0 ≤ v_band_walkers.toInt ∧ v_band_walkers.toInt ≤ 6) (hb_v_band_loads : 0 ≤ v_band_loads.toInt ∧ v_band_loads.toInt ≤ 9) (hb_v_rules_clauses : 0 ≤ v_rules_clauses.toInt ∧ v_rules_clauses.toInt ≤ 14) (hr_weight : rg (0) 250 f_weight) (hr_bheft : rg (0) 120 f_bheft) (hr_food : rg (0) 20 f_food) (hr_miles : rg (0) 20 f_miles) (hr_mrow : rg (0) 17 f_mrow) (hr_mtired : rg (0) 5 f_mtired) (hr_tiredOn : rg2 (0) 5 f_tiredOn) (ha_i : 0 ≤ i.toInt ∧ i.toInt ≤ 9) : gMv l yX1_step cX1_step 5 4 [.ref (hs 40), .int i, .int mi] D cy (wSP cy hs hH hT sH sT v_tape_size v_band_walkers v_band_loads v_band_pieces v_rules_clauses v_reader_end v_reader_at v_reader_length v_reader_letter v_reader_fault v_draft_clauses v_paces_version v_packing_quicker v_packing_loads v_packing_looseCount v_marches_told v_marches_changeMinutes v_marches_marching v_marches_gone v_search_known v_search_countHere v_search_countThere v_search_cost v_search_most v_search_found f_bytes f_knee f_weight f_limps f_bheft f_owner f_food f_miles f_slope f_rsteps f_rkind f_ryields f_rholds f_rletters f_rstack f_dsteps f_dkind f_dyields f_dholds f_dletters f_dstack f_caps f_versions f_sharing f_pheft f_prow f_holder f_comes f_pcaps f_room f_loose f_reached f_mrow f_minutesOn f_mtired f_here f_there f_statesHere f_statesThere f_listed f_stired f_burdens f_pacesOn f_restedOn f_behindOn f_behindFor f_first f_second f_plans f_tiredOn) (NS tS) sz (fun (u : (Nat → Int32) × (Nat → Int32) × (Nat → Int32) × (Nat → Int32)) => (rg (0) 5 (u.2.2.2))) (fun u => wSP cy hs hH hT sH sT v_tape_size v_band_walkers v_band_loads v_band_pieces v_rules_clauses v_reader_end v_reader_at v_reader_length v_reader_letter v_reader_fault v_draft_clauses v_paces_version v_packing_quicker v_packing_loads v_packing_looseCount v_marches_told v_marches_changeMinutes v_marches_marching v_marches_gone v_search_known v_search_countHere v_search_countThere v_search_cost v_search_most v_search_found f_bytes f_knee f_weight f_limps f_bheft f_owner f_food f_miles f_slope f_rsteps f_rkind f_ryields f_rholds (u.1) (u.2.1) f_dsteps f_dkind f_dyields f_dholds f_dletters f_dstack f_caps f_versions f_sharing f_pheft f_prow f_holder f_comes f_pcaps f_room f_loose f_reached f_mrow (u.2.2.1) (u.2.2.2) f_here f_there f_statesHere f_statesThere f_listed f_stired f_burdens f_pacesOn f_restedOn f_behindOn f_behindFor f_first f_second f_plans f_tiredOn) := by
  refine gMv_in (by decide) (Nat.le_of_ble_eq_true rfl) ?_
  intro p e s m args below meth c A ls Q hx hb hml hts hown hsz hP hK hD hN hAe hA hS hl hret
  subst hsz
  have hl : lv_has ls 5 [(0, .ref (hs 40)), (1, .int i), (2, .int mi)] := hl
  have hrt := fun (f_rletters' : Nat → Int32) (f_rstack' : Nat → Int32) (f_minutesOn' : Nat → Int32) (f_mtired' : Nat → Int32) (hp : (rg (0) 5 f_mtired')) {H : Heap} {locs : List Loc} {pc : Nat} {ls : Array Slot} => hret (f_rletters', f_rstack', f_minutesOn', f_mtired') (H := H) (locs := locs) (pc := pc) (ls := ls) hp
  clear hret
  refine lv_aload_n hx hb dX1_step_0 rfl (lv_at hl 0 rfl) ?_
  refine gt_SP_marches_row hx hb hts hown hK hP lwd_112 dX1_step_1 ?_
  refine lv_iload_n hx hb dX1_step_4 rfl (lv_at hl 1 rfl) ?_
  refine al_mrow hx hb hK hP hr_mrow (i_in (rfl : i.toInt = i.toInt) (by omega) (by omega)) dX1_step_5 (fun n_1 en_1 bn_1 => ?_)
  refine lv_bipush (v := 6) hx hb dX1_step_6 (by decide) ?_
  refine lv_irem hx hb dX1_step_8 (by decide) ?_
  refine lv_topi (fun n_2 en_2 => ?_)
  have tn_2 : n_2.toInt = n_1.toInt % 6 := i_rem en_2 (rfl : n_1.toInt = n_1.toInt) (by decide : (6 : Int32).toInt = 6) (by omega) (by omega)
  refine lv_istore_n (lv' := [(3, .int n_2), (0, .ref (hs 40)), (1, .int i), (2, .int mi)]) hx hb dX1_step_9 rfl hl (by decide) rfl (fun ls hl => ?_)
  refine lv_iconst (v := 0) hx hb dX1_step_10 (by decide) ?_
  refine lv_istore (lv' := [(4, .int 0), (3, .int n_2), (0, .ref (hs 40)), (1, .int i), (2, .int mi)]) hx hb dX1_step_11 hl (by decide) rfl (fun ls hl => ?_)
  have L13_11 : ∀ (n : Nat) (f_7 : Nat → Int32) (f_8 : Nat → Int32) (f_9 : Nat → Int32) (l_10 : Int32), (rg (0) 5 f_7) → (0 ≤ l_10.toInt ∧ l_10.toInt ≤ 6) → 7 - l_10.toInt < n → ∀ (H : Heap) (locs : List Loc) (ls : Array Slot), va_P D vwCl (wSP cy hs hH hT sH sT v_tape_size v_band_walkers v_band_loads v_band_pieces v_rules_clauses v_reader_end v_reader_at v_reader_length v_reader_letter v_reader_fault v_draft_clauses v_paces_version v_packing_quicker v_packing_loads v_packing_looseCount v_marches_told v_marches_changeMinutes v_marches_marching v_marches_gone v_search_known v_search_countHere v_search_countThere v_search_cost v_search_most v_search_found f_bytes f_knee f_weight f_limps f_bheft f_owner f_food f_miles f_slope f_rsteps f_rkind f_ryields f_rholds f_8 f_9 f_dsteps f_dkind f_dyields f_dholds f_dletters f_dstack f_caps f_versions f_sharing f_pheft f_prow f_holder f_comes f_pcaps f_room f_loose f_reached f_mrow f_minutesOn f_7 f_here f_there f_statesHere f_statesThere f_listed f_stired f_burdens f_pacesOn f_restedOn f_behindOn f_behindFor f_first f_second f_plans f_tiredOn) H → va_D A (wSP cy hs hH hT sH sT v_tape_size v_band_walkers v_band_loads v_band_pieces v_rules_clauses v_reader_end v_reader_at v_reader_length v_reader_letter v_reader_fault v_draft_clauses v_paces_version v_packing_quicker v_packing_loads v_packing_looseCount v_marches_told v_marches_changeMinutes v_marches_marching v_marches_gone v_search_known v_search_countHere v_search_countThere v_search_cost v_search_most v_search_found f_bytes f_knee f_weight f_limps f_bheft f_owner f_food f_miles f_slope f_rsteps f_rkind f_ryields f_rholds f_8 f_9 f_dsteps f_dkind f_dyields f_dholds f_dletters f_dstack f_caps f_versions f_sharing f_pheft f_prow f_holder f_comes f_pcaps f_room f_loose f_reached f_mrow f_minutesOn f_7 f_here f_there f_statesHere f_statesThere f_listed f_stired f_burdens f_pacesOn f_restedOn f_behindOn f_behindFor f_first f_second f_plans f_tiredOn) → va_S A s.heap H locs → lv_has ls 5 [(4, .int l_10), (3, .int n_2), (0, .ref (hs 40)), (1, .int i), (2, .int mi)] → W p l e (gRm 4) s m args below meth c H locs 0 0 Q (F0 m 13 ls []) := by
    intro n
    induction n with
    | zero => intro f_7 f_8 f_9 l_10 hL13_11_0 hL13_11_1 hm; exact absurd hm (by omega)
    | succ n ih13_11 =>
      intro f_7 f_8 f_9 l_10 hL13_11_0 hL13_11_1 hmL13_11 H locs ls hP hD hS hl
      refine lv_iload hx hb dX1_step_13 (lv_at hl 0 rfl) ?_
      refine lv_aload_n hx hb dX1_step_15 rfl (lv_at hl 2 rfl) ?_
      refine gt_SP_marches_band hx hb hts hown hK hP lwd_116 dX1_step_16 ?_
      refine gt_SP_band_walkers hx hb hts hown hK hP lwd_939 dX1_step_19 ?_
      refine lv_icmp_ge (tgt := 66) hx hb dX1_step_22 (by decide) (fun c_12 => ?_) (fun c_12 => ?_)
      · have gc_12 : v_band_walkers.toInt ≤ l_10.toInt := i_le (rfl : v_band_walkers.toInt = v_band_walkers.toInt) (rfl : l_10.toInt = l_10.toInt) c_12
        refine lv_aload_n hx hb dX1_step_66 rfl (lv_at hl 2 rfl) ?_
        refine lv_iload_n hx hb dX1_step_67 rfl (lv_at hl 3 rfl) ?_
        refine xi hD hS hA (xV (As := [.int i]) (rest := []) hx hb hml hown hts hK hP hD hS hA NS_ok hN hAe hl.1 ⟨Nat.le_refl _, Nat.le_refl _⟩ 40 rfl rfl rfl (c_X1_changesAt l D cy hs hH hT sH sT v_tape_size v_band_walkers v_band_loads v_band_pieces v_rules_clauses v_reader_end v_reader_at v_reader_length v_reader_letter v_reader_fault v_draft_clauses v_paces_version v_packing_quicker v_packing_loads v_packing_looseCount v_marches_told v_marches_changeMinutes v_marches_marching v_marches_gone v_search_known v_search_countHere v_search_countThere v_search_cost v_search_most v_search_found f_bytes f_knee f_weight f_limps f_bheft f_owner f_food f_miles f_slope f_rsteps f_rkind f_ryields f_rholds f_8 f_9 f_dsteps f_dkind f_dyields f_dholds f_dletters f_dstack f_caps f_versions f_sharing f_pheft f_prow f_holder f_comes f_pcaps f_room f_loose f_reached f_mrow f_minutesOn f_7 f_here f_there f_statesHere f_statesThere f_listed f_stired f_burdens f_pacesOn f_restedOn f_behindOn f_behindFor f_first f_second f_plans f_tiredOn tS H.size i hr_mrow (by omega)) (gi_V lwd_963 lwd_964 lwd_965 lwd_38 lwd_966) ⟨rfl, hd_X1_changesAt⟩ ⟨Nat.le_of_ble_eq_true rfl, Nat.le_of_ble_eq_true rfl⟩ rfl (Nat.le_of_ble_eq_true rfl) dX1_step_68) (fun r_14 u_13 H locs hw hP hD hS => ?_)
        try dsimp only at hw hP hD
        have p_15 := hw
        clear hw
        refine lv_if_eq (tgt := 81) hx hb dX1_step_71 (by decide) (fun c_16 => ?_) (fun c_16 => ?_)
        · have gc_16 : r_14.toInt = 0 := i_eq (rfl : r_14.toInt = r_14.toInt) (by decide : (0 : Int32).toInt = 0) c_16
          refine lv_iconst (v := 0) hx hb dX1_step_81 (by decide) ?_
          refine lv_istore (lv' := [(4, .int 0), (3, .int n_2), (0, .ref (hs 40)), (1, .int i), (2, .int mi)]) hx hb dX1_step_82 hl (by decide) rfl (fun ls hl => ?_)
          refine lv_aload_n hx hb dX1_step_84 rfl (lv_at hl 2 rfl) ?_
          refine gt_SP_marches_minutesOn hx hb hts hown hK hP lwd_113 dX1_step_85 ?_
          refine lv_iload_n hx hb dX1_step_88 rfl (lv_at hl 3 rfl) ?_
          refine lv_iload_n hx hb dX1_step_89 rfl (lv_at hl 4 rfl) ?_
          refine lv_bipush (v := 30) hx hb dX1_step_90 (by decide) ?_
          refine lv_aload_n hx hb dX1_step_92 rfl (lv_at hl 2 rfl) ?_
          refine gt_SP_marches_row hx hb hts hown hK hP lwd_112 dX1_step_93 ?_
          refine lv_iload_n hx hb dX1_step_96 rfl (lv_at hl 3 rfl) ?_
          refine al_mrow hx hb hK hP hr_mrow (i_in (rfl : i.toInt = i.toInt) (by omega) (by omega)) dX1_step_97 (fun n_17 en_17 bn_17 => ?_)
          obtain rfl : n_1 = n_17 := en_1.trans en_17.symm
          refine lv_bipush (v := 6) hx hb dX1_step_98 (by decide) ?_
          refine lv_idiv hx hb dX1_step_100 (by decide) ?_
          refine lv_topi (fun n_18 en_18 => ?_)
          have tn_18 : n_18.toInt = n_1.toInt / 6 := i_div en_18 (rfl : n_1.toInt = n_1.toInt) (by decide : (6 : Int32).toInt = 6) (by omega) (by omega)
          refine lv_imul hx hb dX1_step_101 ?_
          refine lv_topi (fun n_19 en_19 => ?_)
          have tn_19 : n_19.toInt = 30 * (n_1.toInt / 6) := i_mul en_19 (by decide : (30 : Int32).toInt = 30) tn_18 (by omega) (by omega)
          refine lv_iadd hx hb dX1_step_102 ?_
          refine lv_topi (fun n_20 en_20 => ?_)
          refine lv_iload hx hb dX1_step_103 (lv_at hl 0 rfl) ?_
          refine lv_iadd hx hb dX1_step_105 ?_
          have hb_21 := And.intro (i_bot n_20) (i_top n_20)
          refine lv_topi (fun n_22 en_22 => ?_)
          have tn_22 : n_22.toInt = n_20.toInt + 0 := i_add en_22 (rfl : n_20.toInt = n_20.toInt) (by decide : (0 : Int32).toInt = 0) (by omega) (by omega)
          refine as_minutesOn (x := n_22) hx hb hK hP hD hS (i_in (rfl : i.toInt = i.toInt) (by omega) (by omega)) dX1_step_106 (fun f_23 ef_23 H locs hP hD hS => ?_)
          exact hrt f_8 f_9 f_23 f_7 hL13_11_0 hP hD hS dX1_step_107
        · have gc_16 : r_14.toInt ≠ 0 := i_ne (rfl : r_14.toInt = r_14.toInt) (by decide : (0 : Int32).toInt = 0) c_16
          refine lv_aload_n hx hb dX1_step_74 rfl (lv_at hl 2 rfl) ?_
          refine gt_SP_marches_changeMinutes hx hb hts hown hK hP lwd_111 dX1_step_75 ?_
          refine lv_goto (tgt := 82) hx hb dX1_step_78 (by decide) ?_
          refine lv_istore (lv' := [(4, .int v_marches_changeMinutes), (3, .int n_2), (0, .ref (hs 40)), (1, .int i), (2, .int mi)]) hx hb dX1_step_82 hl (by decide) rfl (fun ls hl => ?_)
          refine lv_aload_n hx hb dX1_step_84 rfl (lv_at hl 2 rfl) ?_
          refine gt_SP_marches_minutesOn hx hb hts hown hK hP lwd_113 dX1_step_85 ?_
          refine lv_iload_n hx hb dX1_step_88 rfl (lv_at hl 3 rfl) ?_
          refine lv_iload_n hx hb dX1_step_89 rfl (lv_at hl 4 rfl) ?_
          refine lv_bipush (v := 30) hx hb dX1_step_90 (by decide) ?_
          refine lv_aload_n hx hb dX1_step_92 rfl (lv_at hl 2 rfl) ?_
          refine gt_SP_marches_row hx hb hts hown hK hP lwd_112 dX1_step_93 ?_
          refine lv_iload_n hx hb dX1_step_96 rfl (lv_at hl 3 rfl) ?_
          refine al_mrow hx hb hK hP hr_mrow (i_in (rfl : i.toInt = i.toInt) (by omega) (by omega)) dX1_step_97 (fun n_24 en_24 bn_24 => ?_)
          obtain rfl : n_1 = n_24 := en_1.trans en_24.symm
          refine lv_bipush (v := 6) hx hb dX1_step_98 (by decide) ?_
          refine lv_idiv hx hb dX1_step_100 (by decide) ?_
          refine lv_topi (fun n_25 en_25 => ?_)
          have tn_25 : n_25.toInt = n_1.toInt / 6 := i_div en_25 (rfl : n_1.toInt = n_1.toInt) (by decide : (6 : Int32).toInt = 6) (by omega) (by omega)
          refine lv_imul hx hb dX1_step_101 ?_
          refine lv_topi (fun n_26 en_26 => ?_)
          have tn_26 : n_26.toInt = 30 * (n_1.toInt / 6) := i_mul en_26 (by decide : (30 : Int32).toInt = 30) tn_25 (by omega) (by omega)
          refine lv_iadd hx hb dX1_step_102 ?_
          refine lv_topi (fun n_27 en_27 => ?_)
          refine lv_iload hx hb dX1_step_103 (lv_at hl 0 rfl) ?_
          refine lv_iadd hx hb dX1_step_105 ?_
          refine lv_topi (fun n_28 en_28 => ?_)
          refine as_minutesOn (x := n_28) hx hb hK hP hD hS (i_in (rfl : i.toInt = i.toInt) (by omega) (by omega)) dX1_step_106 (fun f_29 ef_29 H locs hP hD hS => ?_)
          exact hrt f_8 f_9 f_29 f_7 hL13_11_0 hP hD hS dX1_step_107
      · have gc_12 : l_10.toInt < v_band_walkers.toInt := i_nle (rfl : v_band_walkers.toInt = v_band_walkers.toInt) (rfl : l_10.toInt = l_10.toInt) c_12
        refine lv_aload_n hx hb dX1_step_25 rfl (lv_at hl 2 rfl) ?_
        refine gt_SP_marches_tired hx hb hts hown hK hP lwd_115 dX1_step_26 ?_
        refine lv_iload hx hb dX1_step_29 (lv_at hl 0 rfl) ?_
        refine lv_aload_n hx hb dX1_step_31 rfl (lv_at hl 2 rfl) ?_
        refine gt_SP_marches_paces hx hb hts hown hK hP lwd_117 dX1_step_32 ?_
        refine lv_iload hx hb dX1_step_35 (lv_at hl 0 rfl) ?_
        refine lv_aload_n hx hb dX1_step_37 rfl (lv_at hl 2 rfl) ?_
        refine lv_iload_n hx hb dX1_step_38 rfl (lv_at hl 1 rfl) ?_
        refine lv_iload hx hb dX1_step_39 (lv_at hl 0 rfl) ?_
        refine lv_iload_n hx hb dX1_step_41 rfl (lv_at hl 3 rfl) ?_
        refine xi hD hS hA (xV (As := [.int n_2, .int l_10, .int i]) (rest := [.int l_10, .ref (hs 27), .int l_10, .ref (hs 61)]) hx hb hml hown hts hK hP hD hS hA NS_ok hN hAe hl.1 ⟨Nat.le_refl _, Nat.le_refl _⟩ 40 rfl rfl rfl (c_X1_burden l D cy hs hH hT sH sT v_tape_size v_band_walkers v_band_loads v_band_pieces v_rules_clauses v_reader_end v_reader_at v_reader_length v_reader_letter v_reader_fault v_draft_clauses v_paces_version v_packing_quicker v_packing_loads v_packing_looseCount v_marches_told v_marches_changeMinutes v_marches_marching v_marches_gone v_search_known v_search_countHere v_search_countThere v_search_cost v_search_most v_search_found f_bytes f_knee f_weight f_limps f_bheft f_owner f_food f_miles f_slope f_rsteps f_rkind f_ryields f_rholds f_8 f_9 f_dsteps f_dkind f_dyields f_dholds f_dletters f_dstack f_caps f_versions f_sharing f_pheft f_prow f_holder f_comes f_pcaps f_room f_loose f_reached f_mrow f_minutesOn f_7 f_here f_there f_statesHere f_statesThere f_listed f_stired f_burdens f_pacesOn f_restedOn f_behindOn f_behindFor f_first f_second f_plans f_tiredOn tS H.size n_2 l_10 i (by omega) hr_bheft hr_food (by omega) (by omega)) (gi_V lwd_946 lwd_947 lwd_948 lwd_38 lwd_949) ⟨rfl, hd_X1_burden⟩ ⟨Nat.le_of_ble_eq_true rfl, Nat.le_of_ble_eq_true rfl⟩ rfl (Nat.le_of_ble_eq_true rfl) dX1_step_42) (fun r_31 u_30 H locs hw hP hD hS => ?_)
        try dsimp only at hw hP hD
        clear hw
        refine lv_aload_n hx hb dX1_step_45 rfl (lv_at hl 2 rfl) ?_
        refine gt_SP_marches_tiredOn hx hb hts hown hK hP lwd_114 dX1_step_46 ?_
        refine lv_iload_n hx hb dX1_step_49 rfl (lv_at hl 3 rfl) ?_
        refine aq_tiredOn (i := i) hx hb hK hP (by first | omega | decide) dX1_step_50 ?_
        refine lv_iload hx hb dX1_step_51 (lv_at hl 0 rfl) ?_
        refine ar_tiredOn (i := i) hx hb hK hP hr_tiredOn (by first | omega | decide) (i_in (rfl : l_10.toInt = l_10.toInt) (by omega) (by omega)) dX1_step_53 (fun n_32 en_32 bn_32 => ?_)
        refine lv_iload_n hx hb dX1_step_54 rfl (lv_at hl 3 rfl) ?_
        refine lv_iload_n hx hb dX1_step_55 rfl (lv_at hl 4 rfl) ?_
        refine xi hD hS hA (xV (As := [.int l_10, .int r_31, .int n_32, .int i, .int mi]) (rest := [.int l_10, .ref (hs 61)]) hx hb hml hown hts hK hP hD hS hA NS_ok hN hAe hl.1 ⟨Nat.le_refl _, Nat.le_refl _⟩ 27 rfl rfl rfl (c_X3_tiredBehind l D cy hs hH hT sH sT v_tape_size v_band_walkers v_band_loads v_band_pieces v_rules_clauses v_reader_end v_reader_at v_reader_length v_reader_letter v_reader_fault v_draft_clauses v_paces_version v_packing_quicker v_packing_loads v_packing_looseCount v_marches_told v_marches_changeMinutes v_marches_marching v_marches_gone v_search_known v_search_countHere v_search_countThere v_search_cost v_search_most v_search_found f_bytes f_knee f_weight f_limps f_bheft f_owner f_food f_miles f_slope f_rsteps f_rkind f_ryields f_rholds f_8 f_9 f_dsteps f_dkind f_dyields f_dholds f_dletters f_dstack f_caps f_versions f_sharing f_pheft f_prow f_holder f_comes f_pcaps f_room f_loose f_reached f_mrow f_minutesOn f_7 f_here f_there f_statesHere f_statesThere f_listed f_stired f_burdens f_pacesOn f_restedOn f_behindOn f_behindFor f_first f_second f_plans f_tiredOn tS H.size l_10 r_31 n_32 i mi (by omega) (by omega) hr_weight hr_miles (by omega) (by omega) (by omega)) (gi_V lwd_958 lwd_959 lwd_960 lwd_30 lwd_961) ⟨rfl, hd_X3_tiredBehind⟩ ⟨Nat.le_of_ble_eq_true rfl, Nat.le_of_ble_eq_true rfl⟩ rfl (Nat.le_of_ble_eq_true rfl) dX1_step_56) (fun r_34 u_33 H locs hw hP hD hS => ?_)
        obtain ⟨zrletters_35, zrstack_36⟩ := u_33
        try dsimp only at hw hP hD
        have p_37 := hw
        clear hw
        refine as_mtired (x := r_34) hx hb hK hP hD hS hL13_11_0 (i_in (rfl : l_10.toInt = l_10.toInt) (by omega) (by omega)) (by omega) dX1_step_59 (fun f_38 ef_38 rf_38 H locs hP hD hS => ?_)
        obtain ⟨n_39, en_39⟩ : ∃ y : Int32, y = l_10 + 1 := ⟨_, rfl⟩
        have tn_39 : n_39.toInt = l_10.toInt + 1 := i_add en_39 (rfl : l_10.toInt = l_10.toInt) (by decide : (1 : Int32).toInt = 1) (by omega) (by omega)
        refine lv_iinc (v := n_39) (lv' := [(4, .int n_39), (3, .int n_2), (0, .ref (hs 40)), (1, .int i), (2, .int mi)]) hx hb dX1_step_60 hl (k := 0) rfl (by rw [en_39]; rfl) (by decide) rfl (fun ls hl => ?_)
        refine lv_goto (tgt := 13) hx hb dX1_step_63 (by decide) ?_
        exact ih13_11 f_38 zrletters_35 zrstack_36 n_39 rf_38 (by omega) (by omega) _ _ _ hP hD hS (lv_sub hl [0, 1, 2, 3, 4] rfl)
  have k_40 : (0 : Int32).toInt = 0 := by decide
  exact L13_11 8589934592 f_mtired f_rletters f_rstack 0 hr_mtired (by omega) (by omega) _ _ _ hP hD hS (lv_sub hl [0, 1, 2, 3, 4] rfl)
set_option maxHeartbeats 16000000 in
set_option maxRecDepth 100000 in
theorem c_X1_follow (l : Launch) (D : va_G) (cy : Nat → ClassId) (hs : Nat → Nat) (hH hT sH sT : Nat) (v_tape_size v_band_walkers v_band_loads v_band_pieces v_rules_clauses v_reader_end v_reader_at v_reader_length v_reader_letter v_reader_fault v_draft_clauses v_paces_version v_packing_quicker v_packing_loads v_packing_looseCount v_marches_told v_marches_changeMinutes v_marches_marching v_marches_gone v_search_known v_search_countHere v_search_countThere v_search_cost v_search_most : Int32) (v_search_found : Int64) (f_bytes f_knee f_weight f_limps f_bheft f_owner f_food f_miles f_slope f_rsteps f_rkind f_ryields f_rholds f_rletters f_rstack f_dsteps f_dkind f_dyields f_dholds f_dletters f_dstack f_caps f_versions f_sharing f_pheft f_prow f_holder f_comes f_pcaps f_room f_loose f_reached f_mrow f_minutesOn f_mtired : Nat → Int32) (f_here f_there : Nat → Int64) (f_statesHere f_statesThere f_listed f_stired f_burdens f_pacesOn f_restedOn f_behindOn f_behindFor f_first f_second : Nat → Int32) (f_plans f_tiredOn : Nat → Nat → Int32) (tS : Nat) (sz : Nat) (hb_v_band_walkers : 0 ≤ v_band_walkers.toInt ∧ v_band_walkers.toInt ≤ 6) (hb_v_band_loads : 0 ≤ v_band_loads.toInt ∧ v_band_loads.toInt ≤ 9) (hb_v_band_pieces : 0 ≤ v_band_pieces.toInt ∧ v_band_pieces.toInt ≤ 10) (hb_v_rules_clauses : 0 ≤ v_rules_clauses.toInt ∧ v_rules_clauses.toInt ≤ 14) (hb_v_marches_gone : 0 ≤ v_marches_gone.toInt ∧ v_marches_gone.toInt ≤ 10) (hr_weight : rg (0) 250 f_weight) (hr_limps : rg (0) 1 f_limps) (hr_bheft : rg (0) 120 f_bheft) (hr_food : rg (0) 20 f_food) (hr_miles : rg (0) 20 f_miles) (hr_mrow : rg (0) 17 f_mrow) (hr_mtired : rg (0) 5 f_mtired) (hr_tiredOn : rg2 (0) 5 f_tiredOn) : gMv l yX1_follow cX1_follow 3 5 [.ref (hs 40)] D cy (wSP cy hs hH hT sH sT v_tape_size v_band_walkers v_band_loads v_band_pieces v_rules_clauses v_reader_end v_reader_at v_reader_length v_reader_letter v_reader_fault v_draft_clauses v_paces_version v_packing_quicker v_packing_loads v_packing_looseCount v_marches_told v_marches_changeMinutes v_marches_marching v_marches_gone v_search_known v_search_countHere v_search_countThere v_search_cost v_search_most v_search_found f_bytes f_knee f_weight f_limps f_bheft f_owner f_food f_miles f_slope f_rsteps f_rkind f_ryields f_rholds f_rletters f_rstack f_dsteps f_dkind f_dyields f_dholds f_dletters f_dstack f_caps f_versions f_sharing f_pheft f_prow f_holder f_comes f_pcaps f_room f_loose f_reached f_mrow f_minutesOn f_mtired f_here f_there f_statesHere f_statesThere f_listed f_stired f_burdens f_pacesOn f_restedOn f_behindOn f_behindFor f_first f_second f_plans f_tiredOn) (NS tS) sz (fun (u : Int32 × (Nat → Int32) × (Nat → Int32) × (Nat → Int32) × (Nat → Int32) × (Nat → Nat → Int32)) => (0 ≤ (u.1).toInt ∧ (u.1).toInt ≤ 10) ∧ (rg (0) 5 (u.2.2.2.2.1)) ∧ (rg2 (0) 5 (u.2.2.2.2.2))) (fun u => wSP cy hs hH hT sH sT v_tape_size v_band_walkers v_band_loads v_band_pieces v_rules_clauses v_reader_end v_reader_at v_reader_length v_reader_letter v_reader_fault v_draft_clauses v_paces_version v_packing_quicker v_packing_loads v_packing_looseCount v_marches_told v_marches_changeMinutes v_marches_marching (u.1) v_search_known v_search_countHere v_search_countThere v_search_cost v_search_most v_search_found f_bytes f_knee f_weight f_limps f_bheft f_owner f_food f_miles f_slope f_rsteps f_rkind f_ryields f_rholds (u.2.1) (u.2.2.1) f_dsteps f_dkind f_dyields f_dholds f_dletters f_dstack f_caps f_versions f_sharing f_pheft f_prow f_holder f_comes f_pcaps f_room f_loose f_reached f_mrow (u.2.2.2.1) (u.2.2.2.2.1) f_here f_there f_statesHere f_statesThere f_listed f_stired f_burdens f_pacesOn f_restedOn f_behindOn f_behindFor f_first f_second f_plans (u.2.2.2.2.2)) := by
  refine gMv_in (by decide) (Nat.le_of_ble_eq_true rfl) ?_
  intro p e s m args below meth c A ls Q hx hb hml hts hown hsz hP hK hD hN hAe hA hS hl hret
  subst hsz
  have hl : lv_has ls 3 [(0, .ref (hs 40))] := hl
  have hrt := fun (v_marches_gone' : Int32) (f_rletters' : Nat → Int32) (f_rstack' : Nat → Int32) (f_minutesOn' : Nat → Int32) (f_mtired' : Nat → Int32) (f_tiredOn' : Nat → Nat → Int32) (hp : (0 ≤ v_marches_gone'.toInt ∧ v_marches_gone'.toInt ≤ 10) ∧ (rg (0) 5 f_mtired') ∧ (rg2 (0) 5 f_tiredOn')) {H : Heap} {locs : List Loc} {pc : Nat} {ls : Array Slot} => hret (v_marches_gone', f_rletters', f_rstack', f_minutesOn', f_mtired', f_tiredOn') (H := H) (locs := locs) (pc := pc) (ls := ls) hp
  clear hret
  refine lv_aload_n hx hb dX1_follow_0 rfl (lv_at hl 0 rfl) ?_
  refine lv_iconst (v := 0) hx hb dX1_follow_1 (by decide) ?_
  refine pt_SP_marches_gone (x := 0) hx hb hts hown hK hP hD hS lwd_930 dX1_follow_2 (fun H locs hP hD hS => ?_)
  refine lv_aload_n hx hb dX1_follow_5 rfl (lv_at hl 0 rfl) ?_
  refine gt_SP_marches_tired hx hb hts hown hK hP lwd_115 dX1_follow_6 ?_
  refine lv_iconst (v := 0) hx hb dX1_follow_9 (by decide) ?_
  have k_1 : (0 : Int32).toInt = 0 := by decide
  refine xv hD hS hA (xS (As := [.ref (hs 61), .int 0]) (rest := []) hx hb hml hown hts hK hP hD hS hA NS_ok hN hAe hl.1 ⟨Nat.le_refl _, Nat.le_refl _⟩ (c_fill_mtired l D cy hs hH hT sH sT v_tape_size v_band_walkers v_band_loads v_band_pieces v_rules_clauses v_reader_end v_reader_at v_reader_length v_reader_letter v_reader_fault v_draft_clauses v_paces_version v_packing_quicker v_packing_loads v_packing_looseCount v_marches_told v_marches_changeMinutes v_marches_marching 0 v_search_known v_search_countHere v_search_countThere v_search_cost v_search_most v_search_found f_bytes f_knee f_weight f_limps f_bheft f_owner f_food f_miles f_slope f_rsteps f_rkind f_ryields f_rholds f_rletters f_rstack f_dsteps f_dkind f_dyields f_dholds f_dletters f_dstack f_caps f_versions f_sharing f_pheft f_prow f_holder f_comes f_pcaps f_room f_loose f_reached f_mrow f_minutesOn f_mtired f_here f_there f_statesHere f_statesThere f_listed f_stired f_burdens f_pacesOn f_restedOn f_behindOn f_behindFor f_first f_second f_plans f_tiredOn tS H.size 0 hr_mtired (by omega)) (gi_S lwd_932 lwd_933 lwd_140 lwd_934) hd_J7_fill_53178 ⟨Nat.le_of_ble_eq_true rfl, Nat.le_of_ble_eq_true rfl⟩ rfl (Nat.le_of_ble_eq_true rfl) dX1_follow_10) (fun u_2 H locs hw hP hD hS => ?_)
  obtain ⟨zmtired_4, rfl⟩ : ∃ z, z = u_2 := ⟨_, rfl⟩
  try dsimp only at hw hP hD
  have p_5 := hw
  clear hw
  refine lv_iconst (v := 0) hx hb dX1_follow_13 (by decide) ?_
  refine lv_istore_n (lv' := [(1, .int 0), (0, .ref (hs 40))]) hx hb dX1_follow_14 rfl hl (by decide) rfl (fun ls hl => ?_)
  have L15_20 : ∀ (n : Nat) (f_13 : Nat → Int32) (f_14 : Nat → Int32) (f_15 : Nat → Int32) (f_16 : Nat → Int32) (f_17 : Nat → Nat → Int32) (l_18 : Int32) (w_19 : Int32), (rg (0) 5 f_14) → (rg2 (0) 5 f_17) → (0 ≤ l_18.toInt ∧ l_18.toInt ≤ 10) → (0 ≤ w_19.toInt ∧ w_19.toInt ≤ 10) → (w_19.toInt = l_18.toInt) → 11 - l_18.toInt < n → ∀ (H : Heap) (locs : List Loc) (ls : Array Slot), va_P D vwCl (wSP cy hs hH hT sH sT v_tape_size v_band_walkers v_band_loads v_band_pieces v_rules_clauses v_reader_end v_reader_at v_reader_length v_reader_letter v_reader_fault v_draft_clauses v_paces_version v_packing_quicker v_packing_loads v_packing_looseCount v_marches_told v_marches_changeMinutes v_marches_marching w_19 v_search_known v_search_countHere v_search_countThere v_search_cost v_search_most v_search_found f_bytes f_knee f_weight f_limps f_bheft f_owner f_food f_miles f_slope f_rsteps f_rkind f_ryields f_rholds f_15 f_16 f_dsteps f_dkind f_dyields f_dholds f_dletters f_dstack f_caps f_versions f_sharing f_pheft f_prow f_holder f_comes f_pcaps f_room f_loose f_reached f_mrow f_13 f_14 f_here f_there f_statesHere f_statesThere f_listed f_stired f_burdens f_pacesOn f_restedOn f_behindOn f_behindFor f_first f_second f_plans f_17) H → va_D A (wSP cy hs hH hT sH sT v_tape_size v_band_walkers v_band_loads v_band_pieces v_rules_clauses v_reader_end v_reader_at v_reader_length v_reader_letter v_reader_fault v_draft_clauses v_paces_version v_packing_quicker v_packing_loads v_packing_looseCount v_marches_told v_marches_changeMinutes v_marches_marching w_19 v_search_known v_search_countHere v_search_countThere v_search_cost v_search_most v_search_found f_bytes f_knee f_weight f_limps f_bheft f_owner f_food f_miles f_slope f_rsteps f_rkind f_ryields f_rholds f_15 f_16 f_dsteps f_dkind f_dyields f_dholds f_dletters f_dstack f_caps f_versions f_sharing f_pheft f_prow f_holder f_comes f_pcaps f_room f_loose f_reached f_mrow f_13 f_14 f_here f_there f_statesHere f_statesThere f_listed f_stired f_burdens f_pacesOn f_restedOn f_behindOn f_behindFor f_first f_second f_plans f_17) → va_S A s.heap H locs → lv_has ls 3 [(1, .int l_18), (0, .ref (hs 40))] → W p l e (gRm 5) s m args below meth c H locs 0 0 Q (F0 m 15 ls []) := by
    intro n
    induction n with
    | zero => intro f_13 f_14 f_15 f_16 f_17 l_18 w_19 hL15_20_0 hL15_20_1 hL15_20_2 hL15_20_3 hL15_20_4 hm; exact absurd hm (by omega)
    | succ n ih15_20 =>
      intro f_13 f_14 f_15 f_16 f_17 l_18 w_19 hL15_20_0 hL15_20_1 hL15_20_2 hL15_20_3 hL15_20_4 hmL15_20 H locs ls hP hD hS hl
      refine lv_iload_n hx hb dX1_follow_15 rfl (lv_at hl 0 rfl) ?_
      refine lv_aload_n hx hb dX1_follow_16 rfl (lv_at hl 1 rfl) ?_
      refine gt_SP_marches_band hx hb hts hown hK hP lwd_116 dX1_follow_17 ?_
      refine gt_SP_band_pieces hx hb hts hown hK hP lwd_931 dX1_follow_20 ?_
      refine lv_icmp_ge (tgt := 67) hx hb dX1_follow_23 (by decide) (fun c_21 => ?_) (fun c_21 => ?_)
      · have gc_21 : v_band_pieces.toInt ≤ l_18.toInt := i_le (rfl : v_band_pieces.toInt = v_band_pieces.toInt) (rfl : l_18.toInt = l_18.toInt) c_21
        exact hrt w_19 f_15 f_16 f_13 f_14 f_17 ⟨(by omega), hL15_20_0, hL15_20_1⟩ hP hD hS dX1_follow_67
      · have gc_21 : l_18.toInt < v_band_pieces.toInt := i_nle (rfl : v_band_pieces.toInt = v_band_pieces.toInt) (rfl : l_18.toInt = l_18.toInt) c_21
        refine lv_aload_n hx hb dX1_follow_26 rfl (lv_at hl 1 rfl) ?_
        refine lv_iload_n hx hb dX1_follow_27 rfl (lv_at hl 0 rfl) ?_
        refine xi hD hS hA (xV (As := [.int l_18]) (rest := []) hx hb hml hown hts hK hP hD hS hA NS_ok hN hAe hl.1 ⟨Nat.le_refl _, Nat.le_refl _⟩ 40 rfl rfl rfl (c_X1_restedPace l D cy hs hH hT sH sT v_tape_size v_band_walkers v_band_loads v_band_pieces v_rules_clauses v_reader_end v_reader_at v_reader_length v_reader_letter v_reader_fault v_draft_clauses v_paces_version v_packing_quicker v_packing_loads v_packing_looseCount v_marches_told v_marches_changeMinutes v_marches_marching w_19 v_search_known v_search_countHere v_search_countThere v_search_cost v_search_most v_search_found f_bytes f_knee f_weight f_limps f_bheft f_owner f_food f_miles f_slope f_rsteps f_rkind f_ryields f_rholds f_15 f_16 f_dsteps f_dkind f_dyields f_dholds f_dletters f_dstack f_caps f_versions f_sharing f_pheft f_prow f_holder f_comes f_pcaps f_room f_loose f_reached f_mrow f_13 f_14 f_here f_there f_statesHere f_statesThere f_listed f_stired f_burdens f_pacesOn f_restedOn f_behindOn f_behindFor f_first f_second f_plans f_17 tS H.size l_18 (by omega) (by omega) (by omega) hr_weight hr_limps hr_bheft hr_food hr_miles hr_mrow hL15_20_0 hL15_20_1 (by omega)) (gi_V lwd_935 lwd_936 lwd_937 lwd_38 lwd_938) ⟨rfl, hd_X1_restedPace⟩ ⟨Nat.le_of_ble_eq_true rfl, Nat.le_of_ble_eq_true rfl⟩ rfl (Nat.le_of_ble_eq_true rfl) dX1_follow_28) (fun r_23 u_22 H locs hw hP hD hS => ?_)
        obtain ⟨zrletters_24, zrstack_25, ztiredOn_26⟩ := u_22
        try dsimp only at hw hP hD
        obtain ⟨p_27, p_28⟩ := hw
        refine lv_istore_n (lv' := [(2, .int r_23), (1, .int l_18), (0, .ref (hs 40))]) hx hb dX1_follow_31 rfl hl (by decide) rfl (fun ls hl => ?_)
        refine lv_iload_n hx hb dX1_follow_32 rfl (lv_at hl 0 rfl) ?_
        refine lv_if_ne (tgt := 37) hx hb dX1_follow_33 (by decide) (fun c_29 => ?_) (fun c_29 => ?_)
        · have gc_29 : r_23.toInt ≠ 0 := i_ne (rfl : r_23.toInt = r_23.toInt) (by decide : (0 : Int32).toInt = 0) c_29
          refine lv_aload_n hx hb dX1_follow_37 rfl (lv_at hl 2 rfl) ?_
          refine lv_iload_n hx hb dX1_follow_38 rfl (lv_at hl 1 rfl) ?_
          refine lv_aload_n hx hb dX1_follow_39 rfl (lv_at hl 2 rfl) ?_
          refine gt_SP_marches_band hx hb hts hown hK hP lwd_116 dX1_follow_40 ?_
          refine lv_iload_n hx hb dX1_follow_43 rfl (lv_at hl 1 rfl) ?_
          refine lv_iload_n hx hb dX1_follow_44 rfl (lv_at hl 0 rfl) ?_
          refine xi hD hS hA (xV (As := [.int l_18, .int r_23]) (rest := [.int l_18, .ref (hs 40)]) hx hb hml hown hts hK hP hD hS hA NS_ok hN hAe hl.1 ⟨Nat.le_refl _, Nat.le_refl _⟩ 3 rfl rfl rfl (c_X0_minutes l D cy hs hH hT sH sT v_tape_size v_band_walkers v_band_loads v_band_pieces v_rules_clauses v_reader_end v_reader_at v_reader_length v_reader_letter v_reader_fault v_draft_clauses v_paces_version v_packing_quicker v_packing_loads v_packing_looseCount v_marches_told v_marches_changeMinutes v_marches_marching w_19 v_search_known v_search_countHere v_search_countThere v_search_cost v_search_most v_search_found f_bytes f_knee f_weight f_limps f_bheft f_owner f_food f_miles f_slope f_rsteps f_rkind f_ryields f_rholds zrletters_24 zrstack_25 f_dsteps f_dkind f_dyields f_dholds f_dletters f_dstack f_caps f_versions f_sharing f_pheft f_prow f_holder f_comes f_pcaps f_room f_loose f_reached f_mrow f_13 f_14 f_here f_there f_statesHere f_statesThere f_listed f_stired f_burdens f_pacesOn f_restedOn f_behindOn f_behindFor f_first f_second f_plans ztiredOn_26 tS H.size l_18 r_23 hr_miles (by omega)) (gi_V lwd_953 lwd_635 lwd_636 lwd_18 lwd_637) ⟨rfl, hd_X0_minutes⟩ ⟨Nat.le_of_ble_eq_true rfl, Nat.le_of_ble_eq_true rfl⟩ rfl (Nat.le_of_ble_eq_true rfl) dX1_follow_45) (fun r_31 u_30 H locs hw hP hD hS => ?_)
          try dsimp only at hw hP hD
          clear hw
          refine xv hD hS hA (xV (As := [.int l_18, .int r_31]) (rest := []) hx hb hml hown hts hK hP hD hS hA NS_ok hN hAe hl.1 ⟨Nat.le_refl _, Nat.le_refl _⟩ 40 rfl rfl rfl (c_X1_step l D cy hs hH hT sH sT v_tape_size v_band_walkers v_band_loads v_band_pieces v_rules_clauses v_reader_end v_reader_at v_reader_length v_reader_letter v_reader_fault v_draft_clauses v_paces_version v_packing_quicker v_packing_loads v_packing_looseCount v_marches_told v_marches_changeMinutes v_marches_marching w_19 v_search_known v_search_countHere v_search_countThere v_search_cost v_search_most v_search_found f_bytes f_knee f_weight f_limps f_bheft f_owner f_food f_miles f_slope f_rsteps f_rkind f_ryields f_rholds zrletters_24 zrstack_25 f_dsteps f_dkind f_dyields f_dholds f_dletters f_dstack f_caps f_versions f_sharing f_pheft f_prow f_holder f_comes f_pcaps f_room f_loose f_reached f_mrow f_13 f_14 f_here f_there f_statesHere f_statesThere f_listed f_stired f_burdens f_pacesOn f_restedOn f_behindOn f_behindFor f_first f_second f_plans ztiredOn_26 tS H.size l_18 r_31 (by omega) (by omega) (by omega) hr_weight hr_bheft hr_food hr_miles hr_mrow hL15_20_0 p_28 (by omega)) (gi_V lwd_954 lwd_955 lwd_956 lwd_38 lwd_957) ⟨rfl, hd_X1_step⟩ ⟨Nat.le_of_ble_eq_true rfl, Nat.le_of_ble_eq_true rfl⟩ rfl (Nat.le_of_ble_eq_true rfl) dX1_follow_48) (fun u_32 H locs hw hP hD hS => ?_)
          obtain ⟨zrletters_34, zrstack_35, zminutesOn_36, zmtired_37⟩ := u_32
          try dsimp only at hw hP hD
          have p_38 := hw
          clear hw
          refine lv_aload_n hx hb dX1_follow_51 rfl (lv_at hl 2 rfl) ?_
          refine lv_dup hx hb dX1_follow_52 rfl ?_
          refine gt_SP_marches_gone hx hb hts hown hK hP lwd_930 dX1_follow_53 ?_
          refine lv_iconst (v := 1) hx hb dX1_follow_56 (by decide) ?_
          refine lv_iadd hx hb dX1_follow_57 ?_
          refine lv_topi (fun n_39 en_39 => ?_)
          have tn_39 : n_39.toInt = w_19.toInt + 1 := i_add en_39 (rfl : w_19.toInt = w_19.toInt) (by decide : (1 : Int32).toInt = 1) (by omega) (by omega)
          refine pt_SP_marches_gone (x := n_39) hx hb hts hown hK hP hD hS lwd_930 dX1_follow_58 (fun H locs hP hD hS => ?_)
          obtain ⟨n_40, en_40⟩ : ∃ y : Int32, y = l_18 + 1 := ⟨_, rfl⟩
          have tn_40 : n_40.toInt = l_18.toInt + 1 := i_add en_40 (rfl : l_18.toInt = l_18.toInt) (by decide : (1 : Int32).toInt = 1) (by omega) (by omega)
          refine lv_iinc (v := n_40) (lv' := [(1, .int n_40), (2, .int r_23), (0, .ref (hs 40))]) hx hb dX1_follow_61 hl (k := 1) rfl (by rw [en_40]; rfl) (by decide) rfl (fun ls hl => ?_)
          refine lv_goto (tgt := 15) hx hb dX1_follow_64 (by decide) ?_
          exact ih15_20 zminutesOn_36 zmtired_37 zrletters_34 zrstack_35 ztiredOn_26 n_40 n_39 p_38 p_28 (by omega) (by omega) (by omega) (by omega) _ _ _ hP hD hS (lv_sub hl [0, 2] rfl)
        · have gc_29 : r_23.toInt = 0 := i_eq (rfl : r_23.toInt = r_23.toInt) (by decide : (0 : Int32).toInt = 0) c_29
          exact hrt w_19 zrletters_24 zrstack_25 f_13 f_14 ztiredOn_26 ⟨(by omega), hL15_20_0, p_28⟩ hP hD hS dX1_follow_36
  have k_41 : (0 : Int32).toInt = 0 := by decide
  have k_42 : (0 : Int32).toInt = 0 := by decide
  exact L15_20 8589934592 f_minutesOn zmtired_4 f_rletters f_rstack f_tiredOn 0 0 p_5 hr_tiredOn (by omega) (by omega) (by omega) (by omega) _ _ _ hP hD hS (lv_sub hl [0, 1] rfl)
set_option maxHeartbeats 16000000 in
set_option maxRecDepth 100000 in
theorem c_X1_allMinutes (l : Launch) (D : va_G) (cy : Nat → ClassId) (hs : Nat → Nat) (hH hT sH sT : Nat) (v_tape_size v_band_walkers v_band_loads v_band_pieces v_rules_clauses v_reader_end v_reader_at v_reader_length v_reader_letter v_reader_fault v_draft_clauses v_paces_version v_packing_quicker v_packing_loads v_packing_looseCount v_marches_told v_marches_changeMinutes v_marches_marching v_marches_gone v_search_known v_search_countHere v_search_countThere v_search_cost v_search_most : Int32) (v_search_found : Int64) (f_bytes f_knee f_weight f_limps f_bheft f_owner f_food f_miles f_slope f_rsteps f_rkind f_ryields f_rholds f_rletters f_rstack f_dsteps f_dkind f_dyields f_dholds f_dletters f_dstack f_caps f_versions f_sharing f_pheft f_prow f_holder f_comes f_pcaps f_room f_loose f_reached f_mrow f_minutesOn f_mtired : Nat → Int32) (f_here f_there : Nat → Int64) (f_statesHere f_statesThere f_listed f_stired f_burdens f_pacesOn f_restedOn f_behindOn f_behindFor f_first f_second : Nat → Int32) (f_plans f_tiredOn : Nat → Nat → Int32) (tS : Nat) (sz : Nat) (hb_v_marches_gone : 0 ≤ v_marches_gone.toInt ∧ v_marches_gone.toInt ≤ 10) : gMi l yX1_allMinutes cX1_allMinutes 3 .int 1 [.ref (hs 40)] D cy (wSP cy hs hH hT sH sT v_tape_size v_band_walkers v_band_loads v_band_pieces v_rules_clauses v_reader_end v_reader_at v_reader_length v_reader_letter v_reader_fault v_draft_clauses v_paces_version v_packing_quicker v_packing_loads v_packing_looseCount v_marches_told v_marches_changeMinutes v_marches_marching v_marches_gone v_search_known v_search_countHere v_search_countThere v_search_cost v_search_most v_search_found f_bytes f_knee f_weight f_limps f_bheft f_owner f_food f_miles f_slope f_rsteps f_rkind f_ryields f_rholds f_rletters f_rstack f_dsteps f_dkind f_dyields f_dholds f_dletters f_dstack f_caps f_versions f_sharing f_pheft f_prow f_holder f_comes f_pcaps f_room f_loose f_reached f_mrow f_minutesOn f_mtired f_here f_there f_statesHere f_statesThere f_listed f_stired f_burdens f_pacesOn f_restedOn f_behindOn f_behindFor f_first f_second f_plans f_tiredOn) (NS tS) sz (fun (r : Int32) (u : Unit) => True) (fun u => wSP cy hs hH hT sH sT v_tape_size v_band_walkers v_band_loads v_band_pieces v_rules_clauses v_reader_end v_reader_at v_reader_length v_reader_letter v_reader_fault v_draft_clauses v_paces_version v_packing_quicker v_packing_loads v_packing_looseCount v_marches_told v_marches_changeMinutes v_marches_marching v_marches_gone v_search_known v_search_countHere v_search_countThere v_search_cost v_search_most v_search_found f_bytes f_knee f_weight f_limps f_bheft f_owner f_food f_miles f_slope f_rsteps f_rkind f_ryields f_rholds f_rletters f_rstack f_dsteps f_dkind f_dyields f_dholds f_dletters f_dstack f_caps f_versions f_sharing f_pheft f_prow f_holder f_comes f_pcaps f_room f_loose f_reached f_mrow f_minutesOn f_mtired f_here f_there f_statesHere f_statesThere f_listed f_stired f_burdens f_pacesOn f_restedOn f_behindOn f_behindFor f_first f_second f_plans f_tiredOn) := by
  refine gMi_in (by decide) (Nat.le_of_ble_eq_true rfl) ?_
  intro p e s m args below meth c A ls Q hx hb hml hts hown hsz hP hK hD hN hAe hA hS hl hret
  subst hsz
  have hl : lv_has ls 3 [(0, .ref (hs 40))] := hl
  have hrt := fun (r : Int32)   {H : Heap} {locs : List Loc} {pc : Nat} {ls : Array Slot} => hret r () (H := H) (locs := locs) (pc := pc) (ls := ls) trivial
  clear hret
  refine lv_iconst (v := 0) hx hb dX1_allMinutes_0 (by decide) ?_
  refine lv_istore_n (lv' := [(1, .int 0), (0, .ref (hs 40))]) hx hb dX1_allMinutes_1 rfl hl (by decide) rfl (fun ls hl => ?_)
  refine lv_iconst (v := 0) hx hb dX1_allMinutes_2 (by decide) ?_
  refine lv_istore_n (lv' := [(2, .int 0), (1, .int 0), (0, .ref (hs 40))]) hx hb dX1_allMinutes_3 rfl hl (by decide) rfl (fun ls hl => ?_)
  have L4_5 : ∀ (n : Nat) (l_3 : Int32) (l_4 : Int32), (0 ≤ l_4.toInt ∧ l_4.toInt ≤ 10) → 11 - l_4.toInt < n → ∀ (H : Heap) (locs : List Loc) (ls : Array Slot), va_P D vwCl (wSP cy hs hH hT sH sT v_tape_size v_band_walkers v_band_loads v_band_pieces v_rules_clauses v_reader_end v_reader_at v_reader_length v_reader_letter v_reader_fault v_draft_clauses v_paces_version v_packing_quicker v_packing_loads v_packing_looseCount v_marches_told v_marches_changeMinutes v_marches_marching v_marches_gone v_search_known v_search_countHere v_search_countThere v_search_cost v_search_most v_search_found f_bytes f_knee f_weight f_limps f_bheft f_owner f_food f_miles f_slope f_rsteps f_rkind f_ryields f_rholds f_rletters f_rstack f_dsteps f_dkind f_dyields f_dholds f_dletters f_dstack f_caps f_versions f_sharing f_pheft f_prow f_holder f_comes f_pcaps f_room f_loose f_reached f_mrow f_minutesOn f_mtired f_here f_there f_statesHere f_statesThere f_listed f_stired f_burdens f_pacesOn f_restedOn f_behindOn f_behindFor f_first f_second f_plans f_tiredOn) H → va_D A (wSP cy hs hH hT sH sT v_tape_size v_band_walkers v_band_loads v_band_pieces v_rules_clauses v_reader_end v_reader_at v_reader_length v_reader_letter v_reader_fault v_draft_clauses v_paces_version v_packing_quicker v_packing_loads v_packing_looseCount v_marches_told v_marches_changeMinutes v_marches_marching v_marches_gone v_search_known v_search_countHere v_search_countThere v_search_cost v_search_most v_search_found f_bytes f_knee f_weight f_limps f_bheft f_owner f_food f_miles f_slope f_rsteps f_rkind f_ryields f_rholds f_rletters f_rstack f_dsteps f_dkind f_dyields f_dholds f_dletters f_dstack f_caps f_versions f_sharing f_pheft f_prow f_holder f_comes f_pcaps f_room f_loose f_reached f_mrow f_minutesOn f_mtired f_here f_there f_statesHere f_statesThere f_listed f_stired f_burdens f_pacesOn f_restedOn f_behindOn f_behindFor f_first f_second f_plans f_tiredOn) → va_S A s.heap H locs → lv_has ls 3 [(2, .int l_4), (1, .int l_3), (0, .ref (hs 40))] → W p l e (gRm 1) s m args below meth c H locs 0 0 Q (F0 m 4 ls []) := by
    intro n
    induction n with
    | zero => intro l_3 l_4 hL4_5_0 hm; exact absurd hm (by omega)
    | succ n ih4_5 =>
      intro l_3 l_4 hL4_5_0 hmL4_5 H locs ls hP hD hS hl
      refine lv_iload_n hx hb dX1_allMinutes_4 rfl (lv_at hl 0 rfl) ?_
      refine lv_aload_n hx hb dX1_allMinutes_5 rfl (lv_at hl 2 rfl) ?_
      refine gt_SP_marches_gone hx hb hts hown hK hP lwd_930 dX1_allMinutes_6 ?_
      refine lv_icmp_ge (tgt := 27) hx hb dX1_allMinutes_9 (by decide) (fun c_6 => ?_) (fun c_6 => ?_)
      · have gc_6 : v_marches_gone.toInt ≤ l_4.toInt := i_le (rfl : v_marches_gone.toInt = v_marches_gone.toInt) (rfl : l_4.toInt = l_4.toInt) c_6
        refine lv_iload_n hx hb dX1_allMinutes_27 rfl (lv_at hl 1 rfl) ?_
        exact hrt l_3   hP hD hS rfl dX1_allMinutes_28
      · have gc_6 : l_4.toInt < v_marches_gone.toInt := i_nle (rfl : v_marches_gone.toInt = v_marches_gone.toInt) (rfl : l_4.toInt = l_4.toInt) c_6
        refine lv_iload_n hx hb dX1_allMinutes_12 rfl (lv_at hl 1 rfl) ?_
        refine lv_aload_n hx hb dX1_allMinutes_13 rfl (lv_at hl 2 rfl) ?_
        refine gt_SP_marches_minutesOn hx hb hts hown hK hP lwd_113 dX1_allMinutes_14 ?_
        refine lv_iload_n hx hb dX1_allMinutes_17 rfl (lv_at hl 0 rfl) ?_
        refine al_minutesOn hx hb hK hP (i_in (rfl : l_4.toInt = l_4.toInt) (by omega) (by omega)) dX1_allMinutes_18 (fun n_7 en_7 => ?_)
        refine lv_iadd hx hb dX1_allMinutes_19 ?_
        refine lv_topi (fun n_8 en_8 => ?_)
        refine lv_istore_n (lv' := [(1, .int n_8), (2, .int l_4), (0, .ref (hs 40))]) hx hb dX1_allMinutes_20 rfl hl (by decide) rfl (fun ls hl => ?_)
        obtain ⟨n_9, en_9⟩ : ∃ y : Int32, y = l_4 + 1 := ⟨_, rfl⟩
        have tn_9 : n_9.toInt = l_4.toInt + 1 := i_add en_9 (rfl : l_4.toInt = l_4.toInt) (by decide : (1 : Int32).toInt = 1) (by omega) (by omega)
        refine lv_iinc (v := n_9) (lv' := [(2, .int n_9), (1, .int n_8), (0, .ref (hs 40))]) hx hb dX1_allMinutes_21 hl (k := 1) rfl (by rw [en_9]; rfl) (by decide) rfl (fun ls hl => ?_)
        refine lv_goto (tgt := 4) hx hb dX1_allMinutes_24 (by decide) ?_
        exact ih4_5 n_8 n_9 (by omega) (by omega) _ _ _ hP hD hS (lv_sub hl [0, 1, 2] rfl)
  have k_10 : (0 : Int32).toInt = 0 := by decide
  have k_11 : (0 : Int32).toInt = 0 := by decide
  exact L4_5 8589934592 0 0 (by omega) (by omega) _ _ _ hP hD hS (lv_sub hl [0, 1, 2] rfl)
set_option maxHeartbeats 16000000 in
set_option maxRecDepth 100000 in
theorem c_X1_tiredness (l : Launch) (D : va_G) (cy : Nat → ClassId) (hs : Nat → Nat) (hH hT sH sT : Nat) (v_tape_size v_band_walkers v_band_loads v_band_pieces v_rules_clauses v_reader_end v_reader_at v_reader_length v_reader_letter v_reader_fault v_draft_clauses v_paces_version v_packing_quicker v_packing_loads v_packing_looseCount v_marches_told v_marches_changeMinutes v_marches_marching v_marches_gone v_search_known v_search_countHere v_search_countThere v_search_cost v_search_most : Int32) (v_search_found : Int64) (f_bytes f_knee f_weight f_limps f_bheft f_owner f_food f_miles f_slope f_rsteps f_rkind f_ryields f_rholds f_rletters f_rstack f_dsteps f_dkind f_dyields f_dholds f_dletters f_dstack f_caps f_versions f_sharing f_pheft f_prow f_holder f_comes f_pcaps f_room f_loose f_reached f_mrow f_minutesOn f_mtired : Nat → Int32) (f_here f_there : Nat → Int64) (f_statesHere f_statesThere f_listed f_stired f_burdens f_pacesOn f_restedOn f_behindOn f_behindFor f_first f_second : Nat → Int32) (f_plans f_tiredOn : Nat → Nat → Int32) (tS : Nat) (sz : Nat) (hb_v_band_walkers : 0 ≤ v_band_walkers.toInt ∧ v_band_walkers.toInt ≤ 6) (hr_mtired : rg (0) 5 f_mtired) : gMi l yX1_tiredness cX1_tiredness 3 .int 1 [.ref (hs 40)] D cy (wSP cy hs hH hT sH sT v_tape_size v_band_walkers v_band_loads v_band_pieces v_rules_clauses v_reader_end v_reader_at v_reader_length v_reader_letter v_reader_fault v_draft_clauses v_paces_version v_packing_quicker v_packing_loads v_packing_looseCount v_marches_told v_marches_changeMinutes v_marches_marching v_marches_gone v_search_known v_search_countHere v_search_countThere v_search_cost v_search_most v_search_found f_bytes f_knee f_weight f_limps f_bheft f_owner f_food f_miles f_slope f_rsteps f_rkind f_ryields f_rholds f_rletters f_rstack f_dsteps f_dkind f_dyields f_dholds f_dletters f_dstack f_caps f_versions f_sharing f_pheft f_prow f_holder f_comes f_pcaps f_room f_loose f_reached f_mrow f_minutesOn f_mtired f_here f_there f_statesHere f_statesThere f_listed f_stired f_burdens f_pacesOn f_restedOn f_behindOn f_behindFor f_first f_second f_plans f_tiredOn) (NS tS) sz (fun (r : Int32) (u : Unit) => True) (fun u => wSP cy hs hH hT sH sT v_tape_size v_band_walkers v_band_loads v_band_pieces v_rules_clauses v_reader_end v_reader_at v_reader_length v_reader_letter v_reader_fault v_draft_clauses v_paces_version v_packing_quicker v_packing_loads v_packing_looseCount v_marches_told v_marches_changeMinutes v_marches_marching v_marches_gone v_search_known v_search_countHere v_search_countThere v_search_cost v_search_most v_search_found f_bytes f_knee f_weight f_limps f_bheft f_owner f_food f_miles f_slope f_rsteps f_rkind f_ryields f_rholds f_rletters f_rstack f_dsteps f_dkind f_dyields f_dholds f_dletters f_dstack f_caps f_versions f_sharing f_pheft f_prow f_holder f_comes f_pcaps f_room f_loose f_reached f_mrow f_minutesOn f_mtired f_here f_there f_statesHere f_statesThere f_listed f_stired f_burdens f_pacesOn f_restedOn f_behindOn f_behindFor f_first f_second f_plans f_tiredOn) := by
  refine gMi_in (by decide) (Nat.le_of_ble_eq_true rfl) ?_
  intro p e s m args below meth c A ls Q hx hb hml hts hown hsz hP hK hD hN hAe hA hS hl hret
  subst hsz
  have hl : lv_has ls 3 [(0, .ref (hs 40))] := hl
  have hrt := fun (r : Int32)   {H : Heap} {locs : List Loc} {pc : Nat} {ls : Array Slot} => hret r () (H := H) (locs := locs) (pc := pc) (ls := ls) trivial
  clear hret
  refine lv_iconst (v := 0) hx hb dX1_tiredness_0 (by decide) ?_
  refine lv_istore_n (lv' := [(1, .int 0), (0, .ref (hs 40))]) hx hb dX1_tiredness_1 rfl hl (by decide) rfl (fun ls hl => ?_)
  refine lv_iconst (v := 0) hx hb dX1_tiredness_2 (by decide) ?_
  refine lv_istore_n (lv' := [(2, .int 0), (1, .int 0), (0, .ref (hs 40))]) hx hb dX1_tiredness_3 rfl hl (by decide) rfl (fun ls hl => ?_)
  have L4_5 : ∀ (n : Nat) (l_3 : Int32) (l_4 : Int32), (0 ≤ l_4.toInt ∧ l_4.toInt ≤ 6) → 7 - l_4.toInt < n → ∀ (H : Heap) (locs : List Loc) (ls : Array Slot), va_P D vwCl (wSP cy hs hH hT sH sT v_tape_size v_band_walkers v_band_loads v_band_pieces v_rules_clauses v_reader_end v_reader_at v_reader_length v_reader_letter v_reader_fault v_draft_clauses v_paces_version v_packing_quicker v_packing_loads v_packing_looseCount v_marches_told v_marches_changeMinutes v_marches_marching v_marches_gone v_search_known v_search_countHere v_search_countThere v_search_cost v_search_most v_search_found f_bytes f_knee f_weight f_limps f_bheft f_owner f_food f_miles f_slope f_rsteps f_rkind f_ryields f_rholds f_rletters f_rstack f_dsteps f_dkind f_dyields f_dholds f_dletters f_dstack f_caps f_versions f_sharing f_pheft f_prow f_holder f_comes f_pcaps f_room f_loose f_reached f_mrow f_minutesOn f_mtired f_here f_there f_statesHere f_statesThere f_listed f_stired f_burdens f_pacesOn f_restedOn f_behindOn f_behindFor f_first f_second f_plans f_tiredOn) H → va_D A (wSP cy hs hH hT sH sT v_tape_size v_band_walkers v_band_loads v_band_pieces v_rules_clauses v_reader_end v_reader_at v_reader_length v_reader_letter v_reader_fault v_draft_clauses v_paces_version v_packing_quicker v_packing_loads v_packing_looseCount v_marches_told v_marches_changeMinutes v_marches_marching v_marches_gone v_search_known v_search_countHere v_search_countThere v_search_cost v_search_most v_search_found f_bytes f_knee f_weight f_limps f_bheft f_owner f_food f_miles f_slope f_rsteps f_rkind f_ryields f_rholds f_rletters f_rstack f_dsteps f_dkind f_dyields f_dholds f_dletters f_dstack f_caps f_versions f_sharing f_pheft f_prow f_holder f_comes f_pcaps f_room f_loose f_reached f_mrow f_minutesOn f_mtired f_here f_there f_statesHere f_statesThere f_listed f_stired f_burdens f_pacesOn f_restedOn f_behindOn f_behindFor f_first f_second f_plans f_tiredOn) → va_S A s.heap H locs → lv_has ls 3 [(2, .int l_4), (1, .int l_3), (0, .ref (hs 40))] → W p l e (gRm 1) s m args below meth c H locs 0 0 Q (F0 m 4 ls []) := by
    intro n
    induction n with
    | zero => intro l_3 l_4 hL4_5_0 hm; exact absurd hm (by omega)
    | succ n ih4_5 =>
      intro l_3 l_4 hL4_5_0 hmL4_5 H locs ls hP hD hS hl
      refine lv_iload_n hx hb dX1_tiredness_4 rfl (lv_at hl 0 rfl) ?_
      refine lv_aload_n hx hb dX1_tiredness_5 rfl (lv_at hl 2 rfl) ?_
      refine gt_SP_marches_band hx hb hts hown hK hP lwd_116 dX1_tiredness_6 ?_
      refine gt_SP_band_walkers hx hb hts hown hK hP lwd_939 dX1_tiredness_9 ?_
      refine lv_icmp_ge (tgt := 36) hx hb dX1_tiredness_12 (by decide) (fun c_6 => ?_) (fun c_6 => ?_)
      · have gc_6 : v_band_walkers.toInt ≤ l_4.toInt := i_le (rfl : v_band_walkers.toInt = v_band_walkers.toInt) (rfl : l_4.toInt = l_4.toInt) c_6
        refine lv_iload_n hx hb dX1_tiredness_36 rfl (lv_at hl 1 rfl) ?_
        exact hrt l_3   hP hD hS rfl dX1_tiredness_37
      · have gc_6 : l_4.toInt < v_band_walkers.toInt := i_nle (rfl : v_band_walkers.toInt = v_band_walkers.toInt) (rfl : l_4.toInt = l_4.toInt) c_6
        refine lv_iload_n hx hb dX1_tiredness_15 rfl (lv_at hl 1 rfl) ?_
        refine lv_aload_n hx hb dX1_tiredness_16 rfl (lv_at hl 2 rfl) ?_
        refine gt_SP_marches_tired hx hb hts hown hK hP lwd_115 dX1_tiredness_17 ?_
        refine lv_iload_n hx hb dX1_tiredness_20 rfl (lv_at hl 0 rfl) ?_
        refine al_mtired hx hb hK hP hr_mtired (i_in (rfl : l_4.toInt = l_4.toInt) (by omega) (by omega)) dX1_tiredness_21 (fun n_7 en_7 bn_7 => ?_)
        refine va_getsN hx hb (show va_Z "SlowPace" "SIXES" "[I" (.ref tS) A s s.heap by rw [hAe]; exact hN.1.2.2.1) hS hown (va_Nw.use rfl hN.2.1) (fun _ h => h) dX1_tiredness_22 ?_
        refine lv_iload_n hx hb dX1_tiredness_25 rfl (lv_at hl 0 rfl) ?_
        refine va_ti hx hb (show va_T .int tS 6 sixF A s s.heap by rw [hAe]; exact hN.1.2.2.2) hS (i_in (rfl : l_4.toInt = l_4.toInt) (by omega) (by omega)) rfl dX1_tiredness_26 ?_
        refine lv_topi (fun n_8 en_8 => ?_)
        have bn_8 := six_is en_8 (by omega : 0 ≤ l_4.toInt ∧ l_4.toInt < 6) (rfl : l_4.toInt = l_4.toInt)
        refine lv_imul hx hb dX1_tiredness_27 ?_
        have mb_9 := mul_bd (a := n_7.toInt) (b := n_8.toInt) (A := 5) (B := 7776) (by omega) (by omega) (by omega) (by omega)
        refine lv_topi (fun n_10 en_10 => ?_)
        have tn_10 : n_10.toInt = n_7.toInt * n_8.toInt := i_mul en_10 (rfl : n_7.toInt = n_7.toInt) (rfl : n_8.toInt = n_8.toInt) (by omega) (by omega)
        refine lv_iadd hx hb dX1_tiredness_28 ?_
        refine lv_topi (fun n_11 en_11 => ?_)
        refine lv_istore_n (lv' := [(1, .int n_11), (2, .int l_4), (0, .ref (hs 40))]) hx hb dX1_tiredness_29 rfl hl (by decide) rfl (fun ls hl => ?_)
        obtain ⟨n_12, en_12⟩ : ∃ y : Int32, y = l_4 + 1 := ⟨_, rfl⟩
        have tn_12 : n_12.toInt = l_4.toInt + 1 := i_add en_12 (rfl : l_4.toInt = l_4.toInt) (by decide : (1 : Int32).toInt = 1) (by omega) (by omega)
        refine lv_iinc (v := n_12) (lv' := [(2, .int n_12), (1, .int n_11), (0, .ref (hs 40))]) hx hb dX1_tiredness_30 hl (k := 1) rfl (by rw [en_12]; rfl) (by decide) rfl (fun ls hl => ?_)
        refine lv_goto (tgt := 4) hx hb dX1_tiredness_33 (by decide) ?_
        exact ih4_5 n_11 n_12 (by omega) (by omega) _ _ _ hP hD hS (lv_sub hl [0, 1, 2] rfl)
  have k_13 : (0 : Int32).toInt = 0 := by decide
  have k_14 : (0 : Int32).toInt = 0 := by decide
  exact L4_5 8589934592 0 0 (by omega) (by omega) _ _ _ hP hD hS (lv_sub hl [0, 1, 2] rfl)
set_option maxHeartbeats 16000000 in
set_option maxRecDepth 100000 in
theorem c_X1_changes (l : Launch) (D : va_G) (cy : Nat → ClassId) (hs : Nat → Nat) (hH hT sH sT : Nat) (v_tape_size v_band_walkers v_band_loads v_band_pieces v_rules_clauses v_reader_end v_reader_at v_reader_length v_reader_letter v_reader_fault v_draft_clauses v_paces_version v_packing_quicker v_packing_loads v_packing_looseCount v_marches_told v_marches_changeMinutes v_marches_marching v_marches_gone v_search_known v_search_countHere v_search_countThere v_search_cost v_search_most : Int32) (v_search_found : Int64) (f_bytes f_knee f_weight f_limps f_bheft f_owner f_food f_miles f_slope f_rsteps f_rkind f_ryields f_rholds f_rletters f_rstack f_dsteps f_dkind f_dyields f_dholds f_dletters f_dstack f_caps f_versions f_sharing f_pheft f_prow f_holder f_comes f_pcaps f_room f_loose f_reached f_mrow f_minutesOn f_mtired : Nat → Int32) (f_here f_there : Nat → Int64) (f_statesHere f_statesThere f_listed f_stired f_burdens f_pacesOn f_restedOn f_behindOn f_behindFor f_first f_second : Nat → Int32) (f_plans f_tiredOn : Nat → Nat → Int32) (tS : Nat) (sz : Nat) (hb_v_marches_gone : 0 ≤ v_marches_gone.toInt ∧ v_marches_gone.toInt ≤ 10) (hr_mrow : rg (0) 17 f_mrow) : gMi l yX1_changes cX1_changes 3 .int 2 [.ref (hs 40)] D cy (wSP cy hs hH hT sH sT v_tape_size v_band_walkers v_band_loads v_band_pieces v_rules_clauses v_reader_end v_reader_at v_reader_length v_reader_letter v_reader_fault v_draft_clauses v_paces_version v_packing_quicker v_packing_loads v_packing_looseCount v_marches_told v_marches_changeMinutes v_marches_marching v_marches_gone v_search_known v_search_countHere v_search_countThere v_search_cost v_search_most v_search_found f_bytes f_knee f_weight f_limps f_bheft f_owner f_food f_miles f_slope f_rsteps f_rkind f_ryields f_rholds f_rletters f_rstack f_dsteps f_dkind f_dyields f_dholds f_dletters f_dstack f_caps f_versions f_sharing f_pheft f_prow f_holder f_comes f_pcaps f_room f_loose f_reached f_mrow f_minutesOn f_mtired f_here f_there f_statesHere f_statesThere f_listed f_stired f_burdens f_pacesOn f_restedOn f_behindOn f_behindFor f_first f_second f_plans f_tiredOn) (NS tS) sz (fun (r : Int32) (u : Unit) => True) (fun u => wSP cy hs hH hT sH sT v_tape_size v_band_walkers v_band_loads v_band_pieces v_rules_clauses v_reader_end v_reader_at v_reader_length v_reader_letter v_reader_fault v_draft_clauses v_paces_version v_packing_quicker v_packing_loads v_packing_looseCount v_marches_told v_marches_changeMinutes v_marches_marching v_marches_gone v_search_known v_search_countHere v_search_countThere v_search_cost v_search_most v_search_found f_bytes f_knee f_weight f_limps f_bheft f_owner f_food f_miles f_slope f_rsteps f_rkind f_ryields f_rholds f_rletters f_rstack f_dsteps f_dkind f_dyields f_dholds f_dletters f_dstack f_caps f_versions f_sharing f_pheft f_prow f_holder f_comes f_pcaps f_room f_loose f_reached f_mrow f_minutesOn f_mtired f_here f_there f_statesHere f_statesThere f_listed f_stired f_burdens f_pacesOn f_restedOn f_behindOn f_behindFor f_first f_second f_plans f_tiredOn) := by
  refine gMi_in (by decide) (Nat.le_of_ble_eq_true rfl) ?_
  intro p e s m args below meth c A ls Q hx hb hml hts hown hsz hP hK hD hN hAe hA hS hl hret
  subst hsz
  have hl : lv_has ls 3 [(0, .ref (hs 40))] := hl
  have hrt := fun (r : Int32)   {H : Heap} {locs : List Loc} {pc : Nat} {ls : Array Slot} => hret r () (H := H) (locs := locs) (pc := pc) (ls := ls) trivial
  clear hret
  refine lv_iconst (v := 0) hx hb dX1_changes_0 (by decide) ?_
  refine lv_istore_n (lv' := [(1, .int 0), (0, .ref (hs 40))]) hx hb dX1_changes_1 rfl hl (by decide) rfl (fun ls hl => ?_)
  refine lv_iconst (v := 0) hx hb dX1_changes_2 (by decide) ?_
  refine lv_istore_n (lv' := [(2, .int 0), (1, .int 0), (0, .ref (hs 40))]) hx hb dX1_changes_3 rfl hl (by decide) rfl (fun ls hl => ?_)
  have L4_5 : ∀ (n : Nat) (l_3 : Int32) (l_4 : Int32), (0 ≤ l_4.toInt ∧ l_4.toInt ≤ 10) → 11 - l_4.toInt < n → ∀ (H : Heap) (locs : List Loc) (ls : Array Slot), va_P D vwCl (wSP cy hs hH hT sH sT v_tape_size v_band_walkers v_band_loads v_band_pieces v_rules_clauses v_reader_end v_reader_at v_reader_length v_reader_letter v_reader_fault v_draft_clauses v_paces_version v_packing_quicker v_packing_loads v_packing_looseCount v_marches_told v_marches_changeMinutes v_marches_marching v_marches_gone v_search_known v_search_countHere v_search_countThere v_search_cost v_search_most v_search_found f_bytes f_knee f_weight f_limps f_bheft f_owner f_food f_miles f_slope f_rsteps f_rkind f_ryields f_rholds f_rletters f_rstack f_dsteps f_dkind f_dyields f_dholds f_dletters f_dstack f_caps f_versions f_sharing f_pheft f_prow f_holder f_comes f_pcaps f_room f_loose f_reached f_mrow f_minutesOn f_mtired f_here f_there f_statesHere f_statesThere f_listed f_stired f_burdens f_pacesOn f_restedOn f_behindOn f_behindFor f_first f_second f_plans f_tiredOn) H → va_D A (wSP cy hs hH hT sH sT v_tape_size v_band_walkers v_band_loads v_band_pieces v_rules_clauses v_reader_end v_reader_at v_reader_length v_reader_letter v_reader_fault v_draft_clauses v_paces_version v_packing_quicker v_packing_loads v_packing_looseCount v_marches_told v_marches_changeMinutes v_marches_marching v_marches_gone v_search_known v_search_countHere v_search_countThere v_search_cost v_search_most v_search_found f_bytes f_knee f_weight f_limps f_bheft f_owner f_food f_miles f_slope f_rsteps f_rkind f_ryields f_rholds f_rletters f_rstack f_dsteps f_dkind f_dyields f_dholds f_dletters f_dstack f_caps f_versions f_sharing f_pheft f_prow f_holder f_comes f_pcaps f_room f_loose f_reached f_mrow f_minutesOn f_mtired f_here f_there f_statesHere f_statesThere f_listed f_stired f_burdens f_pacesOn f_restedOn f_behindOn f_behindFor f_first f_second f_plans f_tiredOn) → va_S A s.heap H locs → lv_has ls 3 [(2, .int l_4), (1, .int l_3), (0, .ref (hs 40))] → W p l e (gRm 2) s m args below meth c H locs 0 0 Q (F0 m 4 ls []) := by
    intro n
    induction n with
    | zero => intro l_3 l_4 hL4_5_0 hm; exact absurd hm (by omega)
    | succ n ih4_5 =>
      intro l_3 l_4 hL4_5_0 hmL4_5 H locs ls hP hD hS hl
      refine lv_iload_n hx hb dX1_changes_4 rfl (lv_at hl 0 rfl) ?_
      refine lv_aload_n hx hb dX1_changes_5 rfl (lv_at hl 2 rfl) ?_
      refine gt_SP_marches_gone hx hb hts hown hK hP lwd_930 dX1_changes_6 ?_
      refine lv_icmp_ge (tgt := 34) hx hb dX1_changes_9 (by decide) (fun c_6 => ?_) (fun c_6 => ?_)
      · have gc_6 : v_marches_gone.toInt ≤ l_4.toInt := i_le (rfl : v_marches_gone.toInt = v_marches_gone.toInt) (rfl : l_4.toInt = l_4.toInt) c_6
        refine lv_iload_n hx hb dX1_changes_34 rfl (lv_at hl 1 rfl) ?_
        exact hrt l_3   hP hD hS rfl dX1_changes_35
      · have gc_6 : l_4.toInt < v_marches_gone.toInt := i_nle (rfl : v_marches_gone.toInt = v_marches_gone.toInt) (rfl : l_4.toInt = l_4.toInt) c_6
        refine lv_iload_n hx hb dX1_changes_12 rfl (lv_at hl 1 rfl) ?_
        refine lv_aload_n hx hb dX1_changes_13 rfl (lv_at hl 2 rfl) ?_
        refine lv_iload_n hx hb dX1_changes_14 rfl (lv_at hl 0 rfl) ?_
        refine xi hD hS hA (xV (As := [.int l_4]) (rest := [.int l_3]) hx hb hml hown hts hK hP hD hS hA NS_ok hN hAe hl.1 ⟨Nat.le_refl _, Nat.le_refl _⟩ 40 rfl rfl rfl (c_X1_changesAt l D cy hs hH hT sH sT v_tape_size v_band_walkers v_band_loads v_band_pieces v_rules_clauses v_reader_end v_reader_at v_reader_length v_reader_letter v_reader_fault v_draft_clauses v_paces_version v_packing_quicker v_packing_loads v_packing_looseCount v_marches_told v_marches_changeMinutes v_marches_marching v_marches_gone v_search_known v_search_countHere v_search_countThere v_search_cost v_search_most v_search_found f_bytes f_knee f_weight f_limps f_bheft f_owner f_food f_miles f_slope f_rsteps f_rkind f_ryields f_rholds f_rletters f_rstack f_dsteps f_dkind f_dyields f_dholds f_dletters f_dstack f_caps f_versions f_sharing f_pheft f_prow f_holder f_comes f_pcaps f_room f_loose f_reached f_mrow f_minutesOn f_mtired f_here f_there f_statesHere f_statesThere f_listed f_stired f_burdens f_pacesOn f_restedOn f_behindOn f_behindFor f_first f_second f_plans f_tiredOn tS H.size l_4 hr_mrow (by omega)) (gi_V lwd_963 lwd_964 lwd_965 lwd_38 lwd_966) ⟨rfl, hd_X1_changesAt⟩ ⟨Nat.le_of_ble_eq_true rfl, Nat.le_of_ble_eq_true rfl⟩ rfl (Nat.le_of_ble_eq_true rfl) dX1_changes_15) (fun r_8 u_7 H locs hw hP hD hS => ?_)
        try dsimp only at hw hP hD
        have p_9 := hw
        clear hw
        refine lv_if_eq (tgt := 25) hx hb dX1_changes_18 (by decide) (fun c_10 => ?_) (fun c_10 => ?_)
        · have gc_10 : r_8.toInt = 0 := i_eq (rfl : r_8.toInt = r_8.toInt) (by decide : (0 : Int32).toInt = 0) c_10
          refine lv_iconst (v := 0) hx hb dX1_changes_25 (by decide) ?_
          refine lv_iadd hx hb dX1_changes_26 ?_
          have hb_11 := And.intro (i_bot l_3) (i_top l_3)
          refine lv_topi (fun n_12 en_12 => ?_)
          have tn_12 : n_12.toInt = l_3.toInt + 0 := i_add en_12 (rfl : l_3.toInt = l_3.toInt) (by decide : (0 : Int32).toInt = 0) (by omega) (by omega)
          refine lv_istore_n (lv' := [(1, .int n_12), (2, .int l_4), (0, .ref (hs 40))]) hx hb dX1_changes_27 rfl hl (by decide) rfl (fun ls hl => ?_)
          obtain ⟨n_13, en_13⟩ : ∃ y : Int32, y = l_4 + 1 := ⟨_, rfl⟩
          have tn_13 : n_13.toInt = l_4.toInt + 1 := i_add en_13 (rfl : l_4.toInt = l_4.toInt) (by decide : (1 : Int32).toInt = 1) (by omega) (by omega)
          refine lv_iinc (v := n_13) (lv' := [(2, .int n_13), (1, .int n_12), (0, .ref (hs 40))]) hx hb dX1_changes_28 hl (k := 1) rfl (by rw [en_13]; rfl) (by decide) rfl (fun ls hl => ?_)
          refine lv_goto (tgt := 4) hx hb dX1_changes_31 (by decide) ?_
          exact ih4_5 n_12 n_13 (by omega) (by omega) _ _ _ hP hD hS (lv_sub hl [0, 1, 2] rfl)
        · have gc_10 : r_8.toInt ≠ 0 := i_ne (rfl : r_8.toInt = r_8.toInt) (by decide : (0 : Int32).toInt = 0) c_10
          refine lv_iconst (v := 1) hx hb dX1_changes_21 (by decide) ?_
          refine lv_goto (tgt := 26) hx hb dX1_changes_22 (by decide) ?_
          refine lv_iadd hx hb dX1_changes_26 ?_
          refine lv_topi (fun n_14 en_14 => ?_)
          refine lv_istore_n (lv' := [(1, .int n_14), (2, .int l_4), (0, .ref (hs 40))]) hx hb dX1_changes_27 rfl hl (by decide) rfl (fun ls hl => ?_)
          obtain ⟨n_15, en_15⟩ : ∃ y : Int32, y = l_4 + 1 := ⟨_, rfl⟩
          have tn_15 : n_15.toInt = l_4.toInt + 1 := i_add en_15 (rfl : l_4.toInt = l_4.toInt) (by decide : (1 : Int32).toInt = 1) (by omega) (by omega)
          refine lv_iinc (v := n_15) (lv' := [(2, .int n_15), (1, .int n_14), (0, .ref (hs 40))]) hx hb dX1_changes_28 hl (k := 1) rfl (by rw [en_15]; rfl) (by decide) rfl (fun ls hl => ?_)
          refine lv_goto (tgt := 4) hx hb dX1_changes_31 (by decide) ?_
          exact ih4_5 n_14 n_15 (by omega) (by omega) _ _ _ hP hD hS (lv_sub hl [0, 1, 2] rfl)
  have k_16 : (0 : Int32).toInt = 0 := by decide
  have k_17 : (0 : Int32).toInt = 0 := by decide
  exact L4_5 8589934592 0 0 (by omega) (by omega) _ _ _ hP hD hS (lv_sub hl [0, 1, 2] rfl)
set_option maxHeartbeats 16000000 in
set_option maxRecDepth 100000 in
theorem c_X1_milesWith (l : Launch) (D : va_G) (cy : Nat → ClassId) (hs : Nat → Nat) (hH hT sH sT : Nat) (v_tape_size v_band_walkers v_band_loads v_band_pieces v_rules_clauses v_reader_end v_reader_at v_reader_length v_reader_letter v_reader_fault v_draft_clauses v_paces_version v_packing_quicker v_packing_loads v_packing_looseCount v_marches_told v_marches_changeMinutes v_marches_marching v_marches_gone v_search_known v_search_countHere v_search_countThere v_search_cost v_search_most : Int32) (v_search_found : Int64) (f_bytes f_knee f_weight f_limps f_bheft f_owner f_food f_miles f_slope f_rsteps f_rkind f_ryields f_rholds f_rletters f_rstack f_dsteps f_dkind f_dyields f_dholds f_dletters f_dstack f_caps f_versions f_sharing f_pheft f_prow f_holder f_comes f_pcaps f_room f_loose f_reached f_mrow f_minutesOn f_mtired : Nat → Int32) (f_here f_there : Nat → Int64) (f_statesHere f_statesThere f_listed f_stired f_burdens f_pacesOn f_restedOn f_behindOn f_behindFor f_first f_second : Nat → Int32) (f_plans f_tiredOn : Nat → Nat → Int32) (tS : Nat) (sz : Nat) (x : Int32) (w : Int32) (hb_v_marches_gone : 0 ≤ v_marches_gone.toInt ∧ v_marches_gone.toInt ≤ 10) (hr_miles : rg (0) 20 f_miles) (hr_mrow : rg (0) 17 f_mrow) (ha_x : 0 ≤ x.toInt ∧ x.toInt ≤ 8) : gMi l yX1_milesWith cX1_milesWith 5 .int 1 [.ref (hs 40), .int x, .int w] D cy (wSP cy hs hH hT sH sT v_tape_size v_band_walkers v_band_loads v_band_pieces v_rules_clauses v_reader_end v_reader_at v_reader_length v_reader_letter v_reader_fault v_draft_clauses v_paces_version v_packing_quicker v_packing_loads v_packing_looseCount v_marches_told v_marches_changeMinutes v_marches_marching v_marches_gone v_search_known v_search_countHere v_search_countThere v_search_cost v_search_most v_search_found f_bytes f_knee f_weight f_limps f_bheft f_owner f_food f_miles f_slope f_rsteps f_rkind f_ryields f_rholds f_rletters f_rstack f_dsteps f_dkind f_dyields f_dholds f_dletters f_dstack f_caps f_versions f_sharing f_pheft f_prow f_holder f_comes f_pcaps f_room f_loose f_reached f_mrow f_minutesOn f_mtired f_here f_there f_statesHere f_statesThere f_listed f_stired f_burdens f_pacesOn f_restedOn f_behindOn f_behindFor f_first f_second f_plans f_tiredOn) (NS tS) sz (fun (r : Int32) (u : Unit) => True) (fun u => wSP cy hs hH hT sH sT v_tape_size v_band_walkers v_band_loads v_band_pieces v_rules_clauses v_reader_end v_reader_at v_reader_length v_reader_letter v_reader_fault v_draft_clauses v_paces_version v_packing_quicker v_packing_loads v_packing_looseCount v_marches_told v_marches_changeMinutes v_marches_marching v_marches_gone v_search_known v_search_countHere v_search_countThere v_search_cost v_search_most v_search_found f_bytes f_knee f_weight f_limps f_bheft f_owner f_food f_miles f_slope f_rsteps f_rkind f_ryields f_rholds f_rletters f_rstack f_dsteps f_dkind f_dyields f_dholds f_dletters f_dstack f_caps f_versions f_sharing f_pheft f_prow f_holder f_comes f_pcaps f_room f_loose f_reached f_mrow f_minutesOn f_mtired f_here f_there f_statesHere f_statesThere f_listed f_stired f_burdens f_pacesOn f_restedOn f_behindOn f_behindFor f_first f_second f_plans f_tiredOn) := by
  refine gMi_in (by decide) (Nat.le_of_ble_eq_true rfl) ?_
  intro p e s m args below meth c A ls Q hx hb hml hts hown hsz hP hK hD hN hAe hA hS hl hret
  subst hsz
  have hl : lv_has ls 5 [(0, .ref (hs 40)), (1, .int x), (2, .int w)] := hl
  have hrt := fun (r : Int32)   {H : Heap} {locs : List Loc} {pc : Nat} {ls : Array Slot} => hret r () (H := H) (locs := locs) (pc := pc) (ls := ls) trivial
  clear hret
  refine lv_iconst (v := 0) hx hb dX1_milesWith_0 (by decide) ?_
  refine lv_istore_n (lv' := [(3, .int 0), (0, .ref (hs 40)), (1, .int x), (2, .int w)]) hx hb dX1_milesWith_1 rfl hl (by decide) rfl (fun ls hl => ?_)
  refine lv_iconst (v := 0) hx hb dX1_milesWith_2 (by decide) ?_
  refine lv_istore (lv' := [(4, .int 0), (3, .int 0), (0, .ref (hs 40)), (1, .int x), (2, .int w)]) hx hb dX1_milesWith_3 hl (by decide) rfl (fun ls hl => ?_)
  have L5_5 : ∀ (n : Nat) (l_3 : Int32) (l_4 : Int32), (0 ≤ l_4.toInt ∧ l_4.toInt ≤ 10) → 11 - l_4.toInt < n → ∀ (H : Heap) (locs : List Loc) (ls : Array Slot), va_P D vwCl (wSP cy hs hH hT sH sT v_tape_size v_band_walkers v_band_loads v_band_pieces v_rules_clauses v_reader_end v_reader_at v_reader_length v_reader_letter v_reader_fault v_draft_clauses v_paces_version v_packing_quicker v_packing_loads v_packing_looseCount v_marches_told v_marches_changeMinutes v_marches_marching v_marches_gone v_search_known v_search_countHere v_search_countThere v_search_cost v_search_most v_search_found f_bytes f_knee f_weight f_limps f_bheft f_owner f_food f_miles f_slope f_rsteps f_rkind f_ryields f_rholds f_rletters f_rstack f_dsteps f_dkind f_dyields f_dholds f_dletters f_dstack f_caps f_versions f_sharing f_pheft f_prow f_holder f_comes f_pcaps f_room f_loose f_reached f_mrow f_minutesOn f_mtired f_here f_there f_statesHere f_statesThere f_listed f_stired f_burdens f_pacesOn f_restedOn f_behindOn f_behindFor f_first f_second f_plans f_tiredOn) H → va_D A (wSP cy hs hH hT sH sT v_tape_size v_band_walkers v_band_loads v_band_pieces v_rules_clauses v_reader_end v_reader_at v_reader_length v_reader_letter v_reader_fault v_draft_clauses v_paces_version v_packing_quicker v_packing_loads v_packing_looseCount v_marches_told v_marches_changeMinutes v_marches_marching v_marches_gone v_search_known v_search_countHere v_search_countThere v_search_cost v_search_most v_search_found f_bytes f_knee f_weight f_limps f_bheft f_owner f_food f_miles f_slope f_rsteps f_rkind f_ryields f_rholds f_rletters f_rstack f_dsteps f_dkind f_dyields f_dholds f_dletters f_dstack f_caps f_versions f_sharing f_pheft f_prow f_holder f_comes f_pcaps f_room f_loose f_reached f_mrow f_minutesOn f_mtired f_here f_there f_statesHere f_statesThere f_listed f_stired f_burdens f_pacesOn f_restedOn f_behindOn f_behindFor f_first f_second f_plans f_tiredOn) → va_S A s.heap H locs → lv_has ls 5 [(4, .int l_4), (3, .int l_3), (0, .ref (hs 40)), (1, .int x), (2, .int w)] → W p l e (gRm 1) s m args below meth c H locs 0 0 Q (F0 m 5 ls []) := by
    intro n
    induction n with
    | zero => intro l_3 l_4 hL5_5_0 hm; exact absurd hm (by omega)
    | succ n ih5_5 =>
      intro l_3 l_4 hL5_5_0 hmL5_5 H locs ls hP hD hS hl
      refine lv_iload hx hb dX1_milesWith_5 (lv_at hl 0 rfl) ?_
      refine lv_aload_n hx hb dX1_milesWith_7 rfl (lv_at hl 2 rfl) ?_
      refine gt_SP_marches_gone hx hb hts hown hK hP lwd_930 dX1_milesWith_8 ?_
      refine lv_icmp_ge (tgt := 54) hx hb dX1_milesWith_11 (by decide) (fun c_6 => ?_) (fun c_6 => ?_)
      · have gc_6 : v_marches_gone.toInt ≤ l_4.toInt := i_le (rfl : v_marches_gone.toInt = v_marches_gone.toInt) (rfl : l_4.toInt = l_4.toInt) c_6
        refine lv_iload_n hx hb dX1_milesWith_54 rfl (lv_at hl 1 rfl) ?_
        exact hrt l_3   hP hD hS rfl dX1_milesWith_55
      · have gc_6 : l_4.toInt < v_marches_gone.toInt := i_nle (rfl : v_marches_gone.toInt = v_marches_gone.toInt) (rfl : l_4.toInt = l_4.toInt) c_6
        refine lv_aload_n hx hb dX1_milesWith_14 rfl (lv_at hl 2 rfl) ?_
        refine gt_SP_marches_plans hx hb hts hown hK hP lwd_110 dX1_milesWith_15 ?_
        refine lv_aload_n hx hb dX1_milesWith_18 rfl (lv_at hl 2 rfl) ?_
        refine gt_SP_marches_row hx hb hts hown hK hP lwd_112 dX1_milesWith_19 ?_
        refine lv_iload hx hb dX1_milesWith_22 (lv_at hl 0 rfl) ?_
        refine al_mrow hx hb hK hP hr_mrow (i_in (rfl : l_4.toInt = l_4.toInt) (by omega) (by omega)) dX1_milesWith_24 (fun n_7 en_7 bn_7 => ?_)
        refine lv_bipush (v := 6) hx hb dX1_milesWith_25 (by decide) ?_
        refine lv_irem hx hb dX1_milesWith_27 (by decide) ?_
        refine lv_topi (fun n_8 en_8 => ?_)
        have tn_8 : n_8.toInt = n_7.toInt % 6 := i_rem en_8 (rfl : n_7.toInt = n_7.toInt) (by decide : (6 : Int32).toInt = 6) (by omega) (by omega)
        refine aq_plans (i := n_8) hx hb hK hP (by first | omega | decide) dX1_milesWith_28 ?_
        refine lv_iload_n hx hb dX1_milesWith_29 rfl (lv_at hl 3 rfl) ?_
        refine ar_plans (i := n_8) hx hb hK hP (by first | omega | decide) (i_in (rfl : x.toInt = x.toInt) (by omega) (by omega)) dX1_milesWith_30 (fun n_9 en_9 => ?_)
        refine lv_iload_n hx hb dX1_milesWith_31 rfl (lv_at hl 4 rfl) ?_
        refine lv_icmp_ne (tgt := 48) hx hb dX1_milesWith_32 (by decide) (fun c_10 => ?_) (fun c_10 => ?_)
        · have gc_10 : n_9.toInt ≠ w.toInt := i_ne (rfl : n_9.toInt = n_9.toInt) (rfl : w.toInt = w.toInt) c_10
          obtain ⟨n_11, en_11⟩ : ∃ y : Int32, y = l_4 + 1 := ⟨_, rfl⟩
          have tn_11 : n_11.toInt = l_4.toInt + 1 := i_add en_11 (rfl : l_4.toInt = l_4.toInt) (by decide : (1 : Int32).toInt = 1) (by omega) (by omega)
          refine lv_iinc (v := n_11) (lv' := [(4, .int n_11), (3, .int l_3), (0, .ref (hs 40)), (1, .int x), (2, .int w)]) hx hb dX1_milesWith_48 hl (k := 0) rfl (by rw [en_11]; rfl) (by decide) rfl (fun ls hl => ?_)
          refine lv_goto (tgt := 5) hx hb dX1_milesWith_51 (by decide) ?_
          exact ih5_5 l_3 n_11 (by omega) (by omega) _ _ _ hP hD hS (lv_sub hl [0, 1, 2, 3, 4] rfl)
        · have gc_10 : n_9.toInt = w.toInt := i_eq (rfl : n_9.toInt = n_9.toInt) (rfl : w.toInt = w.toInt) c_10
          refine lv_iload_n hx hb dX1_milesWith_35 rfl (lv_at hl 1 rfl) ?_
          refine lv_aload_n hx hb dX1_milesWith_36 rfl (lv_at hl 2 rfl) ?_
          refine gt_SP_marches_band hx hb hts hown hK hP lwd_116 dX1_milesWith_37 ?_
          refine gt_SP_band_miles hx hb hts hown hK hP lwd_1218 dX1_milesWith_40 ?_
          refine lv_iload hx hb dX1_milesWith_43 (lv_at hl 0 rfl) ?_
          refine al_miles hx hb hK hP hr_miles (i_in (rfl : l_4.toInt = l_4.toInt) (by omega) (by omega)) dX1_milesWith_45 (fun n_12 en_12 bn_12 => ?_)
          refine lv_iadd hx hb dX1_milesWith_46 ?_
          refine lv_topi (fun n_13 en_13 => ?_)
          refine lv_istore_n (lv' := [(3, .int n_13), (4, .int l_4), (0, .ref (hs 40)), (1, .int x), (2, .int w)]) hx hb dX1_milesWith_47 rfl hl (by decide) rfl (fun ls hl => ?_)
          obtain ⟨n_14, en_14⟩ : ∃ y : Int32, y = l_4 + 1 := ⟨_, rfl⟩
          have tn_14 : n_14.toInt = l_4.toInt + 1 := i_add en_14 (rfl : l_4.toInt = l_4.toInt) (by decide : (1 : Int32).toInt = 1) (by omega) (by omega)
          refine lv_iinc (v := n_14) (lv' := [(4, .int n_14), (3, .int n_13), (0, .ref (hs 40)), (1, .int x), (2, .int w)]) hx hb dX1_milesWith_48 hl (k := 1) rfl (by rw [en_14]; rfl) (by decide) rfl (fun ls hl => ?_)
          refine lv_goto (tgt := 5) hx hb dX1_milesWith_51 (by decide) ?_
          exact ih5_5 n_13 n_14 (by omega) (by omega) _ _ _ hP hD hS (lv_sub hl [0, 1, 2, 3, 4] rfl)
  have k_15 : (0 : Int32).toInt = 0 := by decide
  have k_16 : (0 : Int32).toInt = 0 := by decide
  exact L5_5 8589934592 0 0 (by omega) (by omega) _ _ _ hP hD hS (lv_sub hl [0, 1, 2, 3, 4] rfl)
set_option maxHeartbeats 16000000 in
set_option maxRecDepth 100000 in
theorem c_X2_gone_first (l : Launch) (D : va_G) (cy : Nat → ClassId) (hs : Nat → Nat) (hH hT sH sT : Nat) (v_tape_size v_band_walkers v_band_loads v_band_pieces v_rules_clauses v_reader_end v_reader_at v_reader_length v_reader_letter v_reader_fault v_draft_clauses v_paces_version v_packing_quicker v_packing_loads v_packing_looseCount v_marches_told v_marches_changeMinutes v_marches_marching v_marches_gone v_search_known v_search_countHere v_search_countThere v_search_cost v_search_most : Int32) (v_search_found : Int64) (f_bytes f_knee f_weight f_limps f_bheft f_owner f_food f_miles f_slope f_rsteps f_rkind f_ryields f_rholds f_rletters f_rstack f_dsteps f_dkind f_dyields f_dholds f_dletters f_dstack f_caps f_versions f_sharing f_pheft f_prow f_holder f_comes f_pcaps f_room f_loose f_reached f_mrow f_minutesOn f_mtired : Nat → Int32) (f_here f_there : Nat → Int64) (f_statesHere f_statesThere f_listed f_stired f_burdens f_pacesOn f_restedOn f_behindOn f_behindFor f_first f_second : Nat → Int32) (f_plans f_tiredOn : Nat → Nat → Int32) (tS : Nat) (sz : Nat) (mi : Int32) (hb_v_band_pieces : 0 ≤ v_band_pieces.toInt ∧ v_band_pieces.toInt ≤ 10) (hr_miles : rg (0) 20 f_miles) (hr_first : rg (0) 60 f_first) : gMi l yX2_gone cX2_gone 10 .int 2 [.ref (hs 74), .ref (hs 75), .int 0, .int 1, .int mi] D cy (wSP cy hs hH hT sH sT v_tape_size v_band_walkers v_band_loads v_band_pieces v_rules_clauses v_reader_end v_reader_at v_reader_length v_reader_letter v_reader_fault v_draft_clauses v_paces_version v_packing_quicker v_packing_loads v_packing_looseCount v_marches_told v_marches_changeMinutes v_marches_marching v_marches_gone v_search_known v_search_countHere v_search_countThere v_search_cost v_search_most v_search_found f_bytes f_knee f_weight f_limps f_bheft f_owner f_food f_miles f_slope f_rsteps f_rkind f_ryields f_rholds f_rletters f_rstack f_dsteps f_dkind f_dyields f_dholds f_dletters f_dstack f_caps f_versions f_sharing f_pheft f_prow f_holder f_comes f_pcaps f_room f_loose f_reached f_mrow f_minutesOn f_mtired f_here f_there f_statesHere f_statesThere f_listed f_stired f_burdens f_pacesOn f_restedOn f_behindOn f_behindFor f_first f_second f_plans f_tiredOn) (NS tS) sz (fun (r : Int32) (u : Unit) => True) (fun u => wSP cy hs hH hT sH sT v_tape_size v_band_walkers v_band_loads v_band_pieces v_rules_clauses v_reader_end v_reader_at v_reader_length v_reader_letter v_reader_fault v_draft_clauses v_paces_version v_packing_quicker v_packing_loads v_packing_looseCount v_marches_told v_marches_changeMinutes v_marches_marching v_marches_gone v_search_known v_search_countHere v_search_countThere v_search_cost v_search_most v_search_found f_bytes f_knee f_weight f_limps f_bheft f_owner f_food f_miles f_slope f_rsteps f_rkind f_ryields f_rholds f_rletters f_rstack f_dsteps f_dkind f_dyields f_dholds f_dletters f_dstack f_caps f_versions f_sharing f_pheft f_prow f_holder f_comes f_pcaps f_room f_loose f_reached f_mrow f_minutesOn f_mtired f_here f_there f_statesHere f_statesThere f_listed f_stired f_burdens f_pacesOn f_restedOn f_behindOn f_behindFor f_first f_second f_plans f_tiredOn) := by
  refine gMi_in (by decide) (Nat.le_of_ble_eq_true rfl) ?_
  intro p e s m args below meth c A ls Q hx hb hml hts hown hsz hP hK hD hN hAe hA hS hl hret
  subst hsz
  have hl : lv_has ls 10 [(0, .ref (hs 74)), (1, .ref (hs 75)), (2, .int 0), (3, .int 1), (4, .int mi)] := hl
  have hrt := fun (r : Int32)   {H : Heap} {locs : List Loc} {pc : Nat} {ls : Array Slot} => hret r () (H := H) (locs := locs) (pc := pc) (ls := ls) trivial
  clear hret
  refine lv_iload hx hb dX2_gone_0 (lv_at hl 4 rfl) ?_
  refine lv_istore (lv' := [(5, .int mi), (0, .ref (hs 74)), (1, .ref (hs 75)), (2, .int 0), (3, .int 1), (4, .int mi)]) hx hb dX2_gone_2 hl (by decide) rfl (fun ls hl => ?_)
  refine lv_iconst (v := 0) hx hb dX2_gone_4 (by decide) ?_
  refine lv_istore (lv' := [(6, .int 0), (5, .int mi), (0, .ref (hs 74)), (1, .ref (hs 75)), (2, .int 0), (3, .int 1), (4, .int mi)]) hx hb dX2_gone_5 hl (by decide) rfl (fun ls hl => ?_)
  refine lv_iconst (v := 0) hx hb dX2_gone_7 (by decide) ?_
  refine lv_istore (lv' := [(7, .int 0), (6, .int 0), (5, .int mi), (0, .ref (hs 74)), (1, .ref (hs 75)), (2, .int 0), (3, .int 1), (4, .int mi)]) hx hb dX2_gone_8 hl (by decide) rfl (fun ls hl => ?_)
  have L10_7 : ∀ (n : Nat) (l_4 : Int32) (l_5 : Int32) (l_6 : Int32), (0 ≤ l_6.toInt ∧ l_6.toInt ≤ 10) → 11 - l_6.toInt < n → ∀ (H : Heap) (locs : List Loc) (ls : Array Slot), va_P D vwCl (wSP cy hs hH hT sH sT v_tape_size v_band_walkers v_band_loads v_band_pieces v_rules_clauses v_reader_end v_reader_at v_reader_length v_reader_letter v_reader_fault v_draft_clauses v_paces_version v_packing_quicker v_packing_loads v_packing_looseCount v_marches_told v_marches_changeMinutes v_marches_marching v_marches_gone v_search_known v_search_countHere v_search_countThere v_search_cost v_search_most v_search_found f_bytes f_knee f_weight f_limps f_bheft f_owner f_food f_miles f_slope f_rsteps f_rkind f_ryields f_rholds f_rletters f_rstack f_dsteps f_dkind f_dyields f_dholds f_dletters f_dstack f_caps f_versions f_sharing f_pheft f_prow f_holder f_comes f_pcaps f_room f_loose f_reached f_mrow f_minutesOn f_mtired f_here f_there f_statesHere f_statesThere f_listed f_stired f_burdens f_pacesOn f_restedOn f_behindOn f_behindFor f_first f_second f_plans f_tiredOn) H → va_D A (wSP cy hs hH hT sH sT v_tape_size v_band_walkers v_band_loads v_band_pieces v_rules_clauses v_reader_end v_reader_at v_reader_length v_reader_letter v_reader_fault v_draft_clauses v_paces_version v_packing_quicker v_packing_loads v_packing_looseCount v_marches_told v_marches_changeMinutes v_marches_marching v_marches_gone v_search_known v_search_countHere v_search_countThere v_search_cost v_search_most v_search_found f_bytes f_knee f_weight f_limps f_bheft f_owner f_food f_miles f_slope f_rsteps f_rkind f_ryields f_rholds f_rletters f_rstack f_dsteps f_dkind f_dyields f_dholds f_dletters f_dstack f_caps f_versions f_sharing f_pheft f_prow f_holder f_comes f_pcaps f_room f_loose f_reached f_mrow f_minutesOn f_mtired f_here f_there f_statesHere f_statesThere f_listed f_stired f_burdens f_pacesOn f_restedOn f_behindOn f_behindFor f_first f_second f_plans f_tiredOn) → va_S A s.heap H locs → lv_has ls 10 [(7, .int l_6), (6, .int l_5), (5, .int l_4), (0, .ref (hs 74)), (1, .ref (hs 75)), (2, .int 0), (3, .int 1), (4, .int mi)] → W p l e (gRm 2) s m args below meth c H locs 0 0 Q (F0 m 10 ls []) := by
    intro n
    induction n with
    | zero => intro l_4 l_5 l_6 hL10_7_0 hm; exact absurd hm (by omega)
    | succ n ih10_7 =>
      intro l_4 l_5 l_6 hL10_7_0 hmL10_7 H locs ls hP hD hS hl
      refine lv_iload hx hb dX2_gone_10 (lv_at hl 0 rfl) ?_
      refine lv_aload_n hx hb dX2_gone_12 rfl (lv_at hl 3 rfl) ?_
      refine gt_SP_meeting_band hx hb hts hown hK hP lwd_148 dX2_gone_13 ?_
      refine gt_SP_band_pieces hx hb hts hown hK hP lwd_1171 dX2_gone_16 ?_
      refine lv_icmp_ge (tgt := 92) hx hb dX2_gone_19 (by decide) (fun c_8 => ?_) (fun c_8 => ?_)
      · have gc_8 : v_band_pieces.toInt ≤ l_6.toInt := i_le (rfl : v_band_pieces.toInt = v_band_pieces.toInt) (rfl : l_6.toInt = l_6.toInt) c_8
        refine lv_iload hx hb dX2_gone_92 (lv_at hl 1 rfl) ?_
        exact hrt l_5   hP hD hS rfl dX2_gone_94
      · have gc_8 : l_6.toInt < v_band_pieces.toInt := i_nle (rfl : v_band_pieces.toInt = v_band_pieces.toInt) (rfl : l_6.toInt = l_6.toInt) c_8
        refine lv_iload hx hb dX2_gone_22 (lv_at hl 2 rfl) ?_
        refine lv_if_le (tgt := 92) hx hb dX2_gone_24 (by decide) (fun c_9 => ?_) (fun c_9 => ?_)
        · have gc_9 : l_4.toInt ≤ 0 := i_le (rfl : l_4.toInt = l_4.toInt) (by decide : (0 : Int32).toInt = 0) c_9
          refine lv_iload hx hb dX2_gone_92 (lv_at hl 1 rfl) ?_
          exact hrt l_5   hP hD hS rfl dX2_gone_94
        · have gc_9 : 0 < l_4.toInt := i_nle (rfl : l_4.toInt = l_4.toInt) (by decide : (0 : Int32).toInt = 0) c_9
          refine lv_iload_n hx hb dX2_gone_27 rfl (lv_at hl 5 rfl) ?_
          refine lv_iload_n hx hb dX2_gone_28 rfl (lv_at hl 6 rfl) ?_
          refine lv_iload hx hb dX2_gone_29 (lv_at hl 0 rfl) ?_
          refine lv_imul hx hb dX2_gone_31 ?_
          refine lv_topi (fun n_10 en_10 => ?_)
          have tn_10 : n_10.toInt = 1 * l_6.toInt := i_mul en_10 (by decide : (1 : Int32).toInt = 1) (rfl : l_6.toInt = l_6.toInt) (by omega) (by omega)
          refine lv_iadd hx hb dX2_gone_32 ?_
          refine lv_topi (fun n_11 en_11 => ?_)
          have tn_11 : n_11.toInt = 0 + (1 * l_6.toInt) := i_add en_11 (by decide : (0 : Int32).toInt = 0) tn_10 (by omega) (by omega)
          refine lv_istore (lv' := [(8, .int n_11), (7, .int l_6), (6, .int l_5), (5, .int l_4), (0, .ref (hs 74)), (1, .ref (hs 75)), (2, .int 0), (3, .int 1), (4, .int mi)]) hx hb dX2_gone_33 hl (by decide) rfl (fun ls hl => ?_)
          refine lv_aload_n hx hb dX2_gone_35 rfl (lv_at hl 5 rfl) ?_
          refine lv_iload hx hb dX2_gone_36 (lv_at hl 0 rfl) ?_
          refine al_first hx hb hK hP hr_first (i_in tn_11 (by omega) (by omega)) dX2_gone_38 (fun n_12 en_12 bn_12 => ?_)
          refine lv_istore (lv' := [(9, .int n_12), (8, .int n_11), (7, .int l_6), (6, .int l_5), (5, .int l_4), (0, .ref (hs 74)), (1, .ref (hs 75)), (2, .int 0), (3, .int 1), (4, .int mi)]) hx hb dX2_gone_39 hl (by decide) rfl (fun ls hl => ?_)
          refine lv_iload hx hb dX2_gone_41 (lv_at hl 3 rfl) ?_
          refine lv_bipush (v := 10) hx hb dX2_gone_43 (by decide) ?_
          refine lv_aload_n hx hb dX2_gone_45 rfl (lv_at hl 5 rfl) ?_
          refine gt_SP_meeting_band hx hb hts hown hK hP lwd_148 dX2_gone_46 ?_
          refine gt_SP_band_miles hx hb hts hown hK hP lwd_1183 dX2_gone_49 ?_
          refine lv_iload hx hb dX2_gone_52 (lv_at hl 1 rfl) ?_
          refine al_miles hx hb hK hP hr_miles (i_in tn_11 (by omega) (by omega)) dX2_gone_54 (fun n_13 en_13 bn_13 => ?_)
          refine lv_imul hx hb dX2_gone_55 ?_
          refine lv_topi (fun n_14 en_14 => ?_)
          have tn_14 : n_14.toInt = 10 * n_13.toInt := i_mul en_14 (by decide : (10 : Int32).toInt = 10) (rfl : n_13.toInt = n_13.toInt) (by omega) (by omega)
          refine lv_iload hx hb dX2_gone_56 (lv_at hl 0 rfl) ?_
          refine lv_iload hx hb dX2_gone_58 (lv_at hl 4 rfl) ?_
          refine lv_imul hx hb dX2_gone_60 ?_
          refine lv_topi (fun n_15 en_15 => ?_)
          refine lv_bipush (v := 60) hx hb dX2_gone_61 (by decide) ?_
          refine lv_idiv hx hb dX2_gone_63 (by decide) ?_
          refine lv_topi (fun n_16 en_16 => ?_)
          refine va_mmin hx hb (by rw [hml]; exact hl.1.symm) hown (hts _ lwd_1173) (hts _ lwd_528) (hts _ lwd_529) (hts _ lwd_530) (Nat.le_of_ble_eq_true rfl) (Nat.le_of_ble_eq_true rfl) (Nat.zero_le _) (Nat.zero_le _) dX2_gone_64 ?_
          refine lv_topi (fun n_17 en_17 => ?_)
          have tn_17 := i_min en_17 tn_14 (rfl : n_16.toInt = n_16.toInt)
          refine lv_iadd hx hb dX2_gone_67 ?_
          refine lv_topi (fun n_18 en_18 => ?_)
          refine lv_istore (lv' := [(6, .int n_18), (9, .int n_12), (8, .int n_11), (7, .int l_6), (5, .int l_4), (0, .ref (hs 74)), (1, .ref (hs 75)), (2, .int 0), (3, .int 1), (4, .int mi)]) hx hb dX2_gone_68 hl (by decide) rfl (fun ls hl => ?_)
          refine lv_iload hx hb dX2_gone_70 (lv_at hl 4 rfl) ?_
          refine lv_aload_n hx hb dX2_gone_72 rfl (lv_at hl 5 rfl) ?_
          refine gt_SP_meeting_band hx hb hts hown hK hP lwd_148 dX2_gone_73 ?_
          refine lv_iload hx hb dX2_gone_76 (lv_at hl 2 rfl) ?_
          refine lv_iload hx hb dX2_gone_78 (lv_at hl 1 rfl) ?_
          refine xi hD hS hA (xV (As := [.int n_11, .int n_12]) (rest := [.int l_4]) hx hb hml hown hts hK hP hD hS hA NS_ok hN hAe hl.1 ⟨Nat.le_refl _, Nat.le_refl _⟩ 3 rfl rfl rfl (c_X0_minutes l D cy hs hH hT sH sT v_tape_size v_band_walkers v_band_loads v_band_pieces v_rules_clauses v_reader_end v_reader_at v_reader_length v_reader_letter v_reader_fault v_draft_clauses v_paces_version v_packing_quicker v_packing_loads v_packing_looseCount v_marches_told v_marches_changeMinutes v_marches_marching v_marches_gone v_search_known v_search_countHere v_search_countThere v_search_cost v_search_most v_search_found f_bytes f_knee f_weight f_limps f_bheft f_owner f_food f_miles f_slope f_rsteps f_rkind f_ryields f_rholds f_rletters f_rstack f_dsteps f_dkind f_dyields f_dholds f_dletters f_dstack f_caps f_versions f_sharing f_pheft f_prow f_holder f_comes f_pcaps f_room f_loose f_reached f_mrow f_minutesOn f_mtired f_here f_there f_statesHere f_statesThere f_listed f_stired f_burdens f_pacesOn f_restedOn f_behindOn f_behindFor f_first f_second f_plans f_tiredOn tS H.size n_11 n_12 hr_miles (by omega)) (gi_V lwd_1184 lwd_635 lwd_636 lwd_18 lwd_637) ⟨rfl, hd_X0_minutes⟩ ⟨Nat.le_of_ble_eq_true rfl, Nat.le_of_ble_eq_true rfl⟩ rfl (Nat.le_of_ble_eq_true rfl) dX2_gone_80) (fun r_20 u_19 H locs hw hP hD hS => ?_)
          try dsimp only at hw hP hD
          clear hw
          refine lv_isub hx hb dX2_gone_83 ?_
          refine lv_topi (fun n_21 en_21 => ?_)
          refine lv_istore (lv' := [(5, .int n_21), (6, .int n_18), (9, .int n_12), (8, .int n_11), (7, .int l_6), (0, .ref (hs 74)), (1, .ref (hs 75)), (2, .int 0), (3, .int 1), (4, .int mi)]) hx hb dX2_gone_84 hl (by decide) rfl (fun ls hl => ?_)
          obtain ⟨n_22, en_22⟩ : ∃ y : Int32, y = l_6 + 1 := ⟨_, rfl⟩
          have tn_22 : n_22.toInt = l_6.toInt + 1 := i_add en_22 (rfl : l_6.toInt = l_6.toInt) (by decide : (1 : Int32).toInt = 1) (by omega) (by omega)
          refine lv_iinc (v := n_22) (lv' := [(7, .int n_22), (5, .int n_21), (6, .int n_18), (9, .int n_12), (8, .int n_11), (0, .ref (hs 74)), (1, .ref (hs 75)), (2, .int 0), (3, .int 1), (4, .int mi)]) hx hb dX2_gone_86 hl (k := 4) rfl (by rw [en_22]; rfl) (by decide) rfl (fun ls hl => ?_)
          refine lv_goto (tgt := 10) hx hb dX2_gone_89 (by decide) ?_
          exact ih10_7 n_21 n_18 n_22 (by omega) (by omega) _ _ _ hP hD hS (lv_sub hl [0, 2, 1, 5, 6, 7, 8, 9] rfl)
  have k_23 : (0 : Int32).toInt = 0 := by decide
  have k_24 : (0 : Int32).toInt = 0 := by decide
  exact L10_7 8589934592 mi 0 0 (by omega) (by omega) _ _ _ hP hD hS (lv_sub hl [0, 1, 2, 3, 4, 5, 6, 7] rfl)
set_option maxHeartbeats 16000000 in
set_option maxRecDepth 100000 in
theorem c_X2_gone_second (l : Launch) (D : va_G) (cy : Nat → ClassId) (hs : Nat → Nat) (hH hT sH sT : Nat) (v_tape_size v_band_walkers v_band_loads v_band_pieces v_rules_clauses v_reader_end v_reader_at v_reader_length v_reader_letter v_reader_fault v_draft_clauses v_paces_version v_packing_quicker v_packing_loads v_packing_looseCount v_marches_told v_marches_changeMinutes v_marches_marching v_marches_gone v_search_known v_search_countHere v_search_countThere v_search_cost v_search_most : Int32) (v_search_found : Int64) (f_bytes f_knee f_weight f_limps f_bheft f_owner f_food f_miles f_slope f_rsteps f_rkind f_ryields f_rholds f_rletters f_rstack f_dsteps f_dkind f_dyields f_dholds f_dletters f_dstack f_caps f_versions f_sharing f_pheft f_prow f_holder f_comes f_pcaps f_room f_loose f_reached f_mrow f_minutesOn f_mtired : Nat → Int32) (f_here f_there : Nat → Int64) (f_statesHere f_statesThere f_listed f_stired f_burdens f_pacesOn f_restedOn f_behindOn f_behindFor f_first f_second : Nat → Int32) (f_plans f_tiredOn : Nat → Nat → Int32) (tS : Nat) (sz : Nat) (bg : Int32) (mi : Int32) (hb_v_band_pieces : 0 ≤ v_band_pieces.toInt ∧ v_band_pieces.toInt ≤ 10) (hr_miles : rg (0) 20 f_miles) (hr_second : rg (0) 60 f_second) (ha_bg : -1 ≤ bg.toInt ∧ bg.toInt ≤ 9) (hbg : bg.toInt = v_band_pieces.toInt - 1) : gMi l yX2_gone cX2_gone 10 .int 2 [.ref (hs 74), .ref (hs 76), .int bg, .int (-1), .int mi] D cy (wSP cy hs hH hT sH sT v_tape_size v_band_walkers v_band_loads v_band_pieces v_rules_clauses v_reader_end v_reader_at v_reader_length v_reader_letter v_reader_fault v_draft_clauses v_paces_version v_packing_quicker v_packing_loads v_packing_looseCount v_marches_told v_marches_changeMinutes v_marches_marching v_marches_gone v_search_known v_search_countHere v_search_countThere v_search_cost v_search_most v_search_found f_bytes f_knee f_weight f_limps f_bheft f_owner f_food f_miles f_slope f_rsteps f_rkind f_ryields f_rholds f_rletters f_rstack f_dsteps f_dkind f_dyields f_dholds f_dletters f_dstack f_caps f_versions f_sharing f_pheft f_prow f_holder f_comes f_pcaps f_room f_loose f_reached f_mrow f_minutesOn f_mtired f_here f_there f_statesHere f_statesThere f_listed f_stired f_burdens f_pacesOn f_restedOn f_behindOn f_behindFor f_first f_second f_plans f_tiredOn) (NS tS) sz (fun (r : Int32) (u : Unit) => True) (fun u => wSP cy hs hH hT sH sT v_tape_size v_band_walkers v_band_loads v_band_pieces v_rules_clauses v_reader_end v_reader_at v_reader_length v_reader_letter v_reader_fault v_draft_clauses v_paces_version v_packing_quicker v_packing_loads v_packing_looseCount v_marches_told v_marches_changeMinutes v_marches_marching v_marches_gone v_search_known v_search_countHere v_search_countThere v_search_cost v_search_most v_search_found f_bytes f_knee f_weight f_limps f_bheft f_owner f_food f_miles f_slope f_rsteps f_rkind f_ryields f_rholds f_rletters f_rstack f_dsteps f_dkind f_dyields f_dholds f_dletters f_dstack f_caps f_versions f_sharing f_pheft f_prow f_holder f_comes f_pcaps f_room f_loose f_reached f_mrow f_minutesOn f_mtired f_here f_there f_statesHere f_statesThere f_listed f_stired f_burdens f_pacesOn f_restedOn f_behindOn f_behindFor f_first f_second f_plans f_tiredOn) := by
  refine gMi_in (by decide) (Nat.le_of_ble_eq_true rfl) ?_
  intro p e s m args below meth c A ls Q hx hb hml hts hown hsz hP hK hD hN hAe hA hS hl hret
  subst hsz
  have hl : lv_has ls 10 [(0, .ref (hs 74)), (1, .ref (hs 76)), (2, .int bg), (3, .int (-1)), (4, .int mi)] := hl
  have hrt := fun (r : Int32)   {H : Heap} {locs : List Loc} {pc : Nat} {ls : Array Slot} => hret r () (H := H) (locs := locs) (pc := pc) (ls := ls) trivial
  clear hret
  refine lv_iload hx hb dX2_gone_0 (lv_at hl 4 rfl) ?_
  refine lv_istore (lv' := [(5, .int mi), (0, .ref (hs 74)), (1, .ref (hs 76)), (2, .int bg), (3, .int (-1)), (4, .int mi)]) hx hb dX2_gone_2 hl (by decide) rfl (fun ls hl => ?_)
  refine lv_iconst (v := 0) hx hb dX2_gone_4 (by decide) ?_
  refine lv_istore (lv' := [(6, .int 0), (5, .int mi), (0, .ref (hs 74)), (1, .ref (hs 76)), (2, .int bg), (3, .int (-1)), (4, .int mi)]) hx hb dX2_gone_5 hl (by decide) rfl (fun ls hl => ?_)
  refine lv_iconst (v := 0) hx hb dX2_gone_7 (by decide) ?_
  refine lv_istore (lv' := [(7, .int 0), (6, .int 0), (5, .int mi), (0, .ref (hs 74)), (1, .ref (hs 76)), (2, .int bg), (3, .int (-1)), (4, .int mi)]) hx hb dX2_gone_8 hl (by decide) rfl (fun ls hl => ?_)
  have L10_7 : ∀ (n : Nat) (l_4 : Int32) (l_5 : Int32) (l_6 : Int32), (0 ≤ l_6.toInt ∧ l_6.toInt ≤ 10) → 11 - l_6.toInt < n → ∀ (H : Heap) (locs : List Loc) (ls : Array Slot), va_P D vwCl (wSP cy hs hH hT sH sT v_tape_size v_band_walkers v_band_loads v_band_pieces v_rules_clauses v_reader_end v_reader_at v_reader_length v_reader_letter v_reader_fault v_draft_clauses v_paces_version v_packing_quicker v_packing_loads v_packing_looseCount v_marches_told v_marches_changeMinutes v_marches_marching v_marches_gone v_search_known v_search_countHere v_search_countThere v_search_cost v_search_most v_search_found f_bytes f_knee f_weight f_limps f_bheft f_owner f_food f_miles f_slope f_rsteps f_rkind f_ryields f_rholds f_rletters f_rstack f_dsteps f_dkind f_dyields f_dholds f_dletters f_dstack f_caps f_versions f_sharing f_pheft f_prow f_holder f_comes f_pcaps f_room f_loose f_reached f_mrow f_minutesOn f_mtired f_here f_there f_statesHere f_statesThere f_listed f_stired f_burdens f_pacesOn f_restedOn f_behindOn f_behindFor f_first f_second f_plans f_tiredOn) H → va_D A (wSP cy hs hH hT sH sT v_tape_size v_band_walkers v_band_loads v_band_pieces v_rules_clauses v_reader_end v_reader_at v_reader_length v_reader_letter v_reader_fault v_draft_clauses v_paces_version v_packing_quicker v_packing_loads v_packing_looseCount v_marches_told v_marches_changeMinutes v_marches_marching v_marches_gone v_search_known v_search_countHere v_search_countThere v_search_cost v_search_most v_search_found f_bytes f_knee f_weight f_limps f_bheft f_owner f_food f_miles f_slope f_rsteps f_rkind f_ryields f_rholds f_rletters f_rstack f_dsteps f_dkind f_dyields f_dholds f_dletters f_dstack f_caps f_versions f_sharing f_pheft f_prow f_holder f_comes f_pcaps f_room f_loose f_reached f_mrow f_minutesOn f_mtired f_here f_there f_statesHere f_statesThere f_listed f_stired f_burdens f_pacesOn f_restedOn f_behindOn f_behindFor f_first f_second f_plans f_tiredOn) → va_S A s.heap H locs → lv_has ls 10 [(7, .int l_6), (6, .int l_5), (5, .int l_4), (0, .ref (hs 74)), (1, .ref (hs 76)), (2, .int bg), (3, .int (-1)), (4, .int mi)] → W p l e (gRm 2) s m args below meth c H locs 0 0 Q (F0 m 10 ls []) := by
    intro n
    induction n with
    | zero => intro l_4 l_5 l_6 hL10_7_0 hm; exact absurd hm (by omega)
    | succ n ih10_7 =>
      intro l_4 l_5 l_6 hL10_7_0 hmL10_7 H locs ls hP hD hS hl
      refine lv_iload hx hb dX2_gone_10 (lv_at hl 0 rfl) ?_
      refine lv_aload_n hx hb dX2_gone_12 rfl (lv_at hl 3 rfl) ?_
      refine gt_SP_meeting_band hx hb hts hown hK hP lwd_148 dX2_gone_13 ?_
      refine gt_SP_band_pieces hx hb hts hown hK hP lwd_1171 dX2_gone_16 ?_
      refine lv_icmp_ge (tgt := 92) hx hb dX2_gone_19 (by decide) (fun c_8 => ?_) (fun c_8 => ?_)
      · have gc_8 : v_band_pieces.toInt ≤ l_6.toInt := i_le (rfl : v_band_pieces.toInt = v_band_pieces.toInt) (rfl : l_6.toInt = l_6.toInt) c_8
        refine lv_iload hx hb dX2_gone_92 (lv_at hl 1 rfl) ?_
        exact hrt l_5   hP hD hS rfl dX2_gone_94
      · have gc_8 : l_6.toInt < v_band_pieces.toInt := i_nle (rfl : v_band_pieces.toInt = v_band_pieces.toInt) (rfl : l_6.toInt = l_6.toInt) c_8
        refine lv_iload hx hb dX2_gone_22 (lv_at hl 2 rfl) ?_
        refine lv_if_le (tgt := 92) hx hb dX2_gone_24 (by decide) (fun c_9 => ?_) (fun c_9 => ?_)
        · have gc_9 : l_4.toInt ≤ 0 := i_le (rfl : l_4.toInt = l_4.toInt) (by decide : (0 : Int32).toInt = 0) c_9
          refine lv_iload hx hb dX2_gone_92 (lv_at hl 1 rfl) ?_
          exact hrt l_5   hP hD hS rfl dX2_gone_94
        · have gc_9 : 0 < l_4.toInt := i_nle (rfl : l_4.toInt = l_4.toInt) (by decide : (0 : Int32).toInt = 0) c_9
          refine lv_iload_n hx hb dX2_gone_27 rfl (lv_at hl 5 rfl) ?_
          refine lv_iload_n hx hb dX2_gone_28 rfl (lv_at hl 6 rfl) ?_
          refine lv_iload hx hb dX2_gone_29 (lv_at hl 0 rfl) ?_
          refine lv_imul hx hb dX2_gone_31 ?_
          refine lv_topi (fun n_10 en_10 => ?_)
          have tn_10 : n_10.toInt = (-1) * l_6.toInt := i_mul en_10 (by decide : ((-1) : Int32).toInt = (-1)) (rfl : l_6.toInt = l_6.toInt) (by omega) (by omega)
          refine lv_iadd hx hb dX2_gone_32 ?_
          refine lv_topi (fun n_11 en_11 => ?_)
          have tn_11 : n_11.toInt = bg.toInt + ((-1) * l_6.toInt) := i_add en_11 (rfl : bg.toInt = bg.toInt) tn_10 (by omega) (by omega)
          refine lv_istore (lv' := [(8, .int n_11), (7, .int l_6), (6, .int l_5), (5, .int l_4), (0, .ref (hs 74)), (1, .ref (hs 76)), (2, .int bg), (3, .int (-1)), (4, .int mi)]) hx hb dX2_gone_33 hl (by decide) rfl (fun ls hl => ?_)
          refine lv_aload_n hx hb dX2_gone_35 rfl (lv_at hl 5 rfl) ?_
          refine lv_iload hx hb dX2_gone_36 (lv_at hl 0 rfl) ?_
          refine al_second hx hb hK hP hr_second (i_in tn_11 (by omega) (by omega)) dX2_gone_38 (fun n_12 en_12 bn_12 => ?_)
          refine lv_istore (lv' := [(9, .int n_12), (8, .int n_11), (7, .int l_6), (6, .int l_5), (5, .int l_4), (0, .ref (hs 74)), (1, .ref (hs 76)), (2, .int bg), (3, .int (-1)), (4, .int mi)]) hx hb dX2_gone_39 hl (by decide) rfl (fun ls hl => ?_)
          refine lv_iload hx hb dX2_gone_41 (lv_at hl 3 rfl) ?_
          refine lv_bipush (v := 10) hx hb dX2_gone_43 (by decide) ?_
          refine lv_aload_n hx hb dX2_gone_45 rfl (lv_at hl 5 rfl) ?_
          refine gt_SP_meeting_band hx hb hts hown hK hP lwd_148 dX2_gone_46 ?_
          refine gt_SP_band_miles hx hb hts hown hK hP lwd_1183 dX2_gone_49 ?_
          refine lv_iload hx hb dX2_gone_52 (lv_at hl 1 rfl) ?_
          refine al_miles hx hb hK hP hr_miles (i_in tn_11 (by omega) (by omega)) dX2_gone_54 (fun n_13 en_13 bn_13 => ?_)
          refine lv_imul hx hb dX2_gone_55 ?_
          refine lv_topi (fun n_14 en_14 => ?_)
          have tn_14 : n_14.toInt = 10 * n_13.toInt := i_mul en_14 (by decide : (10 : Int32).toInt = 10) (rfl : n_13.toInt = n_13.toInt) (by omega) (by omega)
          refine lv_iload hx hb dX2_gone_56 (lv_at hl 0 rfl) ?_
          refine lv_iload hx hb dX2_gone_58 (lv_at hl 4 rfl) ?_
          refine lv_imul hx hb dX2_gone_60 ?_
          refine lv_topi (fun n_15 en_15 => ?_)
          refine lv_bipush (v := 60) hx hb dX2_gone_61 (by decide) ?_
          refine lv_idiv hx hb dX2_gone_63 (by decide) ?_
          refine lv_topi (fun n_16 en_16 => ?_)
          refine va_mmin hx hb (by rw [hml]; exact hl.1.symm) hown (hts _ lwd_1173) (hts _ lwd_528) (hts _ lwd_529) (hts _ lwd_530) (Nat.le_of_ble_eq_true rfl) (Nat.le_of_ble_eq_true rfl) (Nat.zero_le _) (Nat.zero_le _) dX2_gone_64 ?_
          refine lv_topi (fun n_17 en_17 => ?_)
          have tn_17 := i_min en_17 tn_14 (rfl : n_16.toInt = n_16.toInt)
          refine lv_iadd hx hb dX2_gone_67 ?_
          refine lv_topi (fun n_18 en_18 => ?_)
          refine lv_istore (lv' := [(6, .int n_18), (9, .int n_12), (8, .int n_11), (7, .int l_6), (5, .int l_4), (0, .ref (hs 74)), (1, .ref (hs 76)), (2, .int bg), (3, .int (-1)), (4, .int mi)]) hx hb dX2_gone_68 hl (by decide) rfl (fun ls hl => ?_)
          refine lv_iload hx hb dX2_gone_70 (lv_at hl 4 rfl) ?_
          refine lv_aload_n hx hb dX2_gone_72 rfl (lv_at hl 5 rfl) ?_
          refine gt_SP_meeting_band hx hb hts hown hK hP lwd_148 dX2_gone_73 ?_
          refine lv_iload hx hb dX2_gone_76 (lv_at hl 2 rfl) ?_
          refine lv_iload hx hb dX2_gone_78 (lv_at hl 1 rfl) ?_
          refine xi hD hS hA (xV (As := [.int n_11, .int n_12]) (rest := [.int l_4]) hx hb hml hown hts hK hP hD hS hA NS_ok hN hAe hl.1 ⟨Nat.le_refl _, Nat.le_refl _⟩ 3 rfl rfl rfl (c_X0_minutes l D cy hs hH hT sH sT v_tape_size v_band_walkers v_band_loads v_band_pieces v_rules_clauses v_reader_end v_reader_at v_reader_length v_reader_letter v_reader_fault v_draft_clauses v_paces_version v_packing_quicker v_packing_loads v_packing_looseCount v_marches_told v_marches_changeMinutes v_marches_marching v_marches_gone v_search_known v_search_countHere v_search_countThere v_search_cost v_search_most v_search_found f_bytes f_knee f_weight f_limps f_bheft f_owner f_food f_miles f_slope f_rsteps f_rkind f_ryields f_rholds f_rletters f_rstack f_dsteps f_dkind f_dyields f_dholds f_dletters f_dstack f_caps f_versions f_sharing f_pheft f_prow f_holder f_comes f_pcaps f_room f_loose f_reached f_mrow f_minutesOn f_mtired f_here f_there f_statesHere f_statesThere f_listed f_stired f_burdens f_pacesOn f_restedOn f_behindOn f_behindFor f_first f_second f_plans f_tiredOn tS H.size n_11 n_12 hr_miles (by omega)) (gi_V lwd_1184 lwd_635 lwd_636 lwd_18 lwd_637) ⟨rfl, hd_X0_minutes⟩ ⟨Nat.le_of_ble_eq_true rfl, Nat.le_of_ble_eq_true rfl⟩ rfl (Nat.le_of_ble_eq_true rfl) dX2_gone_80) (fun r_20 u_19 H locs hw hP hD hS => ?_)
          try dsimp only at hw hP hD
          clear hw
          refine lv_isub hx hb dX2_gone_83 ?_
          refine lv_topi (fun n_21 en_21 => ?_)
          refine lv_istore (lv' := [(5, .int n_21), (6, .int n_18), (9, .int n_12), (8, .int n_11), (7, .int l_6), (0, .ref (hs 74)), (1, .ref (hs 76)), (2, .int bg), (3, .int (-1)), (4, .int mi)]) hx hb dX2_gone_84 hl (by decide) rfl (fun ls hl => ?_)
          obtain ⟨n_22, en_22⟩ : ∃ y : Int32, y = l_6 + 1 := ⟨_, rfl⟩
          have tn_22 : n_22.toInt = l_6.toInt + 1 := i_add en_22 (rfl : l_6.toInt = l_6.toInt) (by decide : (1 : Int32).toInt = 1) (by omega) (by omega)
          refine lv_iinc (v := n_22) (lv' := [(7, .int n_22), (5, .int n_21), (6, .int n_18), (9, .int n_12), (8, .int n_11), (0, .ref (hs 74)), (1, .ref (hs 76)), (2, .int bg), (3, .int (-1)), (4, .int mi)]) hx hb dX2_gone_86 hl (k := 4) rfl (by rw [en_22]; rfl) (by decide) rfl (fun ls hl => ?_)
          refine lv_goto (tgt := 10) hx hb dX2_gone_89 (by decide) ?_
          exact ih10_7 n_21 n_18 n_22 (by omega) (by omega) _ _ _ hP hD hS (lv_sub hl [0, 2, 1, 5, 6, 7, 8, 9] rfl)
  have k_23 : (0 : Int32).toInt = 0 := by decide
  have k_24 : (0 : Int32).toInt = 0 := by decide
  exact L10_7 8589934592 mi 0 0 (by omega) (by omega) _ _ _ hP hD hS (lv_sub hl [0, 1, 2, 3, 4, 5, 6, 7] rfl)
set_option maxHeartbeats 16000000 in
set_option maxRecDepth 100000 in
theorem c_X2_goneByFirst (l : Launch) (D : va_G) (cy : Nat → ClassId) (hs : Nat → Nat) (hH hT sH sT : Nat) (v_tape_size v_band_walkers v_band_loads v_band_pieces v_rules_clauses v_reader_end v_reader_at v_reader_length v_reader_letter v_reader_fault v_draft_clauses v_paces_version v_packing_quicker v_packing_loads v_packing_looseCount v_marches_told v_marches_changeMinutes v_marches_marching v_marches_gone v_search_known v_search_countHere v_search_countThere v_search_cost v_search_most : Int32) (v_search_found : Int64) (f_bytes f_knee f_weight f_limps f_bheft f_owner f_food f_miles f_slope f_rsteps f_rkind f_ryields f_rholds f_rletters f_rstack f_dsteps f_dkind f_dyields f_dholds f_dletters f_dstack f_caps f_versions f_sharing f_pheft f_prow f_holder f_comes f_pcaps f_room f_loose f_reached f_mrow f_minutesOn f_mtired : Nat → Int32) (f_here f_there : Nat → Int64) (f_statesHere f_statesThere f_listed f_stired f_burdens f_pacesOn f_restedOn f_behindOn f_behindFor f_first f_second : Nat → Int32) (f_plans f_tiredOn : Nat → Nat → Int32) (tS : Nat) (sz : Nat) (mi : Int32) (hb_v_band_pieces : 0 ≤ v_band_pieces.toInt ∧ v_band_pieces.toInt ≤ 10) (hr_miles : rg (0) 20 f_miles) (hr_first : rg (0) 60 f_first) : gMi l yX2_goneByFirst cX2_goneByFirst 2 .int 3 [.ref (hs 74), .int mi] D cy (wSP cy hs hH hT sH sT v_tape_size v_band_walkers v_band_loads v_band_pieces v_rules_clauses v_reader_end v_reader_at v_reader_length v_reader_letter v_reader_fault v_draft_clauses v_paces_version v_packing_quicker v_packing_loads v_packing_looseCount v_marches_told v_marches_changeMinutes v_marches_marching v_marches_gone v_search_known v_search_countHere v_search_countThere v_search_cost v_search_most v_search_found f_bytes f_knee f_weight f_limps f_bheft f_owner f_food f_miles f_slope f_rsteps f_rkind f_ryields f_rholds f_rletters f_rstack f_dsteps f_dkind f_dyields f_dholds f_dletters f_dstack f_caps f_versions f_sharing f_pheft f_prow f_holder f_comes f_pcaps f_room f_loose f_reached f_mrow f_minutesOn f_mtired f_here f_there f_statesHere f_statesThere f_listed f_stired f_burdens f_pacesOn f_restedOn f_behindOn f_behindFor f_first f_second f_plans f_tiredOn) (NS tS) sz (fun (r : Int32) (u : Unit) => True) (fun u => wSP cy hs hH hT sH sT v_tape_size v_band_walkers v_band_loads v_band_pieces v_rules_clauses v_reader_end v_reader_at v_reader_length v_reader_letter v_reader_fault v_draft_clauses v_paces_version v_packing_quicker v_packing_loads v_packing_looseCount v_marches_told v_marches_changeMinutes v_marches_marching v_marches_gone v_search_known v_search_countHere v_search_countThere v_search_cost v_search_most v_search_found f_bytes f_knee f_weight f_limps f_bheft f_owner f_food f_miles f_slope f_rsteps f_rkind f_ryields f_rholds f_rletters f_rstack f_dsteps f_dkind f_dyields f_dholds f_dletters f_dstack f_caps f_versions f_sharing f_pheft f_prow f_holder f_comes f_pcaps f_room f_loose f_reached f_mrow f_minutesOn f_mtired f_here f_there f_statesHere f_statesThere f_listed f_stired f_burdens f_pacesOn f_restedOn f_behindOn f_behindFor f_first f_second f_plans f_tiredOn) := by
  refine gMi_in (by decide) (Nat.le_of_ble_eq_true rfl) ?_
  intro p e s m args below meth c A ls Q hx hb hml hts hown hsz hP hK hD hN hAe hA hS hl hret
  subst hsz
  have hl : lv_has ls 2 [(0, .ref (hs 74)), (1, .int mi)] := hl
  have hrt := fun (r : Int32)   {H : Heap} {locs : List Loc} {pc : Nat} {ls : Array Slot} => hret r () (H := H) (locs := locs) (pc := pc) (ls := ls) trivial
  clear hret
  refine lv_aload_n hx hb dX2_goneByFirst_0 rfl (lv_at hl 0 rfl) ?_
  refine lv_aload_n hx hb dX2_goneByFirst_1 rfl (lv_at hl 0 rfl) ?_
  refine gt_SP_meeting_first hx hb hts hown hK hP lwd_146 dX2_goneByFirst_2 ?_
  refine lv_iconst (v := 0) hx hb dX2_goneByFirst_5 (by decide) ?_
  refine lv_iconst (v := 1) hx hb dX2_goneByFirst_6 (by decide) ?_
  refine lv_iload_n hx hb dX2_goneByFirst_7 rfl (lv_at hl 1 rfl) ?_
  have k_1 : (0 : Int32).toInt = 0 := by decide
  have k_2 : (1 : Int32).toInt = 1 := by decide
  refine xi hD hS hA (xV (As := [.ref (hs 75), .int 0, .int 1, .int mi]) (rest := []) hx hb hml hown hts hK hP hD hS hA NS_ok hN hAe hl.1 ⟨Nat.le_refl _, Nat.le_refl _⟩ 74 rfl rfl rfl (c_X2_gone_first l D cy hs hH hT sH sT v_tape_size v_band_walkers v_band_loads v_band_pieces v_rules_clauses v_reader_end v_reader_at v_reader_length v_reader_letter v_reader_fault v_draft_clauses v_paces_version v_packing_quicker v_packing_loads v_packing_looseCount v_marches_told v_marches_changeMinutes v_marches_marching v_marches_gone v_search_known v_search_countHere v_search_countThere v_search_cost v_search_most v_search_found f_bytes f_knee f_weight f_limps f_bheft f_owner f_food f_miles f_slope f_rsteps f_rkind f_ryields f_rholds f_rletters f_rstack f_dsteps f_dkind f_dyields f_dholds f_dletters f_dstack f_caps f_versions f_sharing f_pheft f_prow f_holder f_comes f_pcaps f_room f_loose f_reached f_mrow f_minutesOn f_mtired f_here f_there f_statesHere f_statesThere f_listed f_stired f_burdens f_pacesOn f_restedOn f_behindOn f_behindFor f_first f_second f_plans f_tiredOn tS s.heap.size mi (by omega) hr_miles hr_first) (gi_V lwd_1189 lwd_1190 lwd_1191 lwd_46 lwd_1192) ⟨rfl, hd_X2_gone⟩ ⟨Nat.le_of_ble_eq_true rfl, Nat.le_of_ble_eq_true rfl⟩ rfl (Nat.le_of_ble_eq_true rfl) dX2_goneByFirst_8) (fun r_4 u_3 H locs hw hP hD hS => ?_)
  try dsimp only at hw hP hD
  clear hw
  exact hrt r_4   hP hD hS rfl dX2_goneByFirst_11
set_option maxHeartbeats 16000000 in
set_option maxRecDepth 100000 in
theorem c_X2_goneBySecond (l : Launch) (D : va_G) (cy : Nat → ClassId) (hs : Nat → Nat) (hH hT sH sT : Nat) (v_tape_size v_band_walkers v_band_loads v_band_pieces v_rules_clauses v_reader_end v_reader_at v_reader_length v_reader_letter v_reader_fault v_draft_clauses v_paces_version v_packing_quicker v_packing_loads v_packing_looseCount v_marches_told v_marches_changeMinutes v_marches_marching v_marches_gone v_search_known v_search_countHere v_search_countThere v_search_cost v_search_most : Int32) (v_search_found : Int64) (f_bytes f_knee f_weight f_limps f_bheft f_owner f_food f_miles f_slope f_rsteps f_rkind f_ryields f_rholds f_rletters f_rstack f_dsteps f_dkind f_dyields f_dholds f_dletters f_dstack f_caps f_versions f_sharing f_pheft f_prow f_holder f_comes f_pcaps f_room f_loose f_reached f_mrow f_minutesOn f_mtired : Nat → Int32) (f_here f_there : Nat → Int64) (f_statesHere f_statesThere f_listed f_stired f_burdens f_pacesOn f_restedOn f_behindOn f_behindFor f_first f_second : Nat → Int32) (f_plans f_tiredOn : Nat → Nat → Int32) (tS : Nat) (sz : Nat) (mi : Int32) (hb_v_band_pieces : 0 ≤ v_band_pieces.toInt ∧ v_band_pieces.toInt ≤ 10) (hr_miles : rg (0) 20 f_miles) (hr_second : rg (0) 60 f_second) : gMi l yX2_goneBySecond cX2_goneBySecond 2 .int 3 [.ref (hs 74), .int mi] D cy (wSP cy hs hH hT sH sT v_tape_size v_band_walkers v_band_loads v_band_pieces v_rules_clauses v_reader_end v_reader_at v_reader_length v_reader_letter v_reader_fault v_draft_clauses v_paces_version v_packing_quicker v_packing_loads v_packing_looseCount v_marches_told v_marches_changeMinutes v_marches_marching v_marches_gone v_search_known v_search_countHere v_search_countThere v_search_cost v_search_most v_search_found f_bytes f_knee f_weight f_limps f_bheft f_owner f_food f_miles f_slope f_rsteps f_rkind f_ryields f_rholds f_rletters f_rstack f_dsteps f_dkind f_dyields f_dholds f_dletters f_dstack f_caps f_versions f_sharing f_pheft f_prow f_holder f_comes f_pcaps f_room f_loose f_reached f_mrow f_minutesOn f_mtired f_here f_there f_statesHere f_statesThere f_listed f_stired f_burdens f_pacesOn f_restedOn f_behindOn f_behindFor f_first f_second f_plans f_tiredOn) (NS tS) sz (fun (r : Int32) (u : Unit) => True) (fun u => wSP cy hs hH hT sH sT v_tape_size v_band_walkers v_band_loads v_band_pieces v_rules_clauses v_reader_end v_reader_at v_reader_length v_reader_letter v_reader_fault v_draft_clauses v_paces_version v_packing_quicker v_packing_loads v_packing_looseCount v_marches_told v_marches_changeMinutes v_marches_marching v_marches_gone v_search_known v_search_countHere v_search_countThere v_search_cost v_search_most v_search_found f_bytes f_knee f_weight f_limps f_bheft f_owner f_food f_miles f_slope f_rsteps f_rkind f_ryields f_rholds f_rletters f_rstack f_dsteps f_dkind f_dyields f_dholds f_dletters f_dstack f_caps f_versions f_sharing f_pheft f_prow f_holder f_comes f_pcaps f_room f_loose f_reached f_mrow f_minutesOn f_mtired f_here f_there f_statesHere f_statesThere f_listed f_stired f_burdens f_pacesOn f_restedOn f_behindOn f_behindFor f_first f_second f_plans f_tiredOn) := by
  refine gMi_in (by decide) (Nat.le_of_ble_eq_true rfl) ?_
  intro p e s m args below meth c A ls Q hx hb hml hts hown hsz hP hK hD hN hAe hA hS hl hret
  subst hsz
  have hl : lv_has ls 2 [(0, .ref (hs 74)), (1, .int mi)] := hl
  have hrt := fun (r : Int32)   {H : Heap} {locs : List Loc} {pc : Nat} {ls : Array Slot} => hret r () (H := H) (locs := locs) (pc := pc) (ls := ls) trivial
  clear hret
  refine lv_aload_n hx hb dX2_goneBySecond_0 rfl (lv_at hl 0 rfl) ?_
  refine lv_aload_n hx hb dX2_goneBySecond_1 rfl (lv_at hl 0 rfl) ?_
  refine gt_SP_meeting_second hx hb hts hown hK hP lwd_147 dX2_goneBySecond_2 ?_
  refine lv_aload_n hx hb dX2_goneBySecond_5 rfl (lv_at hl 0 rfl) ?_
  refine gt_SP_meeting_band hx hb hts hown hK hP lwd_148 dX2_goneBySecond_6 ?_
  refine gt_SP_band_pieces hx hb hts hown hK hP lwd_1171 dX2_goneBySecond_9 ?_
  refine lv_iconst (v := 1) hx hb dX2_goneBySecond_12 (by decide) ?_
  refine lv_isub hx hb dX2_goneBySecond_13 ?_
  refine lv_topi (fun n_1 en_1 => ?_)
  have tn_1 : n_1.toInt = v_band_pieces.toInt - 1 := i_sub en_1 (rfl : v_band_pieces.toInt = v_band_pieces.toInt) (by decide : (1 : Int32).toInt = 1) (by omega) (by omega)
  refine lv_iconst (v := (-1)) hx hb dX2_goneBySecond_14 (by decide) ?_
  refine lv_iload_n hx hb dX2_goneBySecond_15 rfl (lv_at hl 1 rfl) ?_
  have k_2 : ((-1) : Int32).toInt = (-1) := by decide
  refine xi hD hS hA (xV (As := [.ref (hs 76), .int n_1, .int (-1), .int mi]) (rest := []) hx hb hml hown hts hK hP hD hS hA NS_ok hN hAe hl.1 ⟨Nat.le_refl _, Nat.le_refl _⟩ 74 rfl rfl rfl (c_X2_gone_second l D cy hs hH hT sH sT v_tape_size v_band_walkers v_band_loads v_band_pieces v_rules_clauses v_reader_end v_reader_at v_reader_length v_reader_letter v_reader_fault v_draft_clauses v_paces_version v_packing_quicker v_packing_loads v_packing_looseCount v_marches_told v_marches_changeMinutes v_marches_marching v_marches_gone v_search_known v_search_countHere v_search_countThere v_search_cost v_search_most v_search_found f_bytes f_knee f_weight f_limps f_bheft f_owner f_food f_miles f_slope f_rsteps f_rkind f_ryields f_rholds f_rletters f_rstack f_dsteps f_dkind f_dyields f_dholds f_dletters f_dstack f_caps f_versions f_sharing f_pheft f_prow f_holder f_comes f_pcaps f_room f_loose f_reached f_mrow f_minutesOn f_mtired f_here f_there f_statesHere f_statesThere f_listed f_stired f_burdens f_pacesOn f_restedOn f_behindOn f_behindFor f_first f_second f_plans f_tiredOn tS s.heap.size n_1 mi (by omega) hr_miles hr_second (by omega) (by omega)) (gi_V lwd_1189 lwd_1190 lwd_1191 lwd_46 lwd_1192) ⟨rfl, hd_X2_gone⟩ ⟨Nat.le_of_ble_eq_true rfl, Nat.le_of_ble_eq_true rfl⟩ rfl (Nat.le_of_ble_eq_true rfl) dX2_goneBySecond_16) (fun r_4 u_3 H locs hw hP hD hS => ?_)
  try dsimp only at hw hP hD
  clear hw
  exact hrt r_4   hP hD hS rfl dX2_goneBySecond_19
set_option maxHeartbeats 16000000 in
set_option maxRecDepth 100000 in
theorem c_X2_prepare (l : Launch) (D : va_G) (cy : Nat → ClassId) (hs : Nat → Nat) (hH hT sH sT : Nat) (v_tape_size v_band_walkers v_band_loads v_band_pieces v_rules_clauses v_reader_end v_reader_at v_reader_length v_reader_letter v_reader_fault v_draft_clauses v_paces_version v_packing_quicker v_packing_loads v_packing_looseCount v_marches_told v_marches_changeMinutes v_marches_marching v_marches_gone v_search_known v_search_countHere v_search_countThere v_search_cost v_search_most : Int32) (v_search_found : Int64) (f_bytes f_knee f_weight f_limps f_bheft f_owner f_food f_miles f_slope f_rsteps f_rkind f_ryields f_rholds f_rletters f_rstack f_dsteps f_dkind f_dyields f_dholds f_dletters f_dstack f_caps f_versions f_sharing f_pheft f_prow f_holder f_comes f_pcaps f_room f_loose f_reached f_mrow f_minutesOn f_mtired : Nat → Int32) (f_here f_there : Nat → Int64) (f_statesHere f_statesThere f_listed f_stired f_burdens f_pacesOn f_restedOn f_behindOn f_behindFor f_first f_second : Nat → Int32) (f_plans f_tiredOn : Nat → Nat → Int32) (tS : Nat) (sz : Nat) (a1 : Int32) (b1 : Int32) (hb_v_band_walkers : 0 ≤ v_band_walkers.toInt ∧ v_band_walkers.toInt ≤ 6) (hb_v_band_pieces : 0 ≤ v_band_pieces.toInt ∧ v_band_pieces.toInt ≤ 10) (hb_v_rules_clauses : 0 ≤ v_rules_clauses.toInt ∧ v_rules_clauses.toInt ≤ 14) (hr_weight : rg (0) 250 f_weight) (hr_limps : rg (0) 1 f_limps) (hr_miles : rg (0) 20 f_miles) (hr_first : rg (0) 60 f_first) (hr_second : rg (0) 60 f_second) : gMi l yX2_prepare cX2_prepare 6 .boolean 4 [.ref (hs 74), .int a1, .int b1] D cy (wSP cy hs hH hT sH sT v_tape_size v_band_walkers v_band_loads v_band_pieces v_rules_clauses v_reader_end v_reader_at v_reader_length v_reader_letter v_reader_fault v_draft_clauses v_paces_version v_packing_quicker v_packing_loads v_packing_looseCount v_marches_told v_marches_changeMinutes v_marches_marching v_marches_gone v_search_known v_search_countHere v_search_countThere v_search_cost v_search_most v_search_found f_bytes f_knee f_weight f_limps f_bheft f_owner f_food f_miles f_slope f_rsteps f_rkind f_ryields f_rholds f_rletters f_rstack f_dsteps f_dkind f_dyields f_dholds f_dletters f_dstack f_caps f_versions f_sharing f_pheft f_prow f_holder f_comes f_pcaps f_room f_loose f_reached f_mrow f_minutesOn f_mtired f_here f_there f_statesHere f_statesThere f_listed f_stired f_burdens f_pacesOn f_restedOn f_behindOn f_behindFor f_first f_second f_plans f_tiredOn) (NS tS) sz (fun (r : Int32) (u : (Nat → Int32) × (Nat → Int32) × (Nat → Int32) × (Nat → Int32)) => (0 ≤ r.toInt ∧ r.toInt ≤ 1) ∧ (rg (0) 60 (u.2.2.1)) ∧ (rg (0) 60 (u.2.2.2))) (fun u => wSP cy hs hH hT sH sT v_tape_size v_band_walkers v_band_loads v_band_pieces v_rules_clauses v_reader_end v_reader_at v_reader_length v_reader_letter v_reader_fault v_draft_clauses v_paces_version v_packing_quicker v_packing_loads v_packing_looseCount v_marches_told v_marches_changeMinutes v_marches_marching v_marches_gone v_search_known v_search_countHere v_search_countThere v_search_cost v_search_most v_search_found f_bytes f_knee f_weight f_limps f_bheft f_owner f_food f_miles f_slope f_rsteps f_rkind f_ryields f_rholds (u.1) (u.2.1) f_dsteps f_dkind f_dyields f_dholds f_dletters f_dstack f_caps f_versions f_sharing f_pheft f_prow f_holder f_comes f_pcaps f_room f_loose f_reached f_mrow f_minutesOn f_mtired f_here f_there f_statesHere f_statesThere f_listed f_stired f_burdens f_pacesOn f_restedOn f_behindOn f_behindFor (u.2.2.1) (u.2.2.2) f_plans f_tiredOn) := by
  refine gMi_in (by decide) (Nat.le_of_ble_eq_true rfl) ?_
  intro p e s m args below meth c A ls Q hx hb hml hts hown hsz hP hK hD hN hAe hA hS hl hret
  subst hsz
  have hl : lv_has ls 6 [(0, .ref (hs 74)), (1, .int a1), (2, .int b1)] := hl
  have hrt := fun (r : Int32) (f_rletters' : Nat → Int32) (f_rstack' : Nat → Int32) (f_first' : Nat → Int32) (f_second' : Nat → Int32) (hp : (0 ≤ r.toInt ∧ r.toInt ≤ 1) ∧ (rg (0) 60 f_first') ∧ (rg (0) 60 f_second')) {H : Heap} {locs : List Loc} {pc : Nat} {ls : Array Slot} => hret r (f_rletters', f_rstack', f_first', f_second') (H := H) (locs := locs) (pc := pc) (ls := ls) hp
  clear hret
  refine lv_iconst (v := 1) hx hb dX2_prepare_0 (by decide) ?_
  refine lv_istore_n (lv' := [(3, .int 1), (0, .ref (hs 74)), (1, .int a1), (2, .int b1)]) hx hb dX2_prepare_1 rfl hl (by decide) rfl (fun ls hl => ?_)
  refine lv_iconst (v := 0) hx hb dX2_prepare_2 (by decide) ?_
  refine lv_istore (lv' := [(4, .int 0), (3, .int 1), (0, .ref (hs 74)), (1, .int a1), (2, .int b1)]) hx hb dX2_prepare_3 hl (by decide) rfl (fun ls hl => ?_)
  have L5_13 : ∀ (n : Nat) (f_7 : Nat → Int32) (f_8 : Nat → Int32) (f_9 : Nat → Int32) (f_10 : Nat → Int32) (l_11 : Int32) (l_12 : Int32), (rg (0) 60 f_7) → (rg (0) 60 f_10) → (0 ≤ l_11.toInt ∧ l_11.toInt ≤ 1) → (0 ≤ l_12.toInt ∧ l_12.toInt ≤ 10) → 11 - l_12.toInt < n → ∀ (H : Heap) (locs : List Loc) (ls : Array Slot), va_P D vwCl (wSP cy hs hH hT sH sT v_tape_size v_band_walkers v_band_loads v_band_pieces v_rules_clauses v_reader_end v_reader_at v_reader_length v_reader_letter v_reader_fault v_draft_clauses v_paces_version v_packing_quicker v_packing_loads v_packing_looseCount v_marches_told v_marches_changeMinutes v_marches_marching v_marches_gone v_search_known v_search_countHere v_search_countThere v_search_cost v_search_most v_search_found f_bytes f_knee f_weight f_limps f_bheft f_owner f_food f_miles f_slope f_rsteps f_rkind f_ryields f_rholds f_8 f_9 f_dsteps f_dkind f_dyields f_dholds f_dletters f_dstack f_caps f_versions f_sharing f_pheft f_prow f_holder f_comes f_pcaps f_room f_loose f_reached f_mrow f_minutesOn f_mtired f_here f_there f_statesHere f_statesThere f_listed f_stired f_burdens f_pacesOn f_restedOn f_behindOn f_behindFor f_7 f_10 f_plans f_tiredOn) H → va_D A (wSP cy hs hH hT sH sT v_tape_size v_band_walkers v_band_loads v_band_pieces v_rules_clauses v_reader_end v_reader_at v_reader_length v_reader_letter v_reader_fault v_draft_clauses v_paces_version v_packing_quicker v_packing_loads v_packing_looseCount v_marches_told v_marches_changeMinutes v_marches_marching v_marches_gone v_search_known v_search_countHere v_search_countThere v_search_cost v_search_most v_search_found f_bytes f_knee f_weight f_limps f_bheft f_owner f_food f_miles f_slope f_rsteps f_rkind f_ryields f_rholds f_8 f_9 f_dsteps f_dkind f_dyields f_dholds f_dletters f_dstack f_caps f_versions f_sharing f_pheft f_prow f_holder f_comes f_pcaps f_room f_loose f_reached f_mrow f_minutesOn f_mtired f_here f_there f_statesHere f_statesThere f_listed f_stired f_burdens f_pacesOn f_restedOn f_behindOn f_behindFor f_7 f_10 f_plans f_tiredOn) → va_S A s.heap H locs → lv_has ls 6 [(4, .int l_12), (3, .int l_11), (0, .ref (hs 74)), (1, .int a1), (2, .int b1)] → W p l e (gRm 4) s m args below meth c H locs 0 0 Q (F0 m 5 ls []) := by
    intro n
    induction n with
    | zero => intro f_7 f_8 f_9 f_10 l_11 l_12 hL5_13_0 hL5_13_1 hL5_13_2 hL5_13_3 hm; exact absurd hm (by omega)
    | succ n ih5_13 =>
      intro f_7 f_8 f_9 f_10 l_11 l_12 hL5_13_0 hL5_13_1 hL5_13_2 hL5_13_3 hmL5_13 H locs ls hP hD hS hl
      refine lv_iload hx hb dX2_prepare_5 (lv_at hl 0 rfl) ?_
      refine lv_aload_n hx hb dX2_prepare_7 rfl (lv_at hl 2 rfl) ?_
      refine gt_SP_meeting_band hx hb hts hown hK hP lwd_148 dX2_prepare_8 ?_
      refine gt_SP_band_pieces hx hb hts hown hK hP lwd_1171 dX2_prepare_11 ?_
      refine lv_icmp_ge (tgt := 168) hx hb dX2_prepare_14 (by decide) (fun c_14 => ?_) (fun c_14 => ?_)
      · have gc_14 : v_band_pieces.toInt ≤ l_12.toInt := i_le (rfl : v_band_pieces.toInt = v_band_pieces.toInt) (rfl : l_12.toInt = l_12.toInt) c_14
        refine lv_iload_n hx hb dX2_prepare_168 rfl (lv_at hl 1 rfl) ?_
        exact hrt l_11 f_8 f_9 f_7 f_10 ⟨(by omega), hL5_13_0, hL5_13_1⟩ hP hD hS (nar_b (i_01' (by omega))) dX2_prepare_169
      · have gc_14 : l_12.toInt < v_band_pieces.toInt := i_nle (rfl : v_band_pieces.toInt = v_band_pieces.toInt) (rfl : l_12.toInt = l_12.toInt) c_14
        refine lv_aload_n hx hb dX2_prepare_17 rfl (lv_at hl 2 rfl) ?_
        refine gt_SP_meeting_first hx hb hts hown hK hP lwd_146 dX2_prepare_18 ?_
        refine lv_iload hx hb dX2_prepare_21 (lv_at hl 0 rfl) ?_
        refine lv_bipush (v := 60) hx hb dX2_prepare_23 (by decide) ?_
        refine as_first (x := 60) hx hb hK hP hD hS hL5_13_0 (i_in (rfl : l_12.toInt = l_12.toInt) (by omega) (by omega)) (by decide) dX2_prepare_25 (fun f_15 ef_15 rf_15 H locs hP hD hS => ?_)
        refine lv_aload_n hx hb dX2_prepare_26 rfl (lv_at hl 2 rfl) ?_
        refine gt_SP_meeting_second hx hb hts hown hK hP lwd_147 dX2_prepare_27 ?_
        refine lv_iload hx hb dX2_prepare_30 (lv_at hl 0 rfl) ?_
        refine lv_bipush (v := 60) hx hb dX2_prepare_32 (by decide) ?_
        refine as_second (x := 60) hx hb hK hP hD hS hL5_13_1 (i_in (rfl : l_12.toInt = l_12.toInt) (by omega) (by omega)) (by decide) dX2_prepare_34 (fun f_16 ef_16 rf_16 H locs hP hD hS => ?_)
        refine lv_iconst (v := 0) hx hb dX2_prepare_35 (by decide) ?_
        refine lv_istore (lv' := [(5, .int 0), (4, .int l_12), (3, .int l_11), (0, .ref (hs 74)), (1, .int a1), (2, .int b1)]) hx hb dX2_prepare_36 hl (by decide) rfl (fun ls hl => ?_)
        have L38_27 : ∀ (n : Nat) (f_22 : Nat → Int32) (f_23 : Nat → Int32) (f_24 : Nat → Int32) (f_25 : Nat → Int32) (l_26 : Int32), (rg (0) 60 f_22) → (rg (0) 60 f_25) → (0 ≤ l_26.toInt ∧ l_26.toInt ≤ 6) → 7 - l_26.toInt < n → ∀ (H : Heap) (locs : List Loc) (ls : Array Slot), va_P D vwCl (wSP cy hs hH hT sH sT v_tape_size v_band_walkers v_band_loads v_band_pieces v_rules_clauses v_reader_end v_reader_at v_reader_length v_reader_letter v_reader_fault v_draft_clauses v_paces_version v_packing_quicker v_packing_loads v_packing_looseCount v_marches_told v_marches_changeMinutes v_marches_marching v_marches_gone v_search_known v_search_countHere v_search_countThere v_search_cost v_search_most v_search_found f_bytes f_knee f_weight f_limps f_bheft f_owner f_food f_miles f_slope f_rsteps f_rkind f_ryields f_rholds f_23 f_24 f_dsteps f_dkind f_dyields f_dholds f_dletters f_dstack f_caps f_versions f_sharing f_pheft f_prow f_holder f_comes f_pcaps f_room f_loose f_reached f_mrow f_minutesOn f_mtired f_here f_there f_statesHere f_statesThere f_listed f_stired f_burdens f_pacesOn f_restedOn f_behindOn f_behindFor f_22 f_25 f_plans f_tiredOn) H → va_D A (wSP cy hs hH hT sH sT v_tape_size v_band_walkers v_band_loads v_band_pieces v_rules_clauses v_reader_end v_reader_at v_reader_length v_reader_letter v_reader_fault v_draft_clauses v_paces_version v_packing_quicker v_packing_loads v_packing_looseCount v_marches_told v_marches_changeMinutes v_marches_marching v_marches_gone v_search_known v_search_countHere v_search_countThere v_search_cost v_search_most v_search_found f_bytes f_knee f_weight f_limps f_bheft f_owner f_food f_miles f_slope f_rsteps f_rkind f_ryields f_rholds f_23 f_24 f_dsteps f_dkind f_dyields f_dholds f_dletters f_dstack f_caps f_versions f_sharing f_pheft f_prow f_holder f_comes f_pcaps f_room f_loose f_reached f_mrow f_minutesOn f_mtired f_here f_there f_statesHere f_statesThere f_listed f_stired f_burdens f_pacesOn f_restedOn f_behindOn f_behindFor f_22 f_25 f_plans f_tiredOn) → va_S A s.heap H locs → lv_has ls 6 [(5, .int l_26), (4, .int l_12), (3, .int l_11), (0, .ref (hs 74)), (1, .int a1), (2, .int b1)] → W p l e (gRm 4) s m args below meth c H locs 0 0 Q (F0 m 38 ls []) := by
          intro n
          induction n with
          | zero => intro f_22 f_23 f_24 f_25 l_26 hL38_27_0 hL38_27_1 hL38_27_2 hm; exact absurd hm (by omega)
          | succ n ih38_27 =>
            intro f_22 f_23 f_24 f_25 l_26 hL38_27_0 hL38_27_1 hL38_27_2 hmL38_27 H locs ls hP hD hS hl
            refine lv_iload hx hb dX2_prepare_38 (lv_at hl 0 rfl) ?_
            refine lv_aload_n hx hb dX2_prepare_40 rfl (lv_at hl 3 rfl) ?_
            refine gt_SP_meeting_band hx hb hts hown hK hP lwd_148 dX2_prepare_41 ?_
            refine gt_SP_band_walkers hx hb hts hown hK hP lwd_1172 dX2_prepare_44 ?_
            refine lv_icmp_ge (tgt := 132) hx hb dX2_prepare_47 (by decide) (fun c_28 => ?_) (fun c_28 => ?_)
            · have gc_28 : v_band_walkers.toInt ≤ l_26.toInt := i_le (rfl : v_band_walkers.toInt = v_band_walkers.toInt) (rfl : l_26.toInt = l_26.toInt) c_28
              refine lv_iload_n hx hb dX2_prepare_132 rfl (lv_at hl 2 rfl) ?_
              refine lv_if_eq (tgt := 160) hx hb dX2_prepare_133 (by decide) (fun c_29 => ?_) (fun c_29 => ?_)
              · have gc_29 : l_11.toInt = 0 := i_eq (rfl : l_11.toInt = l_11.toInt) (by decide : (0 : Int32).toInt = 0) c_29
                refine lv_iconst (v := 0) hx hb dX2_prepare_160 (by decide) ?_
                refine lv_istore_n (lv' := [(3, .int 0), (5, .int l_26), (4, .int l_12), (0, .ref (hs 74)), (1, .int a1), (2, .int b1)]) hx hb dX2_prepare_161 rfl hl (by decide) rfl (fun ls hl => ?_)
                obtain ⟨n_30, en_30⟩ : ∃ y : Int32, y = l_12 + 1 := ⟨_, rfl⟩
                have tn_30 : n_30.toInt = l_12.toInt + 1 := i_add en_30 (rfl : l_12.toInt = l_12.toInt) (by decide : (1 : Int32).toInt = 1) (by omega) (by omega)
                refine lv_iinc (v := n_30) (lv' := [(4, .int n_30), (3, .int 0), (5, .int l_26), (0, .ref (hs 74)), (1, .int a1), (2, .int b1)]) hx hb dX2_prepare_162 hl (k := 2) rfl (by rw [en_30]; rfl) (by decide) rfl (fun ls hl => ?_)
                refine lv_goto (tgt := 5) hx hb dX2_prepare_165 (by decide) ?_
                have k_31 : (0 : Int32).toInt = 0 := by decide
                exact ih5_13 f_22 f_23 f_24 f_25 0 n_30 hL38_27_0 hL38_27_1 (by omega) (by omega) (by omega) _ _ _ hP hD hS (lv_sub hl [0, 1, 3, 4, 5] rfl)
              · have gc_29 : l_11.toInt ≠ 0 := i_ne (rfl : l_11.toInt = l_11.toInt) (by decide : (0 : Int32).toInt = 0) c_29
                refine lv_aload_n hx hb dX2_prepare_136 rfl (lv_at hl 3 rfl) ?_
                refine gt_SP_meeting_first hx hb hts hown hK hP lwd_146 dX2_prepare_137 ?_
                refine lv_iload hx hb dX2_prepare_140 (lv_at hl 1 rfl) ?_
                refine al_first hx hb hK hP hL38_27_0 (i_in (rfl : l_12.toInt = l_12.toInt) (by omega) (by omega)) dX2_prepare_142 (fun n_32 en_32 bn_32 => ?_)
                refine lv_if_le (tgt := 160) hx hb dX2_prepare_143 (by decide) (fun c_33 => ?_) (fun c_33 => ?_)
                · have gc_33 : n_32.toInt ≤ 0 := i_le (rfl : n_32.toInt = n_32.toInt) (by decide : (0 : Int32).toInt = 0) c_33
                  refine lv_iconst (v := 0) hx hb dX2_prepare_160 (by decide) ?_
                  refine lv_istore_n (lv' := [(3, .int 0), (5, .int l_26), (4, .int l_12), (0, .ref (hs 74)), (1, .int a1), (2, .int b1)]) hx hb dX2_prepare_161 rfl hl (by decide) rfl (fun ls hl => ?_)
                  obtain ⟨n_34, en_34⟩ : ∃ y : Int32, y = l_12 + 1 := ⟨_, rfl⟩
                  have tn_34 : n_34.toInt = l_12.toInt + 1 := i_add en_34 (rfl : l_12.toInt = l_12.toInt) (by decide : (1 : Int32).toInt = 1) (by omega) (by omega)
                  refine lv_iinc (v := n_34) (lv' := [(4, .int n_34), (3, .int 0), (5, .int l_26), (0, .ref (hs 74)), (1, .int a1), (2, .int b1)]) hx hb dX2_prepare_162 hl (k := 2) rfl (by rw [en_34]; rfl) (by decide) rfl (fun ls hl => ?_)
                  refine lv_goto (tgt := 5) hx hb dX2_prepare_165 (by decide) ?_
                  have k_35 : (0 : Int32).toInt = 0 := by decide
                  exact ih5_13 f_22 f_23 f_24 f_25 0 n_34 hL38_27_0 hL38_27_1 (by omega) (by omega) (by omega) _ _ _ hP hD hS (lv_sub hl [0, 1, 3, 4, 5] rfl)
                · have gc_33 : 0 < n_32.toInt := i_nle (rfl : n_32.toInt = n_32.toInt) (by decide : (0 : Int32).toInt = 0) c_33
                  refine lv_aload_n hx hb dX2_prepare_146 rfl (lv_at hl 3 rfl) ?_
                  refine gt_SP_meeting_second hx hb hts hown hK hP lwd_147 dX2_prepare_147 ?_
                  refine lv_iload hx hb dX2_prepare_150 (lv_at hl 1 rfl) ?_
                  refine al_second hx hb hK hP hL38_27_1 (i_in (rfl : l_12.toInt = l_12.toInt) (by omega) (by omega)) dX2_prepare_152 (fun n_36 en_36 bn_36 => ?_)
                  refine lv_if_le (tgt := 160) hx hb dX2_prepare_153 (by decide) (fun c_37 => ?_) (fun c_37 => ?_)
                  · have gc_37 : n_36.toInt ≤ 0 := i_le (rfl : n_36.toInt = n_36.toInt) (by decide : (0 : Int32).toInt = 0) c_37
                    refine lv_iconst (v := 0) hx hb dX2_prepare_160 (by decide) ?_
                    refine lv_istore_n (lv' := [(3, .int 0), (5, .int l_26), (4, .int l_12), (0, .ref (hs 74)), (1, .int a1), (2, .int b1)]) hx hb dX2_prepare_161 rfl hl (by decide) rfl (fun ls hl => ?_)
                    obtain ⟨n_38, en_38⟩ : ∃ y : Int32, y = l_12 + 1 := ⟨_, rfl⟩
                    have tn_38 : n_38.toInt = l_12.toInt + 1 := i_add en_38 (rfl : l_12.toInt = l_12.toInt) (by decide : (1 : Int32).toInt = 1) (by omega) (by omega)
                    refine lv_iinc (v := n_38) (lv' := [(4, .int n_38), (3, .int 0), (5, .int l_26), (0, .ref (hs 74)), (1, .int a1), (2, .int b1)]) hx hb dX2_prepare_162 hl (k := 2) rfl (by rw [en_38]; rfl) (by decide) rfl (fun ls hl => ?_)
                    refine lv_goto (tgt := 5) hx hb dX2_prepare_165 (by decide) ?_
                    have k_39 : (0 : Int32).toInt = 0 := by decide
                    exact ih5_13 f_22 f_23 f_24 f_25 0 n_38 hL38_27_0 hL38_27_1 (by omega) (by omega) (by omega) _ _ _ hP hD hS (lv_sub hl [0, 1, 3, 4, 5] rfl)
                  · have gc_37 : 0 < n_36.toInt := i_nle (rfl : n_36.toInt = n_36.toInt) (by decide : (0 : Int32).toInt = 0) c_37
                    refine lv_iconst (v := 1) hx hb dX2_prepare_156 (by decide) ?_
                    refine lv_goto (tgt := 161) hx hb dX2_prepare_157 (by decide) ?_
                    refine lv_istore_n (lv' := [(3, .int 1), (5, .int l_26), (4, .int l_12), (0, .ref (hs 74)), (1, .int a1), (2, .int b1)]) hx hb dX2_prepare_161 rfl hl (by decide) rfl (fun ls hl => ?_)
                    obtain ⟨n_40, en_40⟩ : ∃ y : Int32, y = l_12 + 1 := ⟨_, rfl⟩
                    have tn_40 : n_40.toInt = l_12.toInt + 1 := i_add en_40 (rfl : l_12.toInt = l_12.toInt) (by decide : (1 : Int32).toInt = 1) (by omega) (by omega)
                    refine lv_iinc (v := n_40) (lv' := [(4, .int n_40), (3, .int 1), (5, .int l_26), (0, .ref (hs 74)), (1, .int a1), (2, .int b1)]) hx hb dX2_prepare_162 hl (k := 2) rfl (by rw [en_40]; rfl) (by decide) rfl (fun ls hl => ?_)
                    refine lv_goto (tgt := 5) hx hb dX2_prepare_165 (by decide) ?_
                    have k_41 : (1 : Int32).toInt = 1 := by decide
                    exact ih5_13 f_22 f_23 f_24 f_25 1 n_40 hL38_27_0 hL38_27_1 (by omega) (by omega) (by omega) _ _ _ hP hD hS (lv_sub hl [0, 1, 3, 4, 5] rfl)
            · have gc_28 : l_26.toInt < v_band_walkers.toInt := i_nle (rfl : v_band_walkers.toInt = v_band_walkers.toInt) (rfl : l_26.toInt = l_26.toInt) c_28
              refine lv_iload_n hx hb dX2_prepare_50 rfl (lv_at hl 4 rfl) ?_
              refine lv_iload hx hb dX2_prepare_51 (lv_at hl 0 rfl) ?_
              refine lv_ishr hx hb dX2_prepare_53 ?_
              refine lv_topi (fun n_42 en_42 => ?_)
              refine lv_iconst (v := 1) hx hb dX2_prepare_54 (by decide) ?_
              refine lv_iand hx hb dX2_prepare_55 ?_
              refine lv_topi (fun n_43 en_43 => ?_)
              have bn_43 : 0 ≤ n_43.toInt ∧ n_43.toInt ≤ 1 := i_msk 1 en_43 (by decide) (by decide) (by decide)
              refine lv_if_eq (tgt := 89) hx hb dX2_prepare_56 (by decide) (fun c_44 => ?_) (fun c_44 => ?_)
              · have gc_44 : n_43.toInt = 0 := i_eq (rfl : n_43.toInt = n_43.toInt) (by decide : (0 : Int32).toInt = 0) c_44
                refine lv_iload_n hx hb dX2_prepare_89 rfl (lv_at hl 5 rfl) ?_
                refine lv_iload hx hb dX2_prepare_90 (lv_at hl 0 rfl) ?_
                refine lv_ishr hx hb dX2_prepare_92 ?_
                refine lv_topi (fun n_45 en_45 => ?_)
                refine lv_iconst (v := 1) hx hb dX2_prepare_93 (by decide) ?_
                refine lv_iand hx hb dX2_prepare_94 ?_
                refine lv_topi (fun n_46 en_46 => ?_)
                have bn_46 : 0 ≤ n_46.toInt ∧ n_46.toInt ≤ 1 := i_msk 1 en_46 (by decide) (by decide) (by decide)
                refine lv_if_eq (tgt := 126) hx hb dX2_prepare_95 (by decide) (fun c_47 => ?_) (fun c_47 => ?_)
                · have gc_47 : n_46.toInt = 0 := i_eq (rfl : n_46.toInt = n_46.toInt) (by decide : (0 : Int32).toInt = 0) c_47
                  obtain ⟨n_48, en_48⟩ : ∃ y : Int32, y = l_26 + 1 := ⟨_, rfl⟩
                  have tn_48 : n_48.toInt = l_26.toInt + 1 := i_add en_48 (rfl : l_26.toInt = l_26.toInt) (by decide : (1 : Int32).toInt = 1) (by omega) (by omega)
                  refine lv_iinc (v := n_48) (lv' := [(5, .int n_48), (4, .int l_12), (3, .int l_11), (0, .ref (hs 74)), (1, .int a1), (2, .int b1)]) hx hb dX2_prepare_126 hl (k := 0) rfl (by rw [en_48]; rfl) (by decide) rfl (fun ls hl => ?_)
                  refine lv_goto (tgt := 38) hx hb dX2_prepare_129 (by decide) ?_
                  exact ih38_27 f_22 f_23 f_24 f_25 n_48 hL38_27_0 hL38_27_1 (by omega) (by omega) _ _ _ hP hD hS (lv_sub hl [0, 1, 2, 3, 4, 5] rfl)
                · have gc_47 : n_46.toInt ≠ 0 := i_ne (rfl : n_46.toInt = n_46.toInt) (by decide : (0 : Int32).toInt = 0) c_47
                  refine lv_aload_n hx hb dX2_prepare_98 rfl (lv_at hl 3 rfl) ?_
                  refine gt_SP_meeting_second hx hb hts hown hK hP lwd_147 dX2_prepare_99 ?_
                  refine lv_iload hx hb dX2_prepare_102 (lv_at hl 1 rfl) ?_
                  refine lv_aload_n hx hb dX2_prepare_104 rfl (lv_at hl 3 rfl) ?_
                  refine gt_SP_meeting_second hx hb hts hown hK hP lwd_147 dX2_prepare_105 ?_
                  refine lv_iload hx hb dX2_prepare_108 (lv_at hl 1 rfl) ?_
                  refine al_second hx hb hK hP hL38_27_1 (i_in (rfl : l_12.toInt = l_12.toInt) (by omega) (by omega)) dX2_prepare_110 (fun n_49 en_49 bn_49 => ?_)
                  refine lv_aload_n hx hb dX2_prepare_111 rfl (lv_at hl 3 rfl) ?_
                  refine gt_SP_meeting_paces hx hb hts hown hK hP lwd_149 dX2_prepare_112 ?_
                  refine lv_iload hx hb dX2_prepare_115 (lv_at hl 0 rfl) ?_
                  refine lv_iload hx hb dX2_prepare_117 (lv_at hl 1 rfl) ?_
                  refine xi hD hS hA (xV (As := [.int l_26, .int l_12]) (rest := [.int n_49, .int l_12, .ref (hs 76)]) hx hb hml hown hts hK hP hD hS hA NS_ok hN hAe hl.1 ⟨Nat.le_refl _, Nat.le_refl _⟩ 27 rfl rfl rfl (c_X3_paceBack l D cy hs hH hT sH sT v_tape_size v_band_walkers v_band_loads v_band_pieces v_rules_clauses v_reader_end v_reader_at v_reader_length v_reader_letter v_reader_fault v_draft_clauses v_paces_version v_packing_quicker v_packing_loads v_packing_looseCount v_marches_told v_marches_changeMinutes v_marches_marching v_marches_gone v_search_known v_search_countHere v_search_countThere v_search_cost v_search_most v_search_found f_bytes f_knee f_weight f_limps f_bheft f_owner f_food f_miles f_slope f_rsteps f_rkind f_ryields f_rholds f_23 f_24 f_dsteps f_dkind f_dyields f_dholds f_dletters f_dstack f_caps f_versions f_sharing f_pheft f_prow f_holder f_comes f_pcaps f_room f_loose f_reached f_mrow f_minutesOn f_mtired f_here f_there f_statesHere f_statesThere f_listed f_stired f_burdens f_pacesOn f_restedOn f_behindOn f_behindFor f_22 f_25 f_plans f_tiredOn tS H.size l_26 l_12 (by omega) (by omega) hr_weight hr_limps hr_miles (by omega) (by omega)) (gi_V lwd_1175 lwd_1176 lwd_1177 lwd_30 lwd_1178) ⟨rfl, hd_X3_paceBack⟩ ⟨Nat.le_of_ble_eq_true rfl, Nat.le_of_ble_eq_true rfl⟩ rfl (Nat.le_of_ble_eq_true rfl) dX2_prepare_119) (fun r_51 u_50 H locs hw hP hD hS => ?_)
                  obtain ⟨zrletters_52, zrstack_53⟩ := u_50
                  try dsimp only at hw hP hD
                  have p_54 := hw
                  clear hw
                  refine va_mmin hx hb (by rw [hml]; exact hl.1.symm) hown (hts _ lwd_1173) (hts _ lwd_528) (hts _ lwd_529) (hts _ lwd_530) (Nat.le_of_ble_eq_true rfl) (Nat.le_of_ble_eq_true rfl) (Nat.zero_le _) (Nat.zero_le _) dX2_prepare_122 ?_
                  refine lv_topi (fun n_55 en_55 => ?_)
                  have tn_55 := i_min en_55 (rfl : n_49.toInt = n_49.toInt) (rfl : r_51.toInt = r_51.toInt)
                  refine as_second (x := n_55) hx hb hK hP hD hS hL38_27_1 (i_in (rfl : l_12.toInt = l_12.toInt) (by omega) (by omega)) (by omega) dX2_prepare_125 (fun f_56 ef_56 rf_56 H locs hP hD hS => ?_)
                  obtain ⟨n_57, en_57⟩ : ∃ y : Int32, y = l_26 + 1 := ⟨_, rfl⟩
                  have tn_57 : n_57.toInt = l_26.toInt + 1 := i_add en_57 (rfl : l_26.toInt = l_26.toInt) (by decide : (1 : Int32).toInt = 1) (by omega) (by omega)
                  refine lv_iinc (v := n_57) (lv' := [(5, .int n_57), (4, .int l_12), (3, .int l_11), (0, .ref (hs 74)), (1, .int a1), (2, .int b1)]) hx hb dX2_prepare_126 hl (k := 0) rfl (by rw [en_57]; rfl) (by decide) rfl (fun ls hl => ?_)
                  refine lv_goto (tgt := 38) hx hb dX2_prepare_129 (by decide) ?_
                  exact ih38_27 f_22 zrletters_52 zrstack_53 f_56 n_57 hL38_27_0 rf_56 (by omega) (by omega) _ _ _ hP hD hS (lv_sub hl [0, 1, 2, 3, 4, 5] rfl)
              · have gc_44 : n_43.toInt ≠ 0 := i_ne (rfl : n_43.toInt = n_43.toInt) (by decide : (0 : Int32).toInt = 0) c_44
                refine lv_aload_n hx hb dX2_prepare_59 rfl (lv_at hl 3 rfl) ?_
                refine gt_SP_meeting_first hx hb hts hown hK hP lwd_146 dX2_prepare_60 ?_
                refine lv_iload hx hb dX2_prepare_63 (lv_at hl 1 rfl) ?_
                refine lv_aload_n hx hb dX2_prepare_65 rfl (lv_at hl 3 rfl) ?_
                refine gt_SP_meeting_first hx hb hts hown hK hP lwd_146 dX2_prepare_66 ?_
                refine lv_iload hx hb dX2_prepare_69 (lv_at hl 1 rfl) ?_
                refine al_first hx hb hK hP hL38_27_0 (i_in (rfl : l_12.toInt = l_12.toInt) (by omega) (by omega)) dX2_prepare_71 (fun n_58 en_58 bn_58 => ?_)
                refine lv_aload_n hx hb dX2_prepare_72 rfl (lv_at hl 3 rfl) ?_
                refine gt_SP_meeting_paces hx hb hts hown hK hP lwd_149 dX2_prepare_73 ?_
                refine lv_iload hx hb dX2_prepare_76 (lv_at hl 0 rfl) ?_
                refine lv_iconst (v := 0) hx hb dX2_prepare_78 (by decide) ?_
                refine lv_iconst (v := 0) hx hb dX2_prepare_79 (by decide) ?_
                refine lv_iload hx hb dX2_prepare_80 (lv_at hl 1 rfl) ?_
                have k_59 : (0 : Int32).toInt = 0 := by decide
                refine xi hD hS hA (xV (As := [.int l_26, .int 0, .int 0, .int l_12]) (rest := [.int n_58, .int l_12, .ref (hs 75)]) hx hb hml hown hts hK hP hD hS hA NS_ok hN hAe hl.1 ⟨Nat.le_refl _, Nat.le_refl _⟩ 27 rfl rfl rfl (c_X3_paceOf l D cy hs hH hT sH sT v_tape_size v_band_walkers v_band_loads v_band_pieces v_rules_clauses v_reader_end v_reader_at v_reader_length v_reader_letter v_reader_fault v_draft_clauses v_paces_version v_packing_quicker v_packing_loads v_packing_looseCount v_marches_told v_marches_changeMinutes v_marches_marching v_marches_gone v_search_known v_search_countHere v_search_countThere v_search_cost v_search_most v_search_found f_bytes f_knee f_weight f_limps f_bheft f_owner f_food f_miles f_slope f_rsteps f_rkind f_ryields f_rholds f_23 f_24 f_dsteps f_dkind f_dyields f_dholds f_dletters f_dstack f_caps f_versions f_sharing f_pheft f_prow f_holder f_comes f_pcaps f_room f_loose f_reached f_mrow f_minutesOn f_mtired f_here f_there f_statesHere f_statesThere f_listed f_stired f_burdens f_pacesOn f_restedOn f_behindOn f_behindFor f_22 f_25 f_plans f_tiredOn tS H.size l_26 0 0 l_12 (by omega) (by omega) hr_weight hr_limps hr_miles (by omega) (by omega)) (gi_V lwd_1174 lwd_510 lwd_511 lwd_30 lwd_512) ⟨rfl, hd_X3_paceOf⟩ ⟨Nat.le_of_ble_eq_true rfl, Nat.le_of_ble_eq_true rfl⟩ rfl (Nat.le_of_ble_eq_true rfl) dX2_prepare_82) (fun r_61 u_60 H locs hw hP hD hS => ?_)
                obtain ⟨zrletters_62, zrstack_63⟩ := u_60
                try dsimp only at hw hP hD
                have p_64 := hw
                clear hw
                refine va_mmin hx hb (by rw [hml]; exact hl.1.symm) hown (hts _ lwd_1173) (hts _ lwd_528) (hts _ lwd_529) (hts _ lwd_530) (Nat.le_of_ble_eq_true rfl) (Nat.le_of_ble_eq_true rfl) (Nat.zero_le _) (Nat.zero_le _) dX2_prepare_85 ?_
                refine lv_topi (fun n_65 en_65 => ?_)
                have tn_65 := i_min en_65 (rfl : n_58.toInt = n_58.toInt) (rfl : r_61.toInt = r_61.toInt)
                refine as_first (x := n_65) hx hb hK hP hD hS hL38_27_0 (i_in (rfl : l_12.toInt = l_12.toInt) (by omega) (by omega)) (by omega) dX2_prepare_88 (fun f_66 ef_66 rf_66 H locs hP hD hS => ?_)
                refine lv_iload_n hx hb dX2_prepare_89 rfl (lv_at hl 5 rfl) ?_
                refine lv_iload hx hb dX2_prepare_90 (lv_at hl 0 rfl) ?_
                refine lv_ishr hx hb dX2_prepare_92 ?_
                refine lv_topi (fun n_67 en_67 => ?_)
                refine lv_iconst (v := 1) hx hb dX2_prepare_93 (by decide) ?_
                refine lv_iand hx hb dX2_prepare_94 ?_
                refine lv_topi (fun n_68 en_68 => ?_)
                have bn_68 : 0 ≤ n_68.toInt ∧ n_68.toInt ≤ 1 := i_msk 1 en_68 (by decide) (by decide) (by decide)
                refine lv_if_eq (tgt := 126) hx hb dX2_prepare_95 (by decide) (fun c_69 => ?_) (fun c_69 => ?_)
                · have gc_69 : n_68.toInt = 0 := i_eq (rfl : n_68.toInt = n_68.toInt) (by decide : (0 : Int32).toInt = 0) c_69
                  obtain ⟨n_70, en_70⟩ : ∃ y : Int32, y = l_26 + 1 := ⟨_, rfl⟩
                  have tn_70 : n_70.toInt = l_26.toInt + 1 := i_add en_70 (rfl : l_26.toInt = l_26.toInt) (by decide : (1 : Int32).toInt = 1) (by omega) (by omega)
                  refine lv_iinc (v := n_70) (lv' := [(5, .int n_70), (4, .int l_12), (3, .int l_11), (0, .ref (hs 74)), (1, .int a1), (2, .int b1)]) hx hb dX2_prepare_126 hl (k := 0) rfl (by rw [en_70]; rfl) (by decide) rfl (fun ls hl => ?_)
                  refine lv_goto (tgt := 38) hx hb dX2_prepare_129 (by decide) ?_
                  exact ih38_27 f_66 zrletters_62 zrstack_63 f_25 n_70 rf_66 hL38_27_1 (by omega) (by omega) _ _ _ hP hD hS (lv_sub hl [0, 1, 2, 3, 4, 5] rfl)
                · have gc_69 : n_68.toInt ≠ 0 := i_ne (rfl : n_68.toInt = n_68.toInt) (by decide : (0 : Int32).toInt = 0) c_69
                  refine lv_aload_n hx hb dX2_prepare_98 rfl (lv_at hl 3 rfl) ?_
                  refine gt_SP_meeting_second hx hb hts hown hK hP lwd_147 dX2_prepare_99 ?_
                  refine lv_iload hx hb dX2_prepare_102 (lv_at hl 1 rfl) ?_
                  refine lv_aload_n hx hb dX2_prepare_104 rfl (lv_at hl 3 rfl) ?_
                  refine gt_SP_meeting_second hx hb hts hown hK hP lwd_147 dX2_prepare_105 ?_
                  refine lv_iload hx hb dX2_prepare_108 (lv_at hl 1 rfl) ?_
                  refine al_second hx hb hK hP hL38_27_1 (i_in (rfl : l_12.toInt = l_12.toInt) (by omega) (by omega)) dX2_prepare_110 (fun n_71 en_71 bn_71 => ?_)
                  refine lv_aload_n hx hb dX2_prepare_111 rfl (lv_at hl 3 rfl) ?_
                  refine gt_SP_meeting_paces hx hb hts hown hK hP lwd_149 dX2_prepare_112 ?_
                  refine lv_iload hx hb dX2_prepare_115 (lv_at hl 0 rfl) ?_
                  refine lv_iload hx hb dX2_prepare_117 (lv_at hl 1 rfl) ?_
                  refine xi hD hS hA (xV (As := [.int l_26, .int l_12]) (rest := [.int n_71, .int l_12, .ref (hs 76)]) hx hb hml hown hts hK hP hD hS hA NS_ok hN hAe hl.1 ⟨Nat.le_refl _, Nat.le_refl _⟩ 27 rfl rfl rfl (c_X3_paceBack l D cy hs hH hT sH sT v_tape_size v_band_walkers v_band_loads v_band_pieces v_rules_clauses v_reader_end v_reader_at v_reader_length v_reader_letter v_reader_fault v_draft_clauses v_paces_version v_packing_quicker v_packing_loads v_packing_looseCount v_marches_told v_marches_changeMinutes v_marches_marching v_marches_gone v_search_known v_search_countHere v_search_countThere v_search_cost v_search_most v_search_found f_bytes f_knee f_weight f_limps f_bheft f_owner f_food f_miles f_slope f_rsteps f_rkind f_ryields f_rholds zrletters_62 zrstack_63 f_dsteps f_dkind f_dyields f_dholds f_dletters f_dstack f_caps f_versions f_sharing f_pheft f_prow f_holder f_comes f_pcaps f_room f_loose f_reached f_mrow f_minutesOn f_mtired f_here f_there f_statesHere f_statesThere f_listed f_stired f_burdens f_pacesOn f_restedOn f_behindOn f_behindFor f_66 f_25 f_plans f_tiredOn tS H.size l_26 l_12 (by omega) (by omega) hr_weight hr_limps hr_miles (by omega) (by omega)) (gi_V lwd_1175 lwd_1176 lwd_1177 lwd_30 lwd_1178) ⟨rfl, hd_X3_paceBack⟩ ⟨Nat.le_of_ble_eq_true rfl, Nat.le_of_ble_eq_true rfl⟩ rfl (Nat.le_of_ble_eq_true rfl) dX2_prepare_119) (fun r_73 u_72 H locs hw hP hD hS => ?_)
                  obtain ⟨zrletters_74, zrstack_75⟩ := u_72
                  try dsimp only at hw hP hD
                  have p_76 := hw
                  clear hw
                  refine va_mmin hx hb (by rw [hml]; exact hl.1.symm) hown (hts _ lwd_1173) (hts _ lwd_528) (hts _ lwd_529) (hts _ lwd_530) (Nat.le_of_ble_eq_true rfl) (Nat.le_of_ble_eq_true rfl) (Nat.zero_le _) (Nat.zero_le _) dX2_prepare_122 ?_
                  refine lv_topi (fun n_77 en_77 => ?_)
                  have tn_77 := i_min en_77 (rfl : n_71.toInt = n_71.toInt) (rfl : r_73.toInt = r_73.toInt)
                  refine as_second (x := n_77) hx hb hK hP hD hS hL38_27_1 (i_in (rfl : l_12.toInt = l_12.toInt) (by omega) (by omega)) (by omega) dX2_prepare_125 (fun f_78 ef_78 rf_78 H locs hP hD hS => ?_)
                  obtain ⟨n_79, en_79⟩ : ∃ y : Int32, y = l_26 + 1 := ⟨_, rfl⟩
                  have tn_79 : n_79.toInt = l_26.toInt + 1 := i_add en_79 (rfl : l_26.toInt = l_26.toInt) (by decide : (1 : Int32).toInt = 1) (by omega) (by omega)
                  refine lv_iinc (v := n_79) (lv' := [(5, .int n_79), (4, .int l_12), (3, .int l_11), (0, .ref (hs 74)), (1, .int a1), (2, .int b1)]) hx hb dX2_prepare_126 hl (k := 0) rfl (by rw [en_79]; rfl) (by decide) rfl (fun ls hl => ?_)
                  refine lv_goto (tgt := 38) hx hb dX2_prepare_129 (by decide) ?_
                  exact ih38_27 f_66 zrletters_74 zrstack_75 f_78 n_79 rf_66 rf_78 (by omega) (by omega) _ _ _ hP hD hS (lv_sub hl [0, 1, 2, 3, 4, 5] rfl)
        have k_80 : (0 : Int32).toInt = 0 := by decide
        exact L38_27 8589934592 f_15 f_8 f_9 f_16 0 rf_15 rf_16 (by omega) (by omega) _ _ _ hP hD hS (lv_sub hl [0, 1, 2, 3, 4, 5] rfl)
  have k_81 : (1 : Int32).toInt = 1 := by decide
  have k_82 : (0 : Int32).toInt = 0 := by decide
  exact L5_13 8589934592 f_first f_rletters f_rstack f_second 1 0 hr_first hr_second (by omega) (by omega) (by omega) _ _ _ hP hD hS (lv_sub hl [0, 1, 2, 3, 4] rfl)
set_option maxHeartbeats 16000000 in
set_option maxRecDepth 100000 in
theorem c_X2_minute (l : Launch) (D : va_G) (cy : Nat → ClassId) (hs : Nat → Nat) (hH hT sH sT : Nat) (v_tape_size v_band_walkers v_band_loads v_band_pieces v_rules_clauses v_reader_end v_reader_at v_reader_length v_reader_letter v_reader_fault v_draft_clauses v_paces_version v_packing_quicker v_packing_loads v_packing_looseCount v_marches_told v_marches_changeMinutes v_marches_marching v_marches_gone v_search_known v_search_countHere v_search_countThere v_search_cost v_search_most : Int32) (v_search_found : Int64) (f_bytes f_knee f_weight f_limps f_bheft f_owner f_food f_miles f_slope f_rsteps f_rkind f_ryields f_rholds f_rletters f_rstack f_dsteps f_dkind f_dyields f_dholds f_dletters f_dstack f_caps f_versions f_sharing f_pheft f_prow f_holder f_comes f_pcaps f_room f_loose f_reached f_mrow f_minutesOn f_mtired : Nat → Int32) (f_here f_there : Nat → Int64) (f_statesHere f_statesThere f_listed f_stired f_burdens f_pacesOn f_restedOn f_behindOn f_behindFor f_first f_second : Nat → Int32) (f_plans f_tiredOn : Nat → Nat → Int32) (tS : Nat) (sz : Nat) (hb_v_band_pieces : 0 ≤ v_band_pieces.toInt ∧ v_band_pieces.toInt ≤ 10) (hr_miles : rg (0) 20 f_miles) (hr_first : rg (0) 60 f_first) (hr_second : rg (0) 60 f_second) : gMi l yX2_minute cX2_minute 6 .int 4 [.ref (hs 74)] D cy (wSP cy hs hH hT sH sT v_tape_size v_band_walkers v_band_loads v_band_pieces v_rules_clauses v_reader_end v_reader_at v_reader_length v_reader_letter v_reader_fault v_draft_clauses v_paces_version v_packing_quicker v_packing_loads v_packing_looseCount v_marches_told v_marches_changeMinutes v_marches_marching v_marches_gone v_search_known v_search_countHere v_search_countThere v_search_cost v_search_most v_search_found f_bytes f_knee f_weight f_limps f_bheft f_owner f_food f_miles f_slope f_rsteps f_rkind f_ryields f_rholds f_rletters f_rstack f_dsteps f_dkind f_dyields f_dholds f_dletters f_dstack f_caps f_versions f_sharing f_pheft f_prow f_holder f_comes f_pcaps f_room f_loose f_reached f_mrow f_minutesOn f_mtired f_here f_there f_statesHere f_statesThere f_listed f_stired f_burdens f_pacesOn f_restedOn f_behindOn f_behindFor f_first f_second f_plans f_tiredOn) (NS tS) sz (fun (r : Int32) (u : Unit) => True) (fun u => wSP cy hs hH hT sH sT v_tape_size v_band_walkers v_band_loads v_band_pieces v_rules_clauses v_reader_end v_reader_at v_reader_length v_reader_letter v_reader_fault v_draft_clauses v_paces_version v_packing_quicker v_packing_loads v_packing_looseCount v_marches_told v_marches_changeMinutes v_marches_marching v_marches_gone v_search_known v_search_countHere v_search_countThere v_search_cost v_search_most v_search_found f_bytes f_knee f_weight f_limps f_bheft f_owner f_food f_miles f_slope f_rsteps f_rkind f_ryields f_rholds f_rletters f_rstack f_dsteps f_dkind f_dyields f_dholds f_dletters f_dstack f_caps f_versions f_sharing f_pheft f_prow f_holder f_comes f_pcaps f_room f_loose f_reached f_mrow f_minutesOn f_mtired f_here f_there f_statesHere f_statesThere f_listed f_stired f_burdens f_pacesOn f_restedOn f_behindOn f_behindFor f_first f_second f_plans f_tiredOn) := by
  refine gMi_in (by decide) (Nat.le_of_ble_eq_true rfl) ?_
  intro p e s m args below meth c A ls Q hx hb hml hts hown hsz hP hK hD hN hAe hA hS hl hret
  subst hsz
  have hl : lv_has ls 6 [(0, .ref (hs 74))] := hl
  have hrt := fun (r : Int32)   {H : Heap} {locs : List Loc} {pc : Nat} {ls : Array Slot} => hret r () (H := H) (locs := locs) (pc := pc) (ls := ls) trivial
  clear hret
  refine lv_iconst (v := 0) hx hb dX2_minute_0 (by decide) ?_
  refine lv_istore_n (lv' := [(1, .int 0), (0, .ref (hs 74))]) hx hb dX2_minute_1 rfl hl (by decide) rfl (fun ls hl => ?_)
  refine lv_iconst (v := 0) hx hb dX2_minute_2 (by decide) ?_
  refine lv_istore_n (lv' := [(2, .int 0), (1, .int 0), (0, .ref (hs 74))]) hx hb dX2_minute_3 rfl hl (by decide) rfl (fun ls hl => ?_)
  refine lv_iconst (v := 0) hx hb dX2_minute_4 (by decide) ?_
  refine lv_istore_n (lv' := [(3, .int 0), (2, .int 0), (1, .int 0), (0, .ref (hs 74))]) hx hb dX2_minute_5 rfl hl (by decide) rfl (fun ls hl => ?_)
  refine lv_iconst (v := 0) hx hb dX2_minute_6 (by decide) ?_
  refine lv_istore (lv' := [(4, .int 0), (3, .int 0), (2, .int 0), (1, .int 0), (0, .ref (hs 74))]) hx hb dX2_minute_7 hl (by decide) rfl (fun ls hl => ?_)
  have L9_7 : ∀ (n : Nat) (l_4 : Int32) (l_5 : Int32) (l_6 : Int32), (0 ≤ l_6.toInt ∧ l_6.toInt ≤ 10) → 11 - l_6.toInt < n → ∀ (H : Heap) (locs : List Loc) (ls : Array Slot), va_P D vwCl (wSP cy hs hH hT sH sT v_tape_size v_band_walkers v_band_loads v_band_pieces v_rules_clauses v_reader_end v_reader_at v_reader_length v_reader_letter v_reader_fault v_draft_clauses v_paces_version v_packing_quicker v_packing_loads v_packing_looseCount v_marches_told v_marches_changeMinutes v_marches_marching v_marches_gone v_search_known v_search_countHere v_search_countThere v_search_cost v_search_most v_search_found f_bytes f_knee f_weight f_limps f_bheft f_owner f_food f_miles f_slope f_rsteps f_rkind f_ryields f_rholds f_rletters f_rstack f_dsteps f_dkind f_dyields f_dholds f_dletters f_dstack f_caps f_versions f_sharing f_pheft f_prow f_holder f_comes f_pcaps f_room f_loose f_reached f_mrow f_minutesOn f_mtired f_here f_there f_statesHere f_statesThere f_listed f_stired f_burdens f_pacesOn f_restedOn f_behindOn f_behindFor f_first f_second f_plans f_tiredOn) H → va_D A (wSP cy hs hH hT sH sT v_tape_size v_band_walkers v_band_loads v_band_pieces v_rules_clauses v_reader_end v_reader_at v_reader_length v_reader_letter v_reader_fault v_draft_clauses v_paces_version v_packing_quicker v_packing_loads v_packing_looseCount v_marches_told v_marches_changeMinutes v_marches_marching v_marches_gone v_search_known v_search_countHere v_search_countThere v_search_cost v_search_most v_search_found f_bytes f_knee f_weight f_limps f_bheft f_owner f_food f_miles f_slope f_rsteps f_rkind f_ryields f_rholds f_rletters f_rstack f_dsteps f_dkind f_dyields f_dholds f_dletters f_dstack f_caps f_versions f_sharing f_pheft f_prow f_holder f_comes f_pcaps f_room f_loose f_reached f_mrow f_minutesOn f_mtired f_here f_there f_statesHere f_statesThere f_listed f_stired f_burdens f_pacesOn f_restedOn f_behindOn f_behindFor f_first f_second f_plans f_tiredOn) → va_S A s.heap H locs → lv_has ls 6 [(4, .int l_6), (3, .int l_5), (2, .int l_4), (1, .int 0), (0, .ref (hs 74))] → W p l e (gRm 4) s m args below meth c H locs 0 0 Q (F0 m 9 ls []) := by
    intro n
    induction n with
    | zero => intro l_4 l_5 l_6 hL9_7_0 hm; exact absurd hm (by omega)
    | succ n ih9_7 =>
      intro l_4 l_5 l_6 hL9_7_0 hmL9_7 H locs ls hP hD hS hl
      refine lv_iload hx hb dX2_minute_9 (lv_at hl 0 rfl) ?_
      refine lv_aload_n hx hb dX2_minute_11 rfl (lv_at hl 4 rfl) ?_
      refine gt_SP_meeting_band hx hb hts hown hK hP lwd_148 dX2_minute_12 ?_
      refine gt_SP_band_pieces hx hb hts hown hK hP lwd_1171 dX2_minute_15 ?_
      refine lv_icmp_ge (tgt := 62) hx hb dX2_minute_18 (by decide) (fun c_8 => ?_) (fun c_8 => ?_)
      · have gc_8 : v_band_pieces.toInt ≤ l_6.toInt := i_le (rfl : v_band_pieces.toInt = v_band_pieces.toInt) (rfl : l_6.toInt = l_6.toInt) c_8
        refine lv_iconst (v := 0) hx hb dX2_minute_62 (by decide) ?_
        refine lv_istore (lv' := [(4, .int 0), (3, .int l_5), (2, .int l_4), (1, .int 0), (0, .ref (hs 74))]) hx hb dX2_minute_63 hl (by decide) rfl (fun ls hl => ?_)
        have L65_15 : ∀ (n : Nat) (l_12 : Int32) (l_13 : Int32) (l_14 : Int32), (0 ≤ l_14.toInt ∧ l_14.toInt ≤ 64) → 65 - l_14.toInt < n → ∀ (H : Heap) (locs : List Loc) (ls : Array Slot), va_P D vwCl (wSP cy hs hH hT sH sT v_tape_size v_band_walkers v_band_loads v_band_pieces v_rules_clauses v_reader_end v_reader_at v_reader_length v_reader_letter v_reader_fault v_draft_clauses v_paces_version v_packing_quicker v_packing_loads v_packing_looseCount v_marches_told v_marches_changeMinutes v_marches_marching v_marches_gone v_search_known v_search_countHere v_search_countThere v_search_cost v_search_most v_search_found f_bytes f_knee f_weight f_limps f_bheft f_owner f_food f_miles f_slope f_rsteps f_rkind f_ryields f_rholds f_rletters f_rstack f_dsteps f_dkind f_dyields f_dholds f_dletters f_dstack f_caps f_versions f_sharing f_pheft f_prow f_holder f_comes f_pcaps f_room f_loose f_reached f_mrow f_minutesOn f_mtired f_here f_there f_statesHere f_statesThere f_listed f_stired f_burdens f_pacesOn f_restedOn f_behindOn f_behindFor f_first f_second f_plans f_tiredOn) H → va_D A (wSP cy hs hH hT sH sT v_tape_size v_band_walkers v_band_loads v_band_pieces v_rules_clauses v_reader_end v_reader_at v_reader_length v_reader_letter v_reader_fault v_draft_clauses v_paces_version v_packing_quicker v_packing_loads v_packing_looseCount v_marches_told v_marches_changeMinutes v_marches_marching v_marches_gone v_search_known v_search_countHere v_search_countThere v_search_cost v_search_most v_search_found f_bytes f_knee f_weight f_limps f_bheft f_owner f_food f_miles f_slope f_rsteps f_rkind f_ryields f_rholds f_rletters f_rstack f_dsteps f_dkind f_dyields f_dholds f_dletters f_dstack f_caps f_versions f_sharing f_pheft f_prow f_holder f_comes f_pcaps f_room f_loose f_reached f_mrow f_minutesOn f_mtired f_here f_there f_statesHere f_statesThere f_listed f_stired f_burdens f_pacesOn f_restedOn f_behindOn f_behindFor f_first f_second f_plans f_tiredOn) → va_S A s.heap H locs → lv_has ls 6 [(4, .int l_14), (3, .int l_5), (2, .int l_13), (1, .int l_12), (0, .ref (hs 74))] → W p l e (gRm 4) s m args below meth c H locs 0 0 Q (F0 m 65 ls []) := by
          intro n
          induction n with
          | zero => intro l_12 l_13 l_14 hL65_15_0 hm; exact absurd hm (by omega)
          | succ n ih65_15 =>
            intro l_12 l_13 l_14 hL65_15_0 hmL65_15 H locs ls hP hD hS hl
            refine lv_iload hx hb dX2_minute_65 (lv_at hl 0 rfl) ?_
            refine lv_bipush (v := 64) hx hb dX2_minute_67 (by decide) ?_
            refine lv_icmp_ge (tgt := 118) hx hb dX2_minute_69 (by decide) (fun c_16 => ?_) (fun c_16 => ?_)
            · have gc_16 : 64 ≤ l_14.toInt := i_le (by decide : (64 : Int32).toInt = 64) (rfl : l_14.toInt = l_14.toInt) c_16
              refine lv_iload_n hx hb dX2_minute_118 rfl (lv_at hl 3 rfl) ?_
              exact hrt l_12   hP hD hS rfl dX2_minute_119
            · have gc_16 : l_14.toInt < 64 := i_nle (by decide : (64 : Int32).toInt = 64) (rfl : l_14.toInt = l_14.toInt) c_16
              refine lv_iload_n hx hb dX2_minute_72 rfl (lv_at hl 3 rfl) ?_
              refine lv_iload_n hx hb dX2_minute_73 rfl (lv_at hl 2 rfl) ?_
              refine lv_icmp_ge (tgt := 118) hx hb dX2_minute_74 (by decide) (fun c_17 => ?_) (fun c_17 => ?_)
              · have gc_17 : l_13.toInt ≤ l_12.toInt := i_le (rfl : l_13.toInt = l_13.toInt) (rfl : l_12.toInt = l_12.toInt) c_17
                refine lv_iload_n hx hb dX2_minute_118 rfl (lv_at hl 3 rfl) ?_
                exact hrt l_12   hP hD hS rfl dX2_minute_119
              · have gc_17 : l_12.toInt < l_13.toInt := i_nle (rfl : l_13.toInt = l_13.toInt) (rfl : l_12.toInt = l_12.toInt) c_17
                refine lv_iload_n hx hb dX2_minute_77 rfl (lv_at hl 3 rfl) ?_
                refine lv_iload_n hx hb dX2_minute_78 rfl (lv_at hl 2 rfl) ?_
                refine lv_iadd hx hb dX2_minute_79 ?_
                refine lv_topi (fun n_18 en_18 => ?_)
                refine lv_iconst (v := 2) hx hb dX2_minute_80 (by decide) ?_
                refine lv_idiv hx hb dX2_minute_81 (by decide) ?_
                refine lv_topi (fun n_19 en_19 => ?_)
                refine lv_istore (lv' := [(5, .int n_19), (4, .int l_14), (3, .int l_5), (2, .int l_13), (1, .int l_12), (0, .ref (hs 74))]) hx hb dX2_minute_82 hl (by decide) rfl (fun ls hl => ?_)
                refine lv_aload_n hx hb dX2_minute_84 rfl (lv_at hl 5 rfl) ?_
                refine lv_iload hx hb dX2_minute_85 (lv_at hl 0 rfl) ?_
                refine xi hD hS hA (xV (As := [.int n_19]) (rest := []) hx hb hml hown hts hK hP hD hS hA NS_ok hN hAe hl.1 ⟨Nat.le_refl _, Nat.le_refl _⟩ 74 rfl rfl rfl (c_X2_goneByFirst l D cy hs hH hT sH sT v_tape_size v_band_walkers v_band_loads v_band_pieces v_rules_clauses v_reader_end v_reader_at v_reader_length v_reader_letter v_reader_fault v_draft_clauses v_paces_version v_packing_quicker v_packing_loads v_packing_looseCount v_marches_told v_marches_changeMinutes v_marches_marching v_marches_gone v_search_known v_search_countHere v_search_countThere v_search_cost v_search_most v_search_found f_bytes f_knee f_weight f_limps f_bheft f_owner f_food f_miles f_slope f_rsteps f_rkind f_ryields f_rholds f_rletters f_rstack f_dsteps f_dkind f_dyields f_dholds f_dletters f_dstack f_caps f_versions f_sharing f_pheft f_prow f_holder f_comes f_pcaps f_room f_loose f_reached f_mrow f_minutesOn f_mtired f_here f_there f_statesHere f_statesThere f_listed f_stired f_burdens f_pacesOn f_restedOn f_behindOn f_behindFor f_first f_second f_plans f_tiredOn tS H.size n_19 (by omega) hr_miles hr_first) (gi_V lwd_1185 lwd_1186 lwd_1187 lwd_46 lwd_1188) ⟨rfl, hd_X2_goneByFirst⟩ ⟨Nat.le_of_ble_eq_true rfl, Nat.le_of_ble_eq_true rfl⟩ rfl (Nat.le_of_ble_eq_true rfl) dX2_minute_87) (fun r_21 u_20 H locs hw hP hD hS => ?_)
                try dsimp only at hw hP hD
                clear hw
                refine lv_aload_n hx hb dX2_minute_90 rfl (lv_at hl 5 rfl) ?_
                refine lv_iload hx hb dX2_minute_91 (lv_at hl 0 rfl) ?_
                refine xi hD hS hA (xV (As := [.int n_19]) (rest := [.int r_21]) hx hb hml hown hts hK hP hD hS hA NS_ok hN hAe hl.1 ⟨Nat.le_refl _, Nat.le_refl _⟩ 74 rfl rfl rfl (c_X2_goneBySecond l D cy hs hH hT sH sT v_tape_size v_band_walkers v_band_loads v_band_pieces v_rules_clauses v_reader_end v_reader_at v_reader_length v_reader_letter v_reader_fault v_draft_clauses v_paces_version v_packing_quicker v_packing_loads v_packing_looseCount v_marches_told v_marches_changeMinutes v_marches_marching v_marches_gone v_search_known v_search_countHere v_search_countThere v_search_cost v_search_most v_search_found f_bytes f_knee f_weight f_limps f_bheft f_owner f_food f_miles f_slope f_rsteps f_rkind f_ryields f_rholds f_rletters f_rstack f_dsteps f_dkind f_dyields f_dholds f_dletters f_dstack f_caps f_versions f_sharing f_pheft f_prow f_holder f_comes f_pcaps f_room f_loose f_reached f_mrow f_minutesOn f_mtired f_here f_there f_statesHere f_statesThere f_listed f_stired f_burdens f_pacesOn f_restedOn f_behindOn f_behindFor f_first f_second f_plans f_tiredOn tS H.size n_19 (by omega) hr_miles hr_second) (gi_V lwd_1193 lwd_1194 lwd_1195 lwd_46 lwd_1196) ⟨rfl, hd_X2_goneBySecond⟩ ⟨Nat.le_of_ble_eq_true rfl, Nat.le_of_ble_eq_true rfl⟩ rfl (Nat.le_of_ble_eq_true rfl) dX2_minute_93) (fun r_23 u_22 H locs hw hP hD hS => ?_)
                try dsimp only at hw hP hD
                clear hw
                refine lv_iadd hx hb dX2_minute_96 ?_
                refine lv_topi (fun n_24 en_24 => ?_)
                refine lv_iload_n hx hb dX2_minute_97 rfl (lv_at hl 2 rfl) ?_
                refine lv_icmp_lt (tgt := 107) hx hb dX2_minute_98 (by decide) (fun c_25 => ?_) (fun c_25 => ?_)
                · have gc_25 : n_24.toInt < l_5.toInt := i_lt (rfl : n_24.toInt = n_24.toInt) (rfl : l_5.toInt = l_5.toInt) c_25
                  refine lv_iload hx hb dX2_minute_107 (lv_at hl 0 rfl) ?_
                  refine lv_iconst (v := 1) hx hb dX2_minute_109 (by decide) ?_
                  refine lv_iadd hx hb dX2_minute_110 ?_
                  refine lv_topi (fun n_26 en_26 => ?_)
                  refine lv_istore_n (lv' := [(1, .int n_26), (5, .int n_19), (4, .int l_14), (3, .int l_5), (2, .int l_13), (0, .ref (hs 74))]) hx hb dX2_minute_111 rfl hl (by decide) rfl (fun ls hl => ?_)
                  obtain ⟨n_27, en_27⟩ : ∃ y : Int32, y = l_14 + 1 := ⟨_, rfl⟩
                  have tn_27 : n_27.toInt = l_14.toInt + 1 := i_add en_27 (rfl : l_14.toInt = l_14.toInt) (by decide : (1 : Int32).toInt = 1) (by omega) (by omega)
                  refine lv_iinc (v := n_27) (lv' := [(4, .int n_27), (1, .int n_26), (5, .int n_19), (3, .int l_5), (2, .int l_13), (0, .ref (hs 74))]) hx hb dX2_minute_112 hl (k := 2) rfl (by rw [en_27]; rfl) (by decide) rfl (fun ls hl => ?_)
                  refine lv_goto (tgt := 65) hx hb dX2_minute_115 (by decide) ?_
                  exact ih65_15 n_26 l_13 n_27 (by omega) (by omega) _ _ _ hP hD hS (lv_sub hl [0, 3, 4, 1, 5] rfl)
                · have gc_25 : l_5.toInt ≤ n_24.toInt := i_nlt (rfl : n_24.toInt = n_24.toInt) (rfl : l_5.toInt = l_5.toInt) c_25
                  refine lv_iload hx hb dX2_minute_101 (lv_at hl 0 rfl) ?_
                  refine lv_istore_n (lv' := [(2, .int n_19), (5, .int n_19), (4, .int l_14), (3, .int l_5), (1, .int l_12), (0, .ref (hs 74))]) hx hb dX2_minute_103 rfl hl (by decide) rfl (fun ls hl => ?_)
                  refine lv_goto (tgt := 112) hx hb dX2_minute_104 (by decide) ?_
                  obtain ⟨n_28, en_28⟩ : ∃ y : Int32, y = l_14 + 1 := ⟨_, rfl⟩
                  have tn_28 : n_28.toInt = l_14.toInt + 1 := i_add en_28 (rfl : l_14.toInt = l_14.toInt) (by decide : (1 : Int32).toInt = 1) (by omega) (by omega)
                  refine lv_iinc (v := n_28) (lv' := [(4, .int n_28), (2, .int n_19), (5, .int n_19), (3, .int l_5), (1, .int l_12), (0, .ref (hs 74))]) hx hb dX2_minute_112 hl (k := 2) rfl (by rw [en_28]; rfl) (by decide) rfl (fun ls hl => ?_)
                  refine lv_goto (tgt := 65) hx hb dX2_minute_115 (by decide) ?_
                  exact ih65_15 l_12 n_19 n_28 (by omega) (by omega) _ _ _ hP hD hS (lv_sub hl [0, 3, 1, 4, 5] rfl)
        have k_29 : (0 : Int32).toInt = 0 := by decide
        have k_30 : (0 : Int32).toInt = 0 := by decide
        exact L65_15 8589934592 0 l_4 0 (by omega) (by omega) _ _ _ hP hD hS (lv_sub hl [0, 1, 2, 3, 4] rfl)
      · have gc_8 : l_6.toInt < v_band_pieces.toInt := i_nle (rfl : v_band_pieces.toInt = v_band_pieces.toInt) (rfl : l_6.toInt = l_6.toInt) c_8
        refine lv_iload_n hx hb dX2_minute_21 rfl (lv_at hl 2 rfl) ?_
        refine lv_aload_n hx hb dX2_minute_22 rfl (lv_at hl 4 rfl) ?_
        refine gt_SP_meeting_band hx hb hts hown hK hP lwd_148 dX2_minute_23 ?_
        refine lv_iload hx hb dX2_minute_26 (lv_at hl 0 rfl) ?_
        refine lv_aload_n hx hb dX2_minute_28 rfl (lv_at hl 4 rfl) ?_
        refine gt_SP_meeting_first hx hb hts hown hK hP lwd_146 dX2_minute_29 ?_
        refine lv_iload hx hb dX2_minute_32 (lv_at hl 0 rfl) ?_
        refine al_first hx hb hK hP hr_first (i_in (rfl : l_6.toInt = l_6.toInt) (by omega) (by omega)) dX2_minute_34 (fun n_31 en_31 bn_31 => ?_)
        refine xi hD hS hA (xV (As := [.int l_6, .int n_31]) (rest := [.int l_4]) hx hb hml hown hts hK hP hD hS hA NS_ok hN hAe hl.1 ⟨Nat.le_refl _, Nat.le_refl _⟩ 3 rfl rfl rfl (c_X0_minutes l D cy hs hH hT sH sT v_tape_size v_band_walkers v_band_loads v_band_pieces v_rules_clauses v_reader_end v_reader_at v_reader_length v_reader_letter v_reader_fault v_draft_clauses v_paces_version v_packing_quicker v_packing_loads v_packing_looseCount v_marches_told v_marches_changeMinutes v_marches_marching v_marches_gone v_search_known v_search_countHere v_search_countThere v_search_cost v_search_most v_search_found f_bytes f_knee f_weight f_limps f_bheft f_owner f_food f_miles f_slope f_rsteps f_rkind f_ryields f_rholds f_rletters f_rstack f_dsteps f_dkind f_dyields f_dholds f_dletters f_dstack f_caps f_versions f_sharing f_pheft f_prow f_holder f_comes f_pcaps f_room f_loose f_reached f_mrow f_minutesOn f_mtired f_here f_there f_statesHere f_statesThere f_listed f_stired f_burdens f_pacesOn f_restedOn f_behindOn f_behindFor f_first f_second f_plans f_tiredOn tS H.size l_6 n_31 hr_miles (by omega)) (gi_V lwd_1184 lwd_635 lwd_636 lwd_18 lwd_637) ⟨rfl, hd_X0_minutes⟩ ⟨Nat.le_of_ble_eq_true rfl, Nat.le_of_ble_eq_true rfl⟩ rfl (Nat.le_of_ble_eq_true rfl) dX2_minute_35) (fun r_33 u_32 H locs hw hP hD hS => ?_)
        try dsimp only at hw hP hD
        clear hw
        refine lv_iadd hx hb dX2_minute_38 ?_
        refine lv_topi (fun n_34 en_34 => ?_)
        refine lv_istore_n (lv' := [(2, .int n_34), (4, .int l_6), (3, .int l_5), (1, .int 0), (0, .ref (hs 74))]) hx hb dX2_minute_39 rfl hl (by decide) rfl (fun ls hl => ?_)
        refine lv_iload_n hx hb dX2_minute_40 rfl (lv_at hl 2 rfl) ?_
        refine lv_bipush (v := 10) hx hb dX2_minute_41 (by decide) ?_
        refine lv_aload_n hx hb dX2_minute_43 rfl (lv_at hl 4 rfl) ?_
        refine gt_SP_meeting_band hx hb hts hown hK hP lwd_148 dX2_minute_44 ?_
        refine gt_SP_band_miles hx hb hts hown hK hP lwd_1183 dX2_minute_47 ?_
        refine lv_iload hx hb dX2_minute_50 (lv_at hl 1 rfl) ?_
        refine al_miles hx hb hK hP hr_miles (i_in (rfl : l_6.toInt = l_6.toInt) (by omega) (by omega)) dX2_minute_52 (fun n_35 en_35 bn_35 => ?_)
        refine lv_imul hx hb dX2_minute_53 ?_
        refine lv_topi (fun n_36 en_36 => ?_)
        have tn_36 : n_36.toInt = 10 * n_35.toInt := i_mul en_36 (by decide : (10 : Int32).toInt = 10) (rfl : n_35.toInt = n_35.toInt) (by omega) (by omega)
        refine lv_iadd hx hb dX2_minute_54 ?_
        refine lv_topi (fun n_37 en_37 => ?_)
        refine lv_istore_n (lv' := [(3, .int n_37), (2, .int n_34), (4, .int l_6), (1, .int 0), (0, .ref (hs 74))]) hx hb dX2_minute_55 rfl hl (by decide) rfl (fun ls hl => ?_)
        obtain ⟨n_38, en_38⟩ : ∃ y : Int32, y = l_6 + 1 := ⟨_, rfl⟩
        have tn_38 : n_38.toInt = l_6.toInt + 1 := i_add en_38 (rfl : l_6.toInt = l_6.toInt) (by decide : (1 : Int32).toInt = 1) (by omega) (by omega)
        refine lv_iinc (v := n_38) (lv' := [(4, .int n_38), (3, .int n_37), (2, .int n_34), (1, .int 0), (0, .ref (hs 74))]) hx hb dX2_minute_56 hl (k := 2) rfl (by rw [en_38]; rfl) (by decide) rfl (fun ls hl => ?_)
        refine lv_goto (tgt := 9) hx hb dX2_minute_59 (by decide) ?_
        exact ih9_7 n_34 n_37 n_38 (by omega) (by omega) _ _ _ hP hD hS (lv_sub hl [0, 1, 2, 3, 4] rfl)
  have k_39 : (0 : Int32).toInt = 0 := by decide
  have k_40 : (0 : Int32).toInt = 0 := by decide
  have k_41 : (0 : Int32).toInt = 0 := by decide
  exact L9_7 8589934592 0 0 0 (by omega) (by omega) _ _ _ hP hD hS (lv_sub hl [0, 1, 2, 3, 4] rfl)
