set_option maxHeartbeats 4000000 in
set_option maxRecDepth 100000 in
theorem gdone1 (l : Launch) (G : va_G) (y : Nat → ClassId) (sz : Nat) (ob : Nat) (ob_thrown : Int32) (ob_world : Nat) (ob_images : Nat) (ob_hasImage : Nat) (ob_tape : Nat) (ob_taped : Int32) (ob_five : Nat) (ob_size : Int32) (ob_at : Int32) (ob_from : Int32) (ob_token : Int32) (ob_value : Int32) (ob_faultKind : Int32) (ob_faultPlace : Int32) (ob_fresh : Nat) (ob_parts : Nat) (ob_houses : Nat) (ob_houseMany : Int32) (ob_worthOf : Nat) (ob_byCall : Nat) (ob_over : Nat) (ob_bestSet : Int32) (ob_bestOver : Int32) (ob_bestWorth : Int32) (ob_row : Nat) (ob_tenDebts : Nat) (ob_tenMany : Int32) (ob_fewestBy : Nat) (ob_covered : Nat) (ob_queue : Nat) (ob_cameBy : Nat) (ob_parent : Nat) (ob_met : Nat) (ob_calls : Nat) (ob_callMany : Int32) (ob_calledOn : Nat) (ob_saved : Nat) (ob_many : Nat) (ob_width : Nat) (ob_numbers : Nat) (ob_moving : Nat) (fob_world : Nat → Int32) (fob_parts : Nat → Int32) (fob_many : Nat → Int32) (fob_numbers : Nat → Int64) (p_fob_world : RWw fob_world) (p_ob_taped : (0 : Int) ≤ ob_taped.toInt ∧ ob_taped.toInt ≤ 1400) (p_ob_size : (0 : Int) ≤ ob_size.toInt ∧ ob_size.toInt ≤ 1400) (p_ob_at : (0 : Int) ≤ ob_at.toInt ∧ ob_at.toInt ≤ 1400) (p_ob_from : (0 : Int) ≤ ob_from.toInt ∧ ob_from.toInt ≤ 1400) (p_ob_token : (0 : Int) ≤ ob_token.toInt ∧ ob_token.toInt ≤ 4) (p_ob_value : (0 : Int) ≤ ob_value.toInt ∧ ob_value.toInt ≤ 9999) (p_ob_faultKind : (0 : Int) ≤ ob_faultKind.toInt ∧ ob_faultKind.toInt ≤ 3) (p_ob_houseMany : (0 : Int) ≤ ob_houseMany.toInt ∧ ob_houseMany.toInt ≤ 10) (p_ob_bestSet : (0 : Int) ≤ ob_bestSet.toInt ∧ ob_bestSet.toInt ≤ 1023) (p_ob_bestOver : (-1 : Int) ≤ ob_bestOver.toInt ∧ ob_bestOver.toInt ≤ 180) (p_ob_tenMany : (0 : Int) ≤ ob_tenMany.toInt ∧ ob_tenMany.toInt ≤ 10) (p_ob_callMany : (0 : Int) ≤ ob_callMany.toInt ∧ ob_callMany.toInt ≤ 16) (p_fob_many : ∀ i, (-1 : Int) ≤ (fob_many i).toInt ∧ (fob_many i).toInt ≤ 60) : Met l yX10_done (Cond.code yX10_done cX10_done 11 (some .int) :: wAll) ({ frames := 6, cells := 0, slots := 0, locals := 159 }) (va_Pc [.ref ob, .int 1] (kp G y sz [(ce_X10 ob ob_thrown ob_world ob_images ob_hasImage ob_tape ob_taped ob_five ob_size ob_at ob_from ob_token ob_value ob_faultKind ob_faultPlace ob_fresh ob_parts ob_houses ob_houseMany ob_worthOf ob_byCall ob_over ob_bestSet ob_bestOver ob_bestWorth ob_row ob_tenDebts ob_tenMany ob_fewestBy ob_covered ob_queue ob_cameBy ob_parent ob_met ob_calls ob_callMany ob_calledOn ob_saved ob_many ob_width ob_numbers ob_moving), (ce_i9080 y ob_world fob_world), (ce_i6 y ob_parts fob_parts), (ce_i4 y ob_many fob_many), (ce_l240 y ob_numbers fob_numbers)])) (va_Qi (fun (r : Int32) (w : va_W) => (((fob_many 1).toInt = -1) ∧ (wfr fob_world fob_world) ∧ r = (-6) ∧ w = [(ce_X10 ob ob_thrown ob_world ob_images ob_hasImage ob_tape ob_taped ob_five ob_size ob_at ob_from ob_token ob_value ob_faultKind ob_faultPlace ob_fresh ob_parts ob_houses ob_houseMany ob_worthOf ob_byCall ob_over ob_bestSet ob_bestOver ob_bestWorth ob_row ob_tenDebts ob_tenMany ob_fewestBy ob_covered ob_queue ob_cameBy ob_parent ob_met ob_calls ob_callMany ob_calledOn ob_saved ob_many ob_width ob_numbers ob_moving), (ce_i9080 y ob_world fob_world), (ce_i6 y ob_parts fob_parts), (ce_i4 y ob_many fob_many), (ce_l240 y ob_numbers fob_numbers)]) ∨ (∃ (v_1011 : Int32) (f_1012 : Nat → Int32) (f_1013 : Nat → Int32), ((0 : Int) ≤ v_1011.toInt ∧ v_1011.toInt ≤ 60) ∧ (RWw f_1012) ∧ (¬ (fob_many 1).toInt = -1) ∧ ((v_1011 : Int32).toInt = gdc (fun i => fob_numbers (60 + i)) (fob_many 1).toInt 20 0 fob_world ∧ tgd (gdn (fun i => fob_numbers (60 + i)) (fob_many 1).toInt 20 0 fob_world) f_1012) ∧ (wfr fob_world f_1012) ∧ r = v_1011 ∧ w = [(ce_X10 ob ob_thrown ob_world ob_images ob_hasImage ob_tape ob_taped ob_five ob_size ob_at ob_from ob_token ob_value ob_faultKind ob_faultPlace ob_fresh ob_parts ob_houses ob_houseMany ob_worthOf ob_byCall ob_over ob_bestSet ob_bestOver ob_bestWorth ob_row ob_tenDebts ob_tenMany ob_fewestBy ob_covered ob_queue ob_cameBy ob_parent ob_met ob_calls ob_callMany ob_calledOn ob_saved ob_many ob_width ob_numbers ob_moving), (ce_i9080 y ob_world f_1012), (ce_i6 y ob_parts f_1013), (ce_i4 y ob_many fob_many), (ce_l240 y ob_numbers fob_numbers)])) (kq G (va_A [(ce_X10 ob ob_thrown ob_world ob_images ob_hasImage ob_tape ob_taped ob_five ob_size ob_at ob_from ob_token ob_value ob_faultKind ob_faultPlace ob_fresh ob_parts ob_houses ob_houseMany ob_worthOf ob_byCall ob_over ob_bestSet ob_bestOver ob_bestWorth ob_row ob_tenDebts ob_tenMany ob_fewestBy ob_covered ob_queue ob_cameBy ob_parent ob_met ob_calls ob_callMany ob_calledOn ob_saved ob_many ob_width ob_numbers ob_moving), (ce_i9080 y ob_world fob_world), (ce_i6 y ob_parts fob_parts), (ce_i4 y ob_many fob_many), (ce_l240 y ob_numbers fob_numbers)] sz)) (va_A [(ce_X10 ob ob_thrown ob_world ob_images ob_hasImage ob_tape ob_taped ob_five ob_size ob_at ob_from ob_token ob_value ob_faultKind ob_faultPlace ob_fresh ob_parts ob_houses ob_houseMany ob_worthOf ob_byCall ob_over ob_bestSet ob_bestOver ob_bestWorth ob_row ob_tenDebts ob_tenMany ob_fewestBy ob_covered ob_queue ob_cameBy ob_parent ob_met ob_calls ob_callMany ob_calledOn ob_saved ob_many ob_width ob_numbers ob_moving), (ce_i9080 y ob_world fob_world), (ce_i6 y ob_parts fob_parts), (ce_i4 y ob_many fob_many), (ce_l240 y ob_numbers fob_numbers)] sz)) 0 0 (va_A [(ce_X10 ob ob_thrown ob_world ob_images ob_hasImage ob_tape ob_taped ob_five ob_size ob_at ob_from ob_token ob_value ob_faultKind ob_faultPlace ob_fresh ob_parts ob_houses ob_houseMany ob_worthOf ob_byCall ob_over ob_bestSet ob_bestOver ob_bestWorth ob_row ob_tenDebts ob_tenMany ob_fewestBy ob_covered ob_queue ob_cameBy ob_parent ob_met ob_calls ob_callMany ob_calledOn ob_saved ob_many ob_width ob_numbers ob_moving), (ce_i9080 y ob_world fob_world), (ce_i6 y ob_parts fob_parts), (ce_i4 y ob_many fob_many), (ce_l240 y ob_numbers fob_numbers)] sz) := by
  refine Met.ofW (cc := cX10_done) (maxL := 11) (ret := (some .int)) (by decide) rfl ?_
  intro p e s m args below meth c s₁ B hml hv
  obtain ⟨rfl, hsz, hP, hK, hD0⟩ := hv
  have hx := B.exec
  have hb := B.bytes
  have hr := B.returns
  have hw0 : ∀ w ∈ wAll, w.before _ s = true := fun w h => atoms_spec (ws := Cond.code yX10_done cX10_done 11 (some .int) :: wAll) B.pre w (List.mem_cons_of_mem _ h)
  have hown : s.vm.findClass RX10 = some m.cls := findClass_of_methodNamed B.named
  subst hsz
  have hD := hD0.self (sz := s.heap.size)
  generalize hAe : va_A [(ce_X10 ob ob_thrown ob_world ob_images ob_hasImage ob_tape ob_taped ob_five ob_size ob_at ob_from ob_token ob_value ob_faultKind ob_faultPlace ob_fresh ob_parts ob_houses ob_houseMany ob_worthOf ob_byCall ob_over ob_bestSet ob_bestOver ob_bestWorth ob_row ob_tenDebts ob_tenMany ob_fewestBy ob_covered ob_queue ob_cameBy ob_parent ob_met ob_calls ob_callMany ob_calledOn ob_saved ob_many ob_width ob_numbers ob_moving), (ce_i9080 y ob_world fob_world), (ce_i6 y ob_parts fob_parts), (ce_i4 y ob_many fob_many), (ce_l240 y ob_numbers fob_numbers)] s.heap.size = A at hD ⊢
  have hA : ∀ q : Nat, s.heap.size ≤ q → A q := fun q h => by rw [← hAe]; exact Or.inr h
  have hS : va_S A s.heap s.heap [] := va_S.rf
  have hP : va_P G vwCl [(ce_X10 ob ob_thrown ob_world ob_images ob_hasImage ob_tape ob_taped ob_five ob_size ob_at ob_from ob_token ob_value ob_faultKind ob_faultPlace ob_fresh ob_parts ob_houses ob_houseMany ob_worthOf ob_byCall ob_over ob_bestSet ob_bestOver ob_bestWorth ob_row ob_tenDebts ob_tenMany ob_fewestBy ob_covered ob_queue ob_cameBy ob_parent ob_met ob_calls ob_callMany ob_calledOn ob_saved ob_many ob_width ob_numbers ob_moving), (ce_i9080 y ob_world fob_world), (ce_i6 y ob_parts fob_parts), (ce_i4 y ob_many fob_many), (ce_l240 y ob_numbers fob_numbers)] s.heap := hP
  have hl := lv_entry ([.ref ob, .int 1]) (n := 11) (Nat.le_of_ble_eq_true rfl)
  rw [lg_entry_eq]
  generalize (lg_sl ([.ref ob, .int 1]) ++ List.replicate (11 - (lg_sl ([.ref ob, .int 1])).length) Slot.unset).toArray = ls at hl ⊢
  have hl : lv_has ls 11 [(0, .ref ob), (1, .int 1)] := hl
  refine lv_iload_n hx hb dX10_done_0 rfl (lv_at hl 1 rfl) ?_
  refine cSim (As := [.int 1]) (rest := []) ⟨hx, hb, hml, hown, hw0⟩ hA hK hP hD hS [] (gisSlotT l G y _ 1 ) rfl ⟨(callB_of 1 hw0 (gA m_543) rfl rfl rfl (hw0 _ m_41) (hw0 _ m_433) cb_X10_isSlot ⟨Nat.le_of_ble_eq_true rfl, Nat.le_of_ble_eq_true rfl⟩), (hw0 _ m_434)⟩ rfl hl.1 (Nat.le_of_ble_eq_true rfl) dX10_done_1 ⟨Nat.le_of_ble_eq_true rfl, Nat.le_of_ble_eq_true rfl⟩ (fun r_1001 w_1001 H locs hw_1001 hP hD hS => ?_)
  rcases hw_1001 with ⟨h_1002, rfl, rfl⟩ | ⟨h_1003, h_1004, rfl, rfl⟩
  · skip
    exact False.elim (by have h9 : Int32.toInt 1 = 1 := (by decide); omega)
  · skip
    obtain ⟨hP, hD⟩ : vPD G A H [(ce_X10 ob ob_thrown ob_world ob_images ob_hasImage ob_tape ob_taped ob_five ob_size ob_at ob_from ob_token ob_value ob_faultKind ob_faultPlace ob_fresh ob_parts ob_houses ob_houseMany ob_worthOf ob_byCall ob_over ob_bestSet ob_bestOver ob_bestWorth ob_row ob_tenDebts ob_tenMany ob_fewestBy ob_covered ob_queue ob_cameBy ob_parent ob_met ob_calls ob_callMany ob_calledOn ob_saved ob_many ob_width ob_numbers ob_moving), (ce_i9080 y ob_world fob_world), (ce_i6 y ob_parts fob_parts), (ce_i4 y ob_many fob_many), (ce_l240 y ob_numbers fob_numbers)] := ⟨hP, hD⟩
    refine lv_if_ne (tgt := 10) hx hb dX10_done_4 (by decide) (fun _ => ?_) (fun c9 => absurd c9 (by decide))
    refine lv_aload_n hx hb dX10_done_10 rfl (lv_at hl 0 rfl) ?_
    refine va_get (D := G) (ci := 10) (v := .ref ob_many) (C := RX10) (T := TX10) (N := 41) hx hb hw0 inA_wsX100 hown hK.1 hP 0 rfl rfl 37 (by decide) (hw0 _ m_406) (fun _ h9 => h9) rfl dX10_done_11 ?_
    refine lv_iload_n hx hb dX10_done_14 rfl (lv_at hl 1 rfl) ?_
    refine va_iald hx hb hK.1 hP 3 1 rfl rfl (vi (bkc (x := 1) (c := 1) (by decide)) (by decide)) dX10_done_15 ?_
    refine lv_topi (fun v_1005 ev_1005 => ?_)
    have bv_1005 : (-1 : Int) ≤ v_1005.toInt ∧ v_1005.toInt ≤ 60 := rd_b ev_1005 p_fob_many
    have yv_1005 : v_1005.toInt = (fob_many 1).toInt := congrArg Int32.toInt ev_1005
    refine lv_iconst (v := (-1)) hx hb dX10_done_16 (by decide) ?_
    refine lv_icmp_ne (tgt := 23) hx hb dX10_done_17 (by decide) (fun c_1006 => ?_) (fun c_1006 => ?_)
    · skip
      have nc_1006 := nb_ne (0) (60) c_1006 bv_1005 (k := -1) (by decide) (by decide)
      refine lv_iconst (v := 0) hx hb dX10_done_23 (by decide) ?_
      refine lv_istore_n (lv' := [(2, .int 0), (0, .ref ob), (1, .int 1)]) hx hb dX10_done_24 rfl hl (by decide) rfl (fun ls hl => ?_)
      refine lv_iconst (v := 0) hx hb dX10_done_25 (by decide) ?_
      refine lv_istore_n (lv' := [(3, .int 0), (2, .int 0), (0, .ref ob), (1, .int 1)]) hx hb dX10_done_26 rfl hl (by decide) rfl (fun ls hl => ?_)
      refine loopX (fun n H locs ls st => ∃ (v_1302 : Int32) (v_1303 : Int32) (f_1304 : Nat → Int32) (f_1305 : Nat → Int32), (60 - v_1302.toInt).toNat = n ∧ ((0 : Int) ≤ v_1302.toInt ∧ v_1302.toInt ≤ 60) ∧ ((0 : Int) ≤ v_1303.toInt ∧ v_1303.toInt ≤ 60) ∧ (RWw f_1304) ∧ (∃ (m : Nat) (g1 : Nat → Int32), v_1302.toInt + 3 * (m : Int) = 60 ∧ tgd g1 f_1304 ∧ gdn (fun i => fob_numbers (60 + i)) (fob_many 1).toInt m v_1302.toInt.toNat g1 = gdn (fun i => fob_numbers (60 + i)) (fob_many 1).toInt 20 0 fob_world ∧ v_1303.toInt + gdc (fun i => fob_numbers (60 + i)) (fob_many 1).toInt m v_1302.toInt.toNat g1 = gdc (fun i => fob_numbers (60 + i)) (fob_many 1).toInt 20 0 fob_world) ∧ (v_1303.toInt ≤ v_1302.toInt) ∧ (wfr fob_world f_1304) ∧ st = [] ∧ vPD G A H [(ce_X10 ob ob_thrown ob_world ob_images ob_hasImage ob_tape ob_taped ob_five ob_size ob_at ob_from ob_token ob_value ob_faultKind ob_faultPlace ob_fresh ob_parts ob_houses ob_houseMany ob_worthOf ob_byCall ob_over ob_bestSet ob_bestOver ob_bestWorth ob_row ob_tenDebts ob_tenMany ob_fewestBy ob_covered ob_queue ob_cameBy ob_parent ob_met ob_calls ob_callMany ob_calledOn ob_saved ob_many ob_width ob_numbers ob_moving), (ce_i9080 y ob_world f_1304), (ce_i6 y ob_parts f_1305), (ce_i4 y ob_many fob_many), (ce_l240 y ob_numbers fob_numbers)] ∧ va_S A s.heap H locs ∧ lv_has ls 11 [(3, .int v_1302), (2, .int v_1303), (0, .ref ob), (1, .int 1)]) ?_ (n := (60 - (0 : Int32).toInt).toNat) ⟨0, 0, fob_world, fob_parts, rfl, (bw (0) (60) (bkc (x := 0) (c := 0) (by decide)) (by decide)), (bw (0) (60) (bkc (x := 0) (c := 0) (by decide)) (by decide)), p_fob_world, (by have h90 : Int32.toInt 0 = 0 := (by decide); have h91 : Int32.toInt 1 = 1 := (by decide); exact ⟨20, fob_world, by omega, tgd_r, by rw [show (Int32.toInt 0).toNat = 0 by decide], by rw [show (Int32.toInt 0).toNat = 0 by decide]; omega⟩), (by have h90 : Int32.toInt 0 = 0 := (by decide); omega), wfr_r, rfl, ⟨hP, hD⟩, hS, lv_sub hl [0, 1, 2, 3] rfl⟩
      rintro n ih_1405 H locs ls st ⟨v_1302, v_1303, f_1304, f_1305, hn_1405, bv_1302, bv_1303, bf_1304, rl1305_0, rl1305_1, rl1305_2, rfl, ⟨hP, hD⟩, hS, hl⟩
      refine lv_iload_n hx hb dX10_done_27 rfl (lv_at hl 0 rfl) ?_
      refine lv_iconst (v := 2) hx hb dX10_done_28 (by decide) ?_
      refine lv_iadd hx hb dX10_done_29 ?_
      refine lv_topi (fun v_1406 ev_1406 => ?_)
      have qv_1406 := ba_add ev_1406 bv_1302 (bkc (x := 2) (c := 2) (by decide)) (by decide)
      have bv_1406 : (2 : Int) ≤ v_1406.toInt ∧ v_1406.toInt ≤ 62 := bq_add qv_1406 bv_1302 (bkc (x := 2) (c := 2) (by decide)) _ _ (by decide)
      have qv_1406 : v_1406.toInt = v_1302.toInt + (2) := qv_1406
      refine lv_aload_n hx hb dX10_done_30 rfl (lv_at hl 2 rfl) ?_
      refine va_get (D := G) (ci := 10) (v := .ref ob_many) (C := RX10) (T := TX10) (N := 41) hx hb hw0 inA_wsX100 hown hK.1 hP 0 rfl rfl 37 (by decide) (hw0 _ m_406) (fun _ h9 => h9) rfl dX10_done_31 ?_
      refine lv_iload_n hx hb dX10_done_34 rfl (lv_at hl 3 rfl) ?_
      refine va_iald hx hb hK.1 hP 3 1 rfl rfl (vi (bkc (x := 1) (c := 1) (by decide)) (by decide)) dX10_done_35 ?_
      refine lv_topi (fun v_1407 ev_1407 => ?_)
      obtain rfl : v_1005 = v_1407 := (ev_1407.trans (ev_1005.symm)).symm
      refine lv_icmp_ge (tgt := 177) hx hb dX10_done_36 (by decide) (fun c_1408 => ?_) (fun c_1408 => ?_)
      · skip
        have nc_1408 := nb_le (60) (2) c_1408 nc_1006.1 bv_1406 (by decide)
        refine lv_iload_n hx hb dX10_done_177 rfl (lv_at hl 1 rfl) ?_
        exact W.iret (v := v_1303) hx hb hr (fun t ht hW => ⟨⟨v_1303, _, rfl, Or.inr (⟨v_1303, f_1304, f_1305, bv_1303, bf_1304, by have h90 : Int32.toInt 1 = 1 := (by decide); omega, (by have h90 : Int32.toInt 1 = 1 := (by decide); obtain ⟨m, g1, hm, T1, hR, hC⟩ := rl1305_0; obtain ⟨h8, h9⟩ := dn_end (by omega) (by omega) hR hC; exact ⟨h9, h8 ▸ T1⟩), rl1305_2, rfl, rfl⟩), by rw [ht]; exact hP, hD⟩, hS.F ht⟩) hS.2.2 dX10_done_178
      · skip
        have nc_1408 := nb_nle (59) (3) c_1408 bv_1406 nc_1006.1 (by decide)
        have h_1409 : (0 : Int) ≤ v_1302.toInt ∧ v_1302.toInt ≤ 57 := bq_in1 qv_1406 nc_1408.1 bv_1302 (bkc (x := 2) (c := 2) (by decide)) (by decide)
        refine lv_aload_n hx hb dX10_done_39 rfl (lv_at hl 2 rfl) ?_
        refine va_get (D := G) (ci := 10) (v := .ref ob_numbers) (C := RX10) (T := TX10) (N := 41) hx hb hw0 inA_wsX100 hown hK.1 hP 0 rfl rfl 39 (by decide) (hw0 _ m_435) (fun _ h9 => h9) rfl dX10_done_40 ?_
        refine lv_bipush (v := 60) hx hb dX10_done_43 (by decide) ?_
        refine lv_iload_n hx hb dX10_done_45 rfl (lv_at hl 3 rfl) ?_
        refine lv_imul hx hb dX10_done_46 ?_
        refine lv_topi (fun v_1410 ev_1410 => ?_)
        obtain rfl : 60 = v_1410 := (ev_1410.trans (by decide)).symm
        refine lv_iload_n hx hb dX10_done_47 rfl (lv_at hl 0 rfl) ?_
        refine lv_iadd hx hb dX10_done_48 ?_
        refine lv_topi (fun v_1411 ev_1411 => ?_)
        have qv_1411 := ba_add ev_1411 (bkc (x := 60) (c := 60) (by decide)) h_1409 (by decide)
        have bv_1411 : (60 : Int) ≤ v_1411.toInt ∧ v_1411.toInt ≤ 117 := bq_add qv_1411 (bkc (x := 60) (c := 60) (by decide)) h_1409 _ _ (by decide)
        have qv_1411 : v_1411.toInt = (60) + v_1302.toInt := qv_1411
        refine va_lald hx hb hK.1 hP 4 2 rfl rfl (vi bv_1411 (by decide)) dX10_done_49 ?_
        refine lv_topl (fun v_1412 ev_1412 => ?_)
        have E_1413 : (((fun i => fob_numbers (60 + i)) : Nat → Int64) (v_1302.toInt + 0).toNat).toInt = v_1412.toInt := by rw [ev_1412, show v_1411.toNatClampNeg = 60 + (v_1302.toInt + 0).toNat from by have h9 := cl_to (x := v_1411) (by omega); omega]
        refine lv_lstore (lv' := [(4, .long v_1412), (3, .int v_1302), (2, .int v_1303), (0, .ref ob), (1, .int 1)]) hx hb dX10_done_50 hl (by decide) rfl (fun ls hl => ?_)
        refine lv_aload_n hx hb dX10_done_52 rfl (lv_at hl 3 rfl) ?_
        refine va_get (D := G) (ci := 10) (v := .ref ob_numbers) (C := RX10) (T := TX10) (N := 41) hx hb hw0 inA_wsX100 hown hK.1 hP 0 rfl rfl 39 (by decide) (hw0 _ m_435) (fun _ h9 => h9) rfl dX10_done_53 ?_
        refine lv_bipush (v := 60) hx hb dX10_done_56 (by decide) ?_
        refine lv_iload_n hx hb dX10_done_58 rfl (lv_at hl 4 rfl) ?_
        refine lv_imul hx hb dX10_done_59 ?_
        refine lv_topi (fun v_1414 ev_1414 => ?_)
        obtain rfl : 60 = v_1414 := (ev_1414.trans (by decide)).symm
        refine lv_iload_n hx hb dX10_done_60 rfl (lv_at hl 1 rfl) ?_
        refine lv_iadd hx hb dX10_done_61 ?_
        refine lv_topi (fun v_1415 ev_1415 => ?_)
        obtain rfl : v_1411 = v_1415 := (ev_1415.trans (ev_1411.symm)).symm
        refine lv_iconst (v := 1) hx hb dX10_done_62 (by decide) ?_
        refine lv_iadd hx hb dX10_done_63 ?_
        refine lv_topi (fun v_1416 ev_1416 => ?_)
        have qv_1416 := ba_add ev_1416 bv_1411 (bkc (x := 1) (c := 1) (by decide)) (by decide)
        have bv_1416 : (61 : Int) ≤ v_1416.toInt ∧ v_1416.toInt ≤ 118 := bq_add qv_1416 bv_1411 (bkc (x := 1) (c := 1) (by decide)) _ _ (by decide)
        have qv_1416 : v_1416.toInt = v_1411.toInt + (1) := qv_1416
        refine va_lald hx hb hK.1 hP 4 2 rfl rfl (vi bv_1416 (by decide)) dX10_done_64 ?_
        refine lv_topl (fun v_1417 ev_1417 => ?_)
        have E_1418 : (((fun i => fob_numbers (60 + i)) : Nat → Int64) (v_1302.toInt + 1).toNat).toInt = v_1417.toInt := by rw [ev_1417, show v_1416.toNatClampNeg = 60 + (v_1302.toInt + 1).toNat from by have h9 := cl_to (x := v_1416) (by omega); omega]
        refine lv_lstore (lv' := [(6, .long v_1417), (4, .long v_1412), (3, .int v_1302), (2, .int v_1303), (0, .ref ob), (1, .int 1)]) hx hb dX10_done_65 hl (by decide) rfl (fun ls hl => ?_)
        refine lv_aload_n hx hb dX10_done_67 rfl (lv_at hl 4 rfl) ?_
        refine va_get (D := G) (ci := 10) (v := .ref ob_numbers) (C := RX10) (T := TX10) (N := 41) hx hb hw0 inA_wsX100 hown hK.1 hP 0 rfl rfl 39 (by decide) (hw0 _ m_435) (fun _ h9 => h9) rfl dX10_done_68 ?_
        refine lv_bipush (v := 60) hx hb dX10_done_71 (by decide) ?_
        refine lv_iload_n hx hb dX10_done_73 rfl (lv_at hl 5 rfl) ?_
        refine lv_imul hx hb dX10_done_74 ?_
        refine lv_topi (fun v_1419 ev_1419 => ?_)
        obtain rfl : 60 = v_1419 := (ev_1419.trans (by decide)).symm
        refine lv_iload_n hx hb dX10_done_75 rfl (lv_at hl 2 rfl) ?_
        refine lv_iadd hx hb dX10_done_76 ?_
        refine lv_topi (fun v_1420 ev_1420 => ?_)
        obtain rfl : v_1411 = v_1420 := (ev_1420.trans (ev_1411.symm)).symm
        refine lv_iconst (v := 2) hx hb dX10_done_77 (by decide) ?_
        refine lv_iadd hx hb dX10_done_78 ?_
        refine lv_topi (fun v_1421 ev_1421 => ?_)
        have qv_1421 := ba_add ev_1421 bv_1411 (bkc (x := 2) (c := 2) (by decide)) (by decide)
        have bv_1421 : (62 : Int) ≤ v_1421.toInt ∧ v_1421.toInt ≤ 119 := bq_add qv_1421 bv_1411 (bkc (x := 2) (c := 2) (by decide)) _ _ (by decide)
        have qv_1421 : v_1421.toInt = v_1411.toInt + (2) := qv_1421
        refine va_lald hx hb hK.1 hP 4 2 rfl rfl (vi bv_1421 (by decide)) dX10_done_79 ?_
        refine lv_topl (fun v_1422 ev_1422 => ?_)
        have E_1423 : (((fun i => fob_numbers (60 + i)) : Nat → Int64) (v_1302.toInt + 2).toNat).toInt = v_1422.toInt := by rw [ev_1422, show v_1421.toNatClampNeg = 60 + (v_1302.toInt + 2).toNat from by have h9 := cl_to (x := v_1421) (by omega); omega]
        refine lv_lstore (lv' := [(8, .long v_1422), (6, .long v_1417), (4, .long v_1412), (3, .int v_1302), (2, .int v_1303), (0, .ref ob), (1, .int 1)]) hx hb dX10_done_80 hl (by decide) rfl (fun ls hl => ?_)
        refine lv_lload hx hb dX10_done_82 (lv_at hl 2 rfl) ?_
        refine lv_lconst (v := 0) hx hb dX10_done_84 (by decide) ?_
        refine lv_ldc2 (own := RX10) (v := 16) hx hb hown (hw0 _ m_436) dX10_done_85 ?_
        refine cSim (As := [.long v_1412, .long 0, .long 16]) (rest := []) ⟨hx, hb, hml, hown, hw0⟩ hA hK hP hD hS [] (sX10_in l G y _ v_1412 0 16 ) rfl ⟨(callB_of 3 hw0 (gA m_516) rfl rfl rfl (hw0 _ m_41) (hw0 _ m_345) cb_X10_in ⟨Nat.le_of_ble_eq_true rfl, Nat.le_of_ble_eq_true rfl⟩), (hw0 _ m_346)⟩ rfl hl.1 (Nat.le_of_ble_eq_true rfl) dX10_done_88 ⟨Nat.le_of_ble_eq_true rfl, Nat.le_of_ble_eq_true rfl⟩ (fun r_1424 w_1424 H locs hw_1424 hP hD hS => ?_)
        rcases hw_1424 with ⟨h_1425, rfl, rfl⟩ | ⟨h_1426, rfl, rfl⟩
        · skip
          have h_1427 : v_1412.toInt < (0 : Int) ∨ (16 : Int) < v_1412.toInt := in_n h_1425 rfl (by decide) (by decide)
          obtain ⟨hP, hD⟩ : vPD G A H [(ce_X10 ob ob_thrown ob_world ob_images ob_hasImage ob_tape ob_taped ob_five ob_size ob_at ob_from ob_token ob_value ob_faultKind ob_faultPlace ob_fresh ob_parts ob_houses ob_houseMany ob_worthOf ob_byCall ob_over ob_bestSet ob_bestOver ob_bestWorth ob_row ob_tenDebts ob_tenMany ob_fewestBy ob_covered ob_queue ob_cameBy ob_parent ob_met ob_calls ob_callMany ob_calledOn ob_saved ob_many ob_width ob_numbers ob_moving), (ce_i9080 y ob_world f_1304), (ce_i6 y ob_parts f_1305), (ce_i4 y ob_many fob_many), (ce_l240 y ob_numbers fob_numbers)] := ⟨hP, hD⟩
          refine lv_if_eq (tgt := 171) hx hb dX10_done_91 (by decide) (fun _ => ?_) (fun c9 => absurd (by decide) c9)
          obtain ⟨v_1428, ev_1428⟩ : ∃ z : Int32, z = v_1302 + 3 := ⟨_, rfl⟩
          have qv_1428 := ba_add ev_1428 h_1409 (bkc (x := 3) (c := 3) (by decide)) (by decide)
          have bv_1428 : (3 : Int) ≤ v_1428.toInt ∧ v_1428.toInt ≤ 60 := bq_add qv_1428 h_1409 (bkc (x := 3) (c := 3) (by decide)) _ _ (by decide)
          have qv_1428 : v_1428.toInt = v_1302.toInt + (3) := qv_1428
          refine lv_iinc (v := v_1428) (lv' := [(3, .int v_1428), (8, .long v_1422), (6, .long v_1417), (4, .long v_1412), (2, .int v_1303), (0, .ref ob), (1, .int 1)]) hx hb dX10_done_171 hl (k := 3) rfl (ev_1428.symm) (by decide) rfl (fun ls hl => ?_)
          refine lv_goto (tgt := 27) hx hb dX10_done_174 (by decide) ?_
          exact ih_1405 _ (ml_inc (hi := 60) hn_1405 qv_1428 (by decide) ((bw (0) (60) bv_1428 (by decide))).2) _ _ _ _ ⟨v_1428, v_1303, f_1304, f_1305, rfl, (bw (0) (60) bv_1428 (by decide)), bv_1303, bf_1304, (by have h90 : Int32.toInt 1 = 1 := (by decide); have c0 : Int64.toInt 0 = 0 := (by decide); have c4 : Int64.toInt 4 = 4 := (by decide); have c16 : Int64.toInt 16 = 16 := (by decide); obtain ⟨m, g1, hm, T1, hR, hC⟩ := rl1305_0; have hs : tgd (gst f_1304 v_1412.toInt v_1417.toInt v_1422.toInt) f_1304 ∧ gsn f_1304 v_1412.toInt v_1417.toInt v_1422.toInt = 0 := (ms_n (fun q => by have h9 := q; have h16 : (f_1304 0).toInt ≤ 16 := (by have h9 := (bf_1304).1.1 0; have h8 : UBw 0 = 16 := (by decide); omega); unfold gok gtw at h9; omega) tgd_r); obtain ⟨m2, g3, k1, k2, k3, k4⟩ := dm_step (i' := v_1428.toInt) (made' := v_1303.toInt) T1 (by have h9 := (bf_1304).1.1 0; have h8 : UBw 0 = 16 := (by decide); omega) hm (by omega) (by omega) (by omega) hR hC ((congrArg (fun q : Nat => (((fun i => fob_numbers (60 + i)) : Nat → Int64) q).toInt) (by omega)).trans E_1413) E_1418 E_1423 hs (by omega) (by omega); exact ⟨m2, g3, k1, k2, k3, k4⟩), (by omega), rl1305_2, rfl, ⟨hP, hD⟩, hS, lv_sub hl [0, 4, 5, 6] rfl⟩
        · skip
          have h_1429 : (0 : Int) ≤ v_1412.toInt ∧ v_1412.toInt ≤ (16 : Int) := in_y h_1426 rfl (by decide) (by decide)
          have h_1430_0 := (ltop v_1412)
          have h_1430_1 := True.intro
          have h_1430_2 := True.intro
          have h_1430 : (0 : Int) ≤ v_1412.toInt ∧ v_1412.toInt ≤ 16 := by omega
          obtain ⟨hP, hD⟩ : vPD G A H [(ce_X10 ob ob_thrown ob_world ob_images ob_hasImage ob_tape ob_taped ob_five ob_size ob_at ob_from ob_token ob_value ob_faultKind ob_faultPlace ob_fresh ob_parts ob_houses ob_houseMany ob_worthOf ob_byCall ob_over ob_bestSet ob_bestOver ob_bestWorth ob_row ob_tenDebts ob_tenMany ob_fewestBy ob_covered ob_queue ob_cameBy ob_parent ob_met ob_calls ob_callMany ob_calledOn ob_saved ob_many ob_width ob_numbers ob_moving), (ce_i9080 y ob_world f_1304), (ce_i6 y ob_parts f_1305), (ce_i4 y ob_many fob_many), (ce_l240 y ob_numbers fob_numbers)] := ⟨hP, hD⟩
          refine lv_if_eq (tgt := 171) hx hb dX10_done_91 (by decide) (fun c9 => absurd c9 (by decide)) (fun _ => ?_)
          refine lv_lload hx hb dX10_done_94 (lv_at hl 1 rfl) ?_
          refine lv_lconst (v := 0) hx hb dX10_done_96 (by decide) ?_
          refine lv_ldc2 (own := RX10) (v := 16) hx hb hown (hw0 _ m_436) dX10_done_97 ?_
          refine cSim (As := [.long v_1417, .long 0, .long 16]) (rest := []) ⟨hx, hb, hml, hown, hw0⟩ hA hK hP hD hS [] (sX10_in l G y _ v_1417 0 16 ) rfl ⟨(callB_of 3 hw0 (gA m_516) rfl rfl rfl (hw0 _ m_41) (hw0 _ m_345) cb_X10_in ⟨Nat.le_of_ble_eq_true rfl, Nat.le_of_ble_eq_true rfl⟩), (hw0 _ m_346)⟩ rfl hl.1 (Nat.le_of_ble_eq_true rfl) dX10_done_100 ⟨Nat.le_of_ble_eq_true rfl, Nat.le_of_ble_eq_true rfl⟩ (fun r_1431 w_1431 H locs hw_1431 hP hD hS => ?_)
          rcases hw_1431 with ⟨h_1432, rfl, rfl⟩ | ⟨h_1433, rfl, rfl⟩
          · skip
            have h_1434 : v_1417.toInt < (0 : Int) ∨ (16 : Int) < v_1417.toInt := in_n h_1432 rfl (by decide) (by decide)
            obtain ⟨hP, hD⟩ : vPD G A H [(ce_X10 ob ob_thrown ob_world ob_images ob_hasImage ob_tape ob_taped ob_five ob_size ob_at ob_from ob_token ob_value ob_faultKind ob_faultPlace ob_fresh ob_parts ob_houses ob_houseMany ob_worthOf ob_byCall ob_over ob_bestSet ob_bestOver ob_bestWorth ob_row ob_tenDebts ob_tenMany ob_fewestBy ob_covered ob_queue ob_cameBy ob_parent ob_met ob_calls ob_callMany ob_calledOn ob_saved ob_many ob_width ob_numbers ob_moving), (ce_i9080 y ob_world f_1304), (ce_i6 y ob_parts f_1305), (ce_i4 y ob_many fob_many), (ce_l240 y ob_numbers fob_numbers)] := ⟨hP, hD⟩
            refine lv_if_eq (tgt := 171) hx hb dX10_done_103 (by decide) (fun _ => ?_) (fun c9 => absurd (by decide) c9)
            obtain ⟨v_1435, ev_1435⟩ : ∃ z : Int32, z = v_1302 + 3 := ⟨_, rfl⟩
            have qv_1435 := ba_add ev_1435 h_1409 (bkc (x := 3) (c := 3) (by decide)) (by decide)
            have bv_1435 : (3 : Int) ≤ v_1435.toInt ∧ v_1435.toInt ≤ 60 := bq_add qv_1435 h_1409 (bkc (x := 3) (c := 3) (by decide)) _ _ (by decide)
            have qv_1435 : v_1435.toInt = v_1302.toInt + (3) := qv_1435
            refine lv_iinc (v := v_1435) (lv' := [(3, .int v_1435), (8, .long v_1422), (6, .long v_1417), (4, .long v_1412), (2, .int v_1303), (0, .ref ob), (1, .int 1)]) hx hb dX10_done_171 hl (k := 3) rfl (ev_1435.symm) (by decide) rfl (fun ls hl => ?_)
            refine lv_goto (tgt := 27) hx hb dX10_done_174 (by decide) ?_
            exact ih_1405 _ (ml_inc (hi := 60) hn_1405 qv_1435 (by decide) ((bw (0) (60) bv_1435 (by decide))).2) _ _ _ _ ⟨v_1435, v_1303, f_1304, f_1305, rfl, (bw (0) (60) bv_1435 (by decide)), bv_1303, bf_1304, (by have h90 : Int32.toInt 1 = 1 := (by decide); have c0 : Int64.toInt 0 = 0 := (by decide); have c4 : Int64.toInt 4 = 4 := (by decide); have c16 : Int64.toInt 16 = 16 := (by decide); obtain ⟨m, g1, hm, T1, hR, hC⟩ := rl1305_0; have hs : tgd (gst f_1304 v_1412.toInt v_1417.toInt v_1422.toInt) f_1304 ∧ gsn f_1304 v_1412.toInt v_1417.toInt v_1422.toInt = 0 := (ms_n (fun q => by have h9 := q; have h16 : (f_1304 0).toInt ≤ 16 := (by have h9 := (bf_1304).1.1 0; have h8 : UBw 0 = 16 := (by decide); omega); unfold gok gtw at h9; omega) tgd_r); obtain ⟨m2, g3, k1, k2, k3, k4⟩ := dm_step (i' := v_1435.toInt) (made' := v_1303.toInt) T1 (by have h9 := (bf_1304).1.1 0; have h8 : UBw 0 = 16 := (by decide); omega) hm (by omega) (by omega) (by omega) hR hC ((congrArg (fun q : Nat => (((fun i => fob_numbers (60 + i)) : Nat → Int64) q).toInt) (by omega)).trans E_1413) E_1418 E_1423 hs (by omega) (by omega); exact ⟨m2, g3, k1, k2, k3, k4⟩), (by omega), rl1305_2, rfl, ⟨hP, hD⟩, hS, lv_sub hl [0, 4, 5, 6] rfl⟩
          · skip
            have h_1436 : (0 : Int) ≤ v_1417.toInt ∧ v_1417.toInt ≤ (16 : Int) := in_y h_1433 rfl (by decide) (by decide)
            have h_1437_0 := (ltop v_1417)
            have h_1437_1 := True.intro
            have h_1437_2 := True.intro
            have h_1437 : (0 : Int) ≤ v_1417.toInt ∧ v_1417.toInt ≤ 16 := by omega
            obtain ⟨hP, hD⟩ : vPD G A H [(ce_X10 ob ob_thrown ob_world ob_images ob_hasImage ob_tape ob_taped ob_five ob_size ob_at ob_from ob_token ob_value ob_faultKind ob_faultPlace ob_fresh ob_parts ob_houses ob_houseMany ob_worthOf ob_byCall ob_over ob_bestSet ob_bestOver ob_bestWorth ob_row ob_tenDebts ob_tenMany ob_fewestBy ob_covered ob_queue ob_cameBy ob_parent ob_met ob_calls ob_callMany ob_calledOn ob_saved ob_many ob_width ob_numbers ob_moving), (ce_i9080 y ob_world f_1304), (ce_i6 y ob_parts f_1305), (ce_i4 y ob_many fob_many), (ce_l240 y ob_numbers fob_numbers)] := ⟨hP, hD⟩
            refine lv_if_eq (tgt := 171) hx hb dX10_done_103 (by decide) (fun c9 => absurd c9 (by decide)) (fun _ => ?_)
            refine lv_lload hx hb dX10_done_106 (lv_at hl 0 rfl) ?_
            refine lv_lconst (v := 0) hx hb dX10_done_108 (by decide) ?_
            refine lv_ldc2 (own := RX10) (v := 4) hx hb hown (hw0 _ m_437) dX10_done_109 ?_
            refine cSim (As := [.long v_1422, .long 0, .long 4]) (rest := []) ⟨hx, hb, hml, hown, hw0⟩ hA hK hP hD hS [] (sX10_in l G y _ v_1422 0 4 ) rfl ⟨(callB_of 3 hw0 (gA m_516) rfl rfl rfl (hw0 _ m_41) (hw0 _ m_345) cb_X10_in ⟨Nat.le_of_ble_eq_true rfl, Nat.le_of_ble_eq_true rfl⟩), (hw0 _ m_346)⟩ rfl hl.1 (Nat.le_of_ble_eq_true rfl) dX10_done_112 ⟨Nat.le_of_ble_eq_true rfl, Nat.le_of_ble_eq_true rfl⟩ (fun r_1438 w_1438 H locs hw_1438 hP hD hS => ?_)
            rcases hw_1438 with ⟨h_1439, rfl, rfl⟩ | ⟨h_1440, rfl, rfl⟩
            · skip
              have h_1441 : v_1422.toInt < (0 : Int) ∨ (4 : Int) < v_1422.toInt := in_n h_1439 rfl (by decide) (by decide)
              obtain ⟨hP, hD⟩ : vPD G A H [(ce_X10 ob ob_thrown ob_world ob_images ob_hasImage ob_tape ob_taped ob_five ob_size ob_at ob_from ob_token ob_value ob_faultKind ob_faultPlace ob_fresh ob_parts ob_houses ob_houseMany ob_worthOf ob_byCall ob_over ob_bestSet ob_bestOver ob_bestWorth ob_row ob_tenDebts ob_tenMany ob_fewestBy ob_covered ob_queue ob_cameBy ob_parent ob_met ob_calls ob_callMany ob_calledOn ob_saved ob_many ob_width ob_numbers ob_moving), (ce_i9080 y ob_world f_1304), (ce_i6 y ob_parts f_1305), (ce_i4 y ob_many fob_many), (ce_l240 y ob_numbers fob_numbers)] := ⟨hP, hD⟩
              refine lv_if_ne (tgt := 121) hx hb dX10_done_115 (by decide) (fun c9 => absurd (by decide) c9) (fun _ => ?_)
              refine lv_goto (tgt := 171) hx hb dX10_done_118 (by decide) ?_
              obtain ⟨v_1442, ev_1442⟩ : ∃ z : Int32, z = v_1302 + 3 := ⟨_, rfl⟩
              have qv_1442 := ba_add ev_1442 h_1409 (bkc (x := 3) (c := 3) (by decide)) (by decide)
              have bv_1442 : (3 : Int) ≤ v_1442.toInt ∧ v_1442.toInt ≤ 60 := bq_add qv_1442 h_1409 (bkc (x := 3) (c := 3) (by decide)) _ _ (by decide)
              have qv_1442 : v_1442.toInt = v_1302.toInt + (3) := qv_1442
              refine lv_iinc (v := v_1442) (lv' := [(3, .int v_1442), (8, .long v_1422), (6, .long v_1417), (4, .long v_1412), (2, .int v_1303), (0, .ref ob), (1, .int 1)]) hx hb dX10_done_171 hl (k := 3) rfl (ev_1442.symm) (by decide) rfl (fun ls hl => ?_)
              refine lv_goto (tgt := 27) hx hb dX10_done_174 (by decide) ?_
              exact ih_1405 _ (ml_inc (hi := 60) hn_1405 qv_1442 (by decide) ((bw (0) (60) bv_1442 (by decide))).2) _ _ _ _ ⟨v_1442, v_1303, f_1304, f_1305, rfl, (bw (0) (60) bv_1442 (by decide)), bv_1303, bf_1304, (by have h90 : Int32.toInt 1 = 1 := (by decide); have c0 : Int64.toInt 0 = 0 := (by decide); have c4 : Int64.toInt 4 = 4 := (by decide); have c16 : Int64.toInt 16 = 16 := (by decide); obtain ⟨m, g1, hm, T1, hR, hC⟩ := rl1305_0; have hs : tgd (gst f_1304 v_1412.toInt v_1417.toInt v_1422.toInt) f_1304 ∧ gsn f_1304 v_1412.toInt v_1417.toInt v_1422.toInt = 0 := (ms_n (fun q => by have h9 := q; have h16 : (f_1304 0).toInt ≤ 16 := (by have h9 := (bf_1304).1.1 0; have h8 : UBw 0 = 16 := (by decide); omega); unfold gok gtw at h9; omega) tgd_r); obtain ⟨m2, g3, k1, k2, k3, k4⟩ := dm_step (i' := v_1442.toInt) (made' := v_1303.toInt) T1 (by have h9 := (bf_1304).1.1 0; have h8 : UBw 0 = 16 := (by decide); omega) hm (by omega) (by omega) (by omega) hR hC ((congrArg (fun q : Nat => (((fun i => fob_numbers (60 + i)) : Nat → Int64) q).toInt) (by omega)).trans E_1413) E_1418 E_1423 hs (by omega) (by omega); exact ⟨m2, g3, k1, k2, k3, k4⟩), (by omega), rl1305_2, rfl, ⟨hP, hD⟩, hS, lv_sub hl [0, 4, 5, 6] rfl⟩
            · skip
              have h_1443 : (0 : Int) ≤ v_1422.toInt ∧ v_1422.toInt ≤ (4 : Int) := in_y h_1440 rfl (by decide) (by decide)
              have h_1444_0 := (ltop v_1422)
              have h_1444_1 := True.intro
              have h_1444_2 := True.intro
              have h_1444 : (0 : Int) ≤ v_1422.toInt ∧ v_1422.toInt ≤ 4 := by omega
              obtain ⟨hP, hD⟩ : vPD G A H [(ce_X10 ob ob_thrown ob_world ob_images ob_hasImage ob_tape ob_taped ob_five ob_size ob_at ob_from ob_token ob_value ob_faultKind ob_faultPlace ob_fresh ob_parts ob_houses ob_houseMany ob_worthOf ob_byCall ob_over ob_bestSet ob_bestOver ob_bestWorth ob_row ob_tenDebts ob_tenMany ob_fewestBy ob_covered ob_queue ob_cameBy ob_parent ob_met ob_calls ob_callMany ob_calledOn ob_saved ob_many ob_width ob_numbers ob_moving), (ce_i9080 y ob_world f_1304), (ce_i6 y ob_parts f_1305), (ce_i4 y ob_many fob_many), (ce_l240 y ob_numbers fob_numbers)] := ⟨hP, hD⟩
              refine lv_if_ne (tgt := 121) hx hb dX10_done_115 (by decide) (fun _ => ?_) (fun c9 => absurd c9 (by decide))
              refine lv_lload hx hb dX10_done_121 (lv_at hl 0 rfl) ?_
              refine lv_ldc2 (own := RX10) (v := 4) hx hb hown (hw0 _ m_437) dX10_done_123 ?_
              refine W.lcmp hx hb dX10_done_126 ?_
              refine lv_if_ne (tgt := 143) hx hb dX10_done_127 (by decide) (fun c_1445 => ?_) (fun c_1445 => ?_)
              · skip
                have nc_1445 := jl_neq c_1445
                have kc_1445w : (4 : Int64).toInt = 4 := by decide
                refine lv_aload_n hx hb dX10_done_143 rfl (lv_at hl 5 rfl) ?_
                refine lv_lload hx hb dX10_done_144 (lv_at hl 2 rfl) ?_
                refine lv_l2i hx hb dX10_done_146 rfl ?_
                refine lv_topi (fun v_1446 ev_1446 => ?_)
                have bv_1446 : (0 : Int) ≤ v_1446.toInt ∧ v_1446.toInt ≤ 16 := ba_l2i ev_1446 h_1430 (by decide)
                refine lv_lload hx hb dX10_done_147 (lv_at hl 1 rfl) ?_
                refine lv_l2i hx hb dX10_done_149 rfl ?_
                refine lv_topi (fun v_1447 ev_1447 => ?_)
                have bv_1447 : (0 : Int) ≤ v_1447.toInt ∧ v_1447.toInt ≤ 16 := ba_l2i ev_1447 h_1437 (by decide)
                refine lv_lload hx hb dX10_done_150 (lv_at hl 0 rfl) ?_
                refine lv_l2i hx hb dX10_done_152 rfl ?_
                refine lv_topi (fun v_1448 ev_1448 => ?_)
                have bv_1448 : (0 : Int) ≤ v_1448.toInt ∧ v_1448.toInt ≤ 4 := ba_l2i ev_1448 h_1444 (by decide)
                refine cVim (As := [.int v_1446, .int v_1447, .int v_1448]) (rest := []) ⟨hx, hb, hml, hown, hw0⟩ hA hK hP hD hS [true, true, true] (gdoes l G y _ ob v_1446 v_1447 v_1448 ob_thrown ob_world ob_images ob_hasImage ob_tape ob_taped ob_five ob_size ob_at ob_from ob_token ob_value ob_faultKind ob_faultPlace ob_fresh ob_parts ob_houses ob_houseMany ob_worthOf ob_byCall ob_over ob_bestSet ob_bestOver ob_bestWorth ob_row ob_tenDebts ob_tenMany ob_fewestBy ob_covered ob_queue ob_cameBy ob_parent ob_met ob_calls ob_callMany ob_calledOn ob_saved ob_many ob_width ob_numbers ob_moving f_1304 f_1305 bf_1304 p_ob_taped p_ob_size p_ob_at p_ob_from p_ob_token p_ob_value p_ob_faultKind p_ob_houseMany p_ob_bestSet p_ob_bestOver p_ob_tenMany p_ob_callMany) rfl ⟨(callB_of 3 hw0 (gA m_428) rfl rfl rfl (hw0 _ m_41) (hw0 _ m_439) cb_X10_does ⟨Nat.le_of_ble_eq_true rfl, Nat.le_of_ble_eq_true rfl⟩), (hw0 _ m_84), (hw0 _ m_85)⟩ (ci := 10) (q := (RX10, TX10, 41)) rfl rfl rfl hl.1 (Nat.le_of_ble_eq_true rfl) dX10_done_153 ⟨Nat.le_of_ble_eq_true rfl, Nat.le_of_ble_eq_true rfl⟩ (fun r_1449 w_1449 H locs hw_1449 hP hD hS => ?_)
                rcases hw_1449 with ⟨h_1450, h_1451, rfl, rfl⟩ | ⟨h_1452, h_1453, h_1454, h_1455, h_1456, rfl, rfl⟩ | ⟨h_1457, h_1458, h_1459, h_1460, h_1461, rfl, rfl⟩ | ⟨v_1462, f_1463, f_1464, bv_1462, bf_1463, h_1465, h_1466, h_1467, h_1468, h_1469, h_1470, h_1471, er_1449, rfl⟩
                · skip
                  obtain ⟨hP, hD⟩ : vPD G A H [(ce_X10 ob ob_thrown ob_world ob_images ob_hasImage ob_tape ob_taped ob_five ob_size ob_at ob_from ob_token ob_value ob_faultKind ob_faultPlace ob_fresh ob_parts ob_houses ob_houseMany ob_worthOf ob_byCall ob_over ob_bestSet ob_bestOver ob_bestWorth ob_row ob_tenDebts ob_tenMany ob_fewestBy ob_covered ob_queue ob_cameBy ob_parent ob_met ob_calls ob_callMany ob_calledOn ob_saved ob_many ob_width ob_numbers ob_moving), (ce_i9080 y ob_world f_1304), (ce_i6 y ob_parts f_1305), (ce_i4 y ob_many fob_many), (ce_l240 y ob_numbers fob_numbers)] := ⟨hP, hD⟩
                  refine lv_istore (lv' := [(10, .int (-2)), (8, .long v_1422), (6, .long v_1417), (4, .long v_1412), (3, .int v_1302), (2, .int v_1303), (0, .ref ob), (1, .int 1)]) hx hb dX10_done_156 hl (by decide) rfl (fun ls hl => ?_)
                  refine lv_iload_n hx hb dX10_done_158 rfl (lv_at hl 5 rfl) ?_
                  refine lv_iload hx hb dX10_done_159 (lv_at hl 0 rfl) ?_
                  refine lv_if_lt (tgt := 168) hx hb dX10_done_161 (by decide) (fun _ => ?_) (fun c9 => absurd (by decide) c9)
                  refine lv_iconst (v := 0) hx hb dX10_done_168 (by decide) ?_
                  refine lv_iadd hx hb dX10_done_169 ?_
                  refine lv_topi (fun v_1472 ev_1472 => ?_)
                  have qv_1472 := ba_add ev_1472 bv_1303 (bkc (x := 0) (c := 0) (by decide)) (by decide)
                  have bv_1472 : (0 : Int) ≤ v_1472.toInt ∧ v_1472.toInt ≤ 60 := bq_add qv_1472 bv_1303 (bkc (x := 0) (c := 0) (by decide)) _ _ (by decide)
                  have qv_1472 : v_1472.toInt = v_1303.toInt + (0) := qv_1472
                  refine lv_istore_n (lv' := [(2, .int v_1472), (10, .int (-2)), (8, .long v_1422), (6, .long v_1417), (4, .long v_1412), (3, .int v_1302), (0, .ref ob), (1, .int 1)]) hx hb dX10_done_170 rfl hl (by decide) rfl (fun ls hl => ?_)
                  obtain ⟨v_1473, ev_1473⟩ : ∃ z : Int32, z = v_1302 + 3 := ⟨_, rfl⟩
                  have qv_1473 := ba_add ev_1473 h_1409 (bkc (x := 3) (c := 3) (by decide)) (by decide)
                  have bv_1473 : (3 : Int) ≤ v_1473.toInt ∧ v_1473.toInt ≤ 60 := bq_add qv_1473 h_1409 (bkc (x := 3) (c := 3) (by decide)) _ _ (by decide)
                  have qv_1473 : v_1473.toInt = v_1302.toInt + (3) := qv_1473
                  refine lv_iinc (v := v_1473) (lv' := [(3, .int v_1473), (2, .int v_1472), (10, .int (-2)), (8, .long v_1422), (6, .long v_1417), (4, .long v_1412), (0, .ref ob), (1, .int 1)]) hx hb dX10_done_171 hl (k := 5) rfl (ev_1473.symm) (by decide) rfl (fun ls hl => ?_)
                  refine lv_goto (tgt := 27) hx hb dX10_done_174 (by decide) ?_
                  exact ih_1405 _ (ml_inc (hi := 60) hn_1405 qv_1473 (by decide) ((bw (0) (60) bv_1473 (by decide))).2) _ _ _ _ ⟨v_1473, v_1472, f_1304, f_1305, rfl, (bw (0) (60) bv_1473 (by decide)), bv_1472, bf_1304, (by have h90 : Int32.toInt (-2) = -2 := (by decide); have h91 : Int32.toInt 1 = 1 := (by decide); have c0 : Int64.toInt 0 = 0 := (by decide); have c4 : Int64.toInt 4 = 4 := (by decide); have c16 : Int64.toInt 16 = 16 := (by decide); obtain ⟨m, g1, hm, T1, hR, hC⟩ := rl1305_0; have hs : tgd (gst f_1304 v_1412.toInt v_1417.toInt v_1422.toInt) f_1304 ∧ gsn f_1304 v_1412.toInt v_1417.toInt v_1422.toInt = 0 := (by have L0 : v_1446.toInt = v_1412.toInt := l2i_r ev_1446 (by omega) (by omega); have L1 : v_1447.toInt = v_1417.toInt := l2i_r ev_1447 (by omega) (by omega); have L2 : v_1448.toInt = v_1422.toInt := l2i_r ev_1448 (by omega) (by omega); rw [← L0, ← L1, ← L2]; exact ms_n (fun q => by have h9 := gok_n q (by omega); omega) tgd_r); obtain ⟨m2, g3, k1, k2, k3, k4⟩ := dm_step (i' := v_1473.toInt) (made' := v_1472.toInt) T1 (by have h9 := (bf_1304).1.1 0; have h8 : UBw 0 = 16 := (by decide); omega) hm (by omega) (by omega) (by omega) hR hC ((congrArg (fun q : Nat => (((fun i => fob_numbers (60 + i)) : Nat → Int64) q).toInt) (by omega)).trans E_1413) E_1418 E_1423 hs (by omega) (by omega); exact ⟨m2, g3, k1, k2, k3, k4⟩), (by omega), rl1305_2, rfl, ⟨hP, hD⟩, hS, lv_sub hl [0, 1, 6, 7] rfl⟩
                · skip
                  obtain ⟨hP, hD⟩ : vPD G A H [(ce_X10 ob ob_thrown ob_world ob_images ob_hasImage ob_tape ob_taped ob_five ob_size ob_at ob_from ob_token ob_value ob_faultKind ob_faultPlace ob_fresh ob_parts ob_houses ob_houseMany ob_worthOf ob_byCall ob_over ob_bestSet ob_bestOver ob_bestWorth ob_row ob_tenDebts ob_tenMany ob_fewestBy ob_covered ob_queue ob_cameBy ob_parent ob_met ob_calls ob_callMany ob_calledOn ob_saved ob_many ob_width ob_numbers ob_moving), (ce_i9080 y ob_world f_1304), (ce_i6 y ob_parts f_1305), (ce_i4 y ob_many fob_many), (ce_l240 y ob_numbers fob_numbers)] := ⟨hP, hD⟩
                  refine lv_istore (lv' := [(10, .int (-3)), (8, .long v_1422), (6, .long v_1417), (4, .long v_1412), (3, .int v_1302), (2, .int v_1303), (0, .ref ob), (1, .int 1)]) hx hb dX10_done_156 hl (by decide) rfl (fun ls hl => ?_)
                  refine lv_iload_n hx hb dX10_done_158 rfl (lv_at hl 5 rfl) ?_
                  refine lv_iload hx hb dX10_done_159 (lv_at hl 0 rfl) ?_
                  refine lv_if_lt (tgt := 168) hx hb dX10_done_161 (by decide) (fun _ => ?_) (fun c9 => absurd (by decide) c9)
                  refine lv_iconst (v := 0) hx hb dX10_done_168 (by decide) ?_
                  refine lv_iadd hx hb dX10_done_169 ?_
                  refine lv_topi (fun v_1474 ev_1474 => ?_)
                  have qv_1474 := ba_add ev_1474 bv_1303 (bkc (x := 0) (c := 0) (by decide)) (by decide)
                  have bv_1474 : (0 : Int) ≤ v_1474.toInt ∧ v_1474.toInt ≤ 60 := bq_add qv_1474 bv_1303 (bkc (x := 0) (c := 0) (by decide)) _ _ (by decide)
                  have qv_1474 : v_1474.toInt = v_1303.toInt + (0) := qv_1474
                  refine lv_istore_n (lv' := [(2, .int v_1474), (10, .int (-3)), (8, .long v_1422), (6, .long v_1417), (4, .long v_1412), (3, .int v_1302), (0, .ref ob), (1, .int 1)]) hx hb dX10_done_170 rfl hl (by decide) rfl (fun ls hl => ?_)
                  obtain ⟨v_1475, ev_1475⟩ : ∃ z : Int32, z = v_1302 + 3 := ⟨_, rfl⟩
                  have qv_1475 := ba_add ev_1475 h_1409 (bkc (x := 3) (c := 3) (by decide)) (by decide)
                  have bv_1475 : (3 : Int) ≤ v_1475.toInt ∧ v_1475.toInt ≤ 60 := bq_add qv_1475 h_1409 (bkc (x := 3) (c := 3) (by decide)) _ _ (by decide)
                  have qv_1475 : v_1475.toInt = v_1302.toInt + (3) := qv_1475
                  refine lv_iinc (v := v_1475) (lv' := [(3, .int v_1475), (2, .int v_1474), (10, .int (-3)), (8, .long v_1422), (6, .long v_1417), (4, .long v_1412), (0, .ref ob), (1, .int 1)]) hx hb dX10_done_171 hl (k := 5) rfl (ev_1475.symm) (by decide) rfl (fun ls hl => ?_)
                  refine lv_goto (tgt := 27) hx hb dX10_done_174 (by decide) ?_
                  exact ih_1405 _ (ml_inc (hi := 60) hn_1405 qv_1475 (by decide) ((bw (0) (60) bv_1475 (by decide))).2) _ _ _ _ ⟨v_1475, v_1474, f_1304, f_1305, rfl, (bw (0) (60) bv_1475 (by decide)), bv_1474, bf_1304, (by have h90 : Int32.toInt (-3) = -3 := (by decide); have h91 : Int32.toInt 1 = 1 := (by decide); have c0 : Int64.toInt 0 = 0 := (by decide); have c4 : Int64.toInt 4 = 4 := (by decide); have c16 : Int64.toInt 16 = 16 := (by decide); obtain ⟨m, g1, hm, T1, hR, hC⟩ := rl1305_0; have hs : tgd (gst f_1304 v_1412.toInt v_1417.toInt v_1422.toInt) f_1304 ∧ gsn f_1304 v_1412.toInt v_1417.toInt v_1422.toInt = 0 := (by have L0 : v_1446.toInt = v_1412.toInt := l2i_r ev_1446 (by omega) (by omega); have L1 : v_1447.toInt = v_1417.toInt := l2i_r ev_1447 (by omega) (by omega); have L2 : v_1448.toInt = v_1422.toInt := l2i_r ev_1448 (by omega) (by omega); rw [← L0, ← L1, ← L2]; exact ms_n (fun q => by have h9 := gok_n q (by omega); omega) tgd_r); obtain ⟨m2, g3, k1, k2, k3, k4⟩ := dm_step (i' := v_1475.toInt) (made' := v_1474.toInt) T1 (by have h9 := (bf_1304).1.1 0; have h8 : UBw 0 = 16 := (by decide); omega) hm (by omega) (by omega) (by omega) hR hC ((congrArg (fun q : Nat => (((fun i => fob_numbers (60 + i)) : Nat → Int64) q).toInt) (by omega)).trans E_1413) E_1418 E_1423 hs (by omega) (by omega); exact ⟨m2, g3, k1, k2, k3, k4⟩), (by omega), rl1305_2, rfl, ⟨hP, hD⟩, hS, lv_sub hl [0, 1, 6, 7] rfl⟩
                · skip
                  obtain ⟨hP, hD⟩ : vPD G A H [(ce_X10 ob ob_thrown ob_world ob_images ob_hasImage ob_tape ob_taped ob_five ob_size ob_at ob_from ob_token ob_value ob_faultKind ob_faultPlace ob_fresh ob_parts ob_houses ob_houseMany ob_worthOf ob_byCall ob_over ob_bestSet ob_bestOver ob_bestWorth ob_row ob_tenDebts ob_tenMany ob_fewestBy ob_covered ob_queue ob_cameBy ob_parent ob_met ob_calls ob_callMany ob_calledOn ob_saved ob_many ob_width ob_numbers ob_moving), (ce_i9080 y ob_world f_1304), (ce_i6 y ob_parts f_1305), (ce_i4 y ob_many fob_many), (ce_l240 y ob_numbers fob_numbers)] := ⟨hP, hD⟩
                  refine lv_istore (lv' := [(10, .int (-5)), (8, .long v_1422), (6, .long v_1417), (4, .long v_1412), (3, .int v_1302), (2, .int v_1303), (0, .ref ob), (1, .int 1)]) hx hb dX10_done_156 hl (by decide) rfl (fun ls hl => ?_)
                  refine lv_iload_n hx hb dX10_done_158 rfl (lv_at hl 5 rfl) ?_
                  refine lv_iload hx hb dX10_done_159 (lv_at hl 0 rfl) ?_
                  refine lv_if_lt (tgt := 168) hx hb dX10_done_161 (by decide) (fun _ => ?_) (fun c9 => absurd (by decide) c9)
                  refine lv_iconst (v := 0) hx hb dX10_done_168 (by decide) ?_
                  refine lv_iadd hx hb dX10_done_169 ?_
                  refine lv_topi (fun v_1476 ev_1476 => ?_)
                  have qv_1476 := ba_add ev_1476 bv_1303 (bkc (x := 0) (c := 0) (by decide)) (by decide)
                  have bv_1476 : (0 : Int) ≤ v_1476.toInt ∧ v_1476.toInt ≤ 60 := bq_add qv_1476 bv_1303 (bkc (x := 0) (c := 0) (by decide)) _ _ (by decide)
                  have qv_1476 : v_1476.toInt = v_1303.toInt + (0) := qv_1476
                  refine lv_istore_n (lv' := [(2, .int v_1476), (10, .int (-5)), (8, .long v_1422), (6, .long v_1417), (4, .long v_1412), (3, .int v_1302), (0, .ref ob), (1, .int 1)]) hx hb dX10_done_170 rfl hl (by decide) rfl (fun ls hl => ?_)
                  obtain ⟨v_1477, ev_1477⟩ : ∃ z : Int32, z = v_1302 + 3 := ⟨_, rfl⟩
                  have qv_1477 := ba_add ev_1477 h_1409 (bkc (x := 3) (c := 3) (by decide)) (by decide)
                  have bv_1477 : (3 : Int) ≤ v_1477.toInt ∧ v_1477.toInt ≤ 60 := bq_add qv_1477 h_1409 (bkc (x := 3) (c := 3) (by decide)) _ _ (by decide)
                  have qv_1477 : v_1477.toInt = v_1302.toInt + (3) := qv_1477
                  refine lv_iinc (v := v_1477) (lv' := [(3, .int v_1477), (2, .int v_1476), (10, .int (-5)), (8, .long v_1422), (6, .long v_1417), (4, .long v_1412), (0, .ref ob), (1, .int 1)]) hx hb dX10_done_171 hl (k := 5) rfl (ev_1477.symm) (by decide) rfl (fun ls hl => ?_)
                  refine lv_goto (tgt := 27) hx hb dX10_done_174 (by decide) ?_
                  exact ih_1405 _ (ml_inc (hi := 60) hn_1405 qv_1477 (by decide) ((bw (0) (60) bv_1477 (by decide))).2) _ _ _ _ ⟨v_1477, v_1476, f_1304, f_1305, rfl, (bw (0) (60) bv_1477 (by decide)), bv_1476, bf_1304, (by have h90 : Int32.toInt (-5) = -5 := (by decide); have h91 : Int32.toInt 1 = 1 := (by decide); have c0 : Int64.toInt 0 = 0 := (by decide); have c4 : Int64.toInt 4 = 4 := (by decide); have c16 : Int64.toInt 16 = 16 := (by decide); obtain ⟨m, g1, hm, T1, hR, hC⟩ := rl1305_0; have hs : tgd (gst f_1304 v_1412.toInt v_1417.toInt v_1422.toInt) f_1304 ∧ gsn f_1304 v_1412.toInt v_1417.toInt v_1422.toInt = 0 := (by have L0 : v_1446.toInt = v_1412.toInt := l2i_r ev_1446 (by omega) (by omega); have L1 : v_1447.toInt = v_1417.toInt := l2i_r ev_1447 (by omega) (by omega); have L2 : v_1448.toInt = v_1422.toInt := l2i_r ev_1448 (by omega) (by omega); rw [← L0, ← L1, ← L2]; exact ms_n (fun q => by have h9 := gok_n q (by omega); omega) tgd_r); obtain ⟨m2, g3, k1, k2, k3, k4⟩ := dm_step (i' := v_1477.toInt) (made' := v_1476.toInt) T1 (by have h9 := (bf_1304).1.1 0; have h8 : UBw 0 = 16 := (by decide); omega) hm (by omega) (by omega) (by omega) hR hC ((congrArg (fun q : Nat => (((fun i => fob_numbers (60 + i)) : Nat → Int64) q).toInt) (by omega)).trans E_1413) E_1418 E_1423 hs (by omega) (by omega); exact ⟨m2, g3, k1, k2, k3, k4⟩), (by omega), rl1305_2, rfl, ⟨hP, hD⟩, hS, lv_sub hl [0, 1, 6, 7] rfl⟩
                · skip
                  subst r_1449
                  obtain ⟨hP, hD⟩ : vPD G A H [(ce_X10 ob ob_thrown ob_world ob_images ob_hasImage ob_tape ob_taped ob_five ob_size ob_at ob_from ob_token ob_value ob_faultKind ob_faultPlace ob_fresh ob_parts ob_houses ob_houseMany ob_worthOf ob_byCall ob_over ob_bestSet ob_bestOver ob_bestWorth ob_row ob_tenDebts ob_tenMany ob_fewestBy ob_covered ob_queue ob_cameBy ob_parent ob_met ob_calls ob_callMany ob_calledOn ob_saved ob_many ob_width ob_numbers ob_moving), (ce_i9080 y ob_world f_1463), (ce_i6 y ob_parts f_1464), (ce_i4 y ob_many fob_many), (ce_l240 y ob_numbers fob_numbers)] := ⟨hP, hD⟩
                  refine lv_istore (lv' := [(10, .int v_1462), (8, .long v_1422), (6, .long v_1417), (4, .long v_1412), (3, .int v_1302), (2, .int v_1303), (0, .ref ob), (1, .int 1)]) hx hb dX10_done_156 hl (by decide) rfl (fun ls hl => ?_)
                  refine lv_iload_n hx hb dX10_done_158 rfl (lv_at hl 5 rfl) ?_
                  refine lv_iload hx hb dX10_done_159 (lv_at hl 0 rfl) ?_
                  refine lv_if_lt (tgt := 168) hx hb dX10_done_161 (by decide) (fun c9 => absurd c9 (dc_nlt bv_1462 (bkc (x := 0) (c := 0) (by decide)) (by decide))) (fun _ => ?_)
                  refine lv_iconst (v := 1) hx hb dX10_done_164 (by decide) ?_
                  refine lv_goto (tgt := 169) hx hb dX10_done_165 (by decide) ?_
                  refine lv_iadd hx hb dX10_done_169 ?_
                  refine lv_topi (fun v_1478 ev_1478 => ?_)
                  have qv_1478 := ba_add ev_1478 bv_1303 (bkc (x := 1) (c := 1) (by decide)) (by decide)
                  have bv_1478 : (1 : Int) ≤ v_1478.toInt ∧ v_1478.toInt ≤ 61 := bq_add qv_1478 bv_1303 (bkc (x := 1) (c := 1) (by decide)) _ _ (by decide)
                  have qv_1478 : v_1478.toInt = v_1303.toInt + (1) := qv_1478
                  have h_1479 : (0 : Int) ≤ v_1478.toInt ∧ v_1478.toInt ≤ 60 := by omega
                  refine lv_istore_n (lv' := [(2, .int v_1478), (10, .int v_1462), (8, .long v_1422), (6, .long v_1417), (4, .long v_1412), (3, .int v_1302), (0, .ref ob), (1, .int 1)]) hx hb dX10_done_170 rfl hl (by decide) rfl (fun ls hl => ?_)
                  obtain ⟨v_1480, ev_1480⟩ : ∃ z : Int32, z = v_1302 + 3 := ⟨_, rfl⟩
                  have qv_1480 := ba_add ev_1480 h_1409 (bkc (x := 3) (c := 3) (by decide)) (by decide)
                  have bv_1480 : (3 : Int) ≤ v_1480.toInt ∧ v_1480.toInt ≤ 60 := bq_add qv_1480 h_1409 (bkc (x := 3) (c := 3) (by decide)) _ _ (by decide)
                  have qv_1480 : v_1480.toInt = v_1302.toInt + (3) := qv_1480
                  refine lv_iinc (v := v_1480) (lv' := [(3, .int v_1480), (2, .int v_1478), (10, .int v_1462), (8, .long v_1422), (6, .long v_1417), (4, .long v_1412), (0, .ref ob), (1, .int 1)]) hx hb dX10_done_171 hl (k := 5) rfl (ev_1480.symm) (by decide) rfl (fun ls hl => ?_)
                  refine lv_goto (tgt := 27) hx hb dX10_done_174 (by decide) ?_
                  exact ih_1405 _ (ml_inc (hi := 60) hn_1405 qv_1480 (by decide) ((bw (0) (60) bv_1480 (by decide))).2) _ _ _ _ ⟨v_1480, v_1478, f_1463, f_1464, rfl, (bw (0) (60) bv_1480 (by decide)), h_1479, bf_1463, (by have h90 : Int32.toInt 1 = 1 := (by decide); have c0 : Int64.toInt 0 = 0 := (by decide); have c4 : Int64.toInt 4 = 4 := (by decide); have c16 : Int64.toInt 16 = 16 := (by decide); obtain ⟨m, g1, hm, T1, hR, hC⟩ := rl1305_0; have hs : tgd (gst f_1304 v_1412.toInt v_1417.toInt v_1422.toInt) f_1463 ∧ gsn f_1304 v_1412.toInt v_1417.toInt v_1422.toInt = 1 := (by have L0 : v_1446.toInt = v_1412.toInt := l2i_r ev_1446 (by omega) (by omega); have L1 : v_1447.toInt = v_1417.toInt := l2i_r ev_1447 (by omega) (by omega); have L2 : v_1448.toInt = v_1422.toInt := l2i_r ev_1448 (by omega) (by omega); rw [← L0, ← L1, ← L2]; exact ms_y (gok_d h_1468) h_1469); obtain ⟨m2, g3, k1, k2, k3, k4⟩ := dm_step (i' := v_1480.toInt) (made' := v_1478.toInt) T1 (by have h9 := (bf_1304).1.1 0; have h8 : UBw 0 = 16 := (by decide); omega) hm (by omega) (by omega) (by omega) hR hC ((congrArg (fun q : Nat => (((fun i => fob_numbers (60 + i)) : Nat → Int64) q).toInt) (by omega)).trans E_1413) E_1418 E_1423 hs (by omega) (by omega); exact ⟨m2, g3, k1, k2, k3, k4⟩), (by omega), (wfr_t rl1305_2 h_1471), rfl, ⟨hP, hD⟩, hS, lv_sub hl [0, 1, 6, 7] rfl⟩
              · skip
                have nc_1445 := jl_eq c_1445
                have kc_1445w : (4 : Int64).toInt = 4 := by decide
                refine lv_aload_n hx hb dX10_done_130 rfl (lv_at hl 5 rfl) ?_
                refine lv_lload hx hb dX10_done_131 (lv_at hl 2 rfl) ?_
                refine lv_l2i hx hb dX10_done_133 rfl ?_
                refine lv_topi (fun v_1481 ev_1481 => ?_)
                have bv_1481 : (0 : Int) ≤ v_1481.toInt ∧ v_1481.toInt ≤ 16 := ba_l2i ev_1481 h_1430 (by decide)
                refine lv_lload hx hb dX10_done_134 (lv_at hl 1 rfl) ?_
                refine lv_l2i hx hb dX10_done_136 rfl ?_
                refine lv_topi (fun v_1482 ev_1482 => ?_)
                have bv_1482 : (0 : Int) ≤ v_1482.toInt ∧ v_1482.toInt ≤ 16 := ba_l2i ev_1482 h_1437 (by decide)
                refine cVim (As := [.int v_1481, .int v_1482]) (rest := []) ⟨hx, hb, hml, hown, hw0⟩ hA hK hP hD hS [true, true, true] (gmeet l G y _ ob v_1481 v_1482 ob_thrown ob_world ob_images ob_hasImage ob_tape ob_taped ob_five ob_size ob_at ob_from ob_token ob_value ob_faultKind ob_faultPlace ob_fresh ob_parts ob_houses ob_houseMany ob_worthOf ob_byCall ob_over ob_bestSet ob_bestOver ob_bestWorth ob_row ob_tenDebts ob_tenMany ob_fewestBy ob_covered ob_queue ob_cameBy ob_parent ob_met ob_calls ob_callMany ob_calledOn ob_saved ob_many ob_width ob_numbers ob_moving f_1304 f_1305 bf_1304 p_ob_taped p_ob_size p_ob_at p_ob_from p_ob_token p_ob_value p_ob_faultKind p_ob_houseMany p_ob_bestSet p_ob_bestOver p_ob_tenMany p_ob_callMany) rfl ⟨(callB_of 2 hw0 (gA m_558) rfl rfl rfl (hw0 _ m_41) (hw0 _ m_438) cb_X10_meet ⟨Nat.le_of_ble_eq_true rfl, Nat.le_of_ble_eq_true rfl⟩), (hw0 _ m_90), (hw0 _ m_91)⟩ (ci := 10) (q := (RX10, TX10, 41)) rfl rfl rfl hl.1 (Nat.le_of_ble_eq_true rfl) dX10_done_137 ⟨Nat.le_of_ble_eq_true rfl, Nat.le_of_ble_eq_true rfl⟩ (fun r_1483 w_1483 H locs hw_1483 hP hD hS => ?_)
                rcases hw_1483 with ⟨h_1484, h_1485, rfl, rfl⟩ | ⟨h_1486, h_1487, h_1488, h_1489, rfl, rfl⟩ | ⟨v_1490, f_1491, f_1492, bv_1490, bf_1491, h_1493, h_1494, h_1495, h_1496, h_1497, h_1498, er_1483, rfl⟩
                · skip
                  obtain ⟨hP, hD⟩ : vPD G A H [(ce_X10 ob ob_thrown ob_world ob_images ob_hasImage ob_tape ob_taped ob_five ob_size ob_at ob_from ob_token ob_value ob_faultKind ob_faultPlace ob_fresh ob_parts ob_houses ob_houseMany ob_worthOf ob_byCall ob_over ob_bestSet ob_bestOver ob_bestWorth ob_row ob_tenDebts ob_tenMany ob_fewestBy ob_covered ob_queue ob_cameBy ob_parent ob_met ob_calls ob_callMany ob_calledOn ob_saved ob_many ob_width ob_numbers ob_moving), (ce_i9080 y ob_world f_1304), (ce_i6 y ob_parts f_1305), (ce_i4 y ob_many fob_many), (ce_l240 y ob_numbers fob_numbers)] := ⟨hP, hD⟩
                  refine lv_goto (tgt := 156) hx hb dX10_done_140 (by decide) ?_
                  refine lv_istore (lv' := [(10, .int (-2)), (8, .long v_1422), (6, .long v_1417), (4, .long v_1412), (3, .int v_1302), (2, .int v_1303), (0, .ref ob), (1, .int 1)]) hx hb dX10_done_156 hl (by decide) rfl (fun ls hl => ?_)
                  refine lv_iload_n hx hb dX10_done_158 rfl (lv_at hl 5 rfl) ?_
                  refine lv_iload hx hb dX10_done_159 (lv_at hl 0 rfl) ?_
                  refine lv_if_lt (tgt := 168) hx hb dX10_done_161 (by decide) (fun _ => ?_) (fun c9 => absurd (by decide) c9)
                  refine lv_iconst (v := 0) hx hb dX10_done_168 (by decide) ?_
                  refine lv_iadd hx hb dX10_done_169 ?_
                  refine lv_topi (fun v_1499 ev_1499 => ?_)
                  have qv_1499 := ba_add ev_1499 bv_1303 (bkc (x := 0) (c := 0) (by decide)) (by decide)
                  have bv_1499 : (0 : Int) ≤ v_1499.toInt ∧ v_1499.toInt ≤ 60 := bq_add qv_1499 bv_1303 (bkc (x := 0) (c := 0) (by decide)) _ _ (by decide)
                  have qv_1499 : v_1499.toInt = v_1303.toInt + (0) := qv_1499
                  refine lv_istore_n (lv' := [(2, .int v_1499), (10, .int (-2)), (8, .long v_1422), (6, .long v_1417), (4, .long v_1412), (3, .int v_1302), (0, .ref ob), (1, .int 1)]) hx hb dX10_done_170 rfl hl (by decide) rfl (fun ls hl => ?_)
                  obtain ⟨v_1500, ev_1500⟩ : ∃ z : Int32, z = v_1302 + 3 := ⟨_, rfl⟩
                  have qv_1500 := ba_add ev_1500 h_1409 (bkc (x := 3) (c := 3) (by decide)) (by decide)
                  have bv_1500 : (3 : Int) ≤ v_1500.toInt ∧ v_1500.toInt ≤ 60 := bq_add qv_1500 h_1409 (bkc (x := 3) (c := 3) (by decide)) _ _ (by decide)
                  have qv_1500 : v_1500.toInt = v_1302.toInt + (3) := qv_1500
                  refine lv_iinc (v := v_1500) (lv' := [(3, .int v_1500), (2, .int v_1499), (10, .int (-2)), (8, .long v_1422), (6, .long v_1417), (4, .long v_1412), (0, .ref ob), (1, .int 1)]) hx hb dX10_done_171 hl (k := 5) rfl (ev_1500.symm) (by decide) rfl (fun ls hl => ?_)
                  refine lv_goto (tgt := 27) hx hb dX10_done_174 (by decide) ?_
                  exact ih_1405 _ (ml_inc (hi := 60) hn_1405 qv_1500 (by decide) ((bw (0) (60) bv_1500 (by decide))).2) _ _ _ _ ⟨v_1500, v_1499, f_1304, f_1305, rfl, (bw (0) (60) bv_1500 (by decide)), bv_1499, bf_1304, (by have h90 : Int32.toInt (-2) = -2 := (by decide); have h91 : Int32.toInt 1 = 1 := (by decide); have c0 : Int64.toInt 0 = 0 := (by decide); have c4 : Int64.toInt 4 = 4 := (by decide); have c16 : Int64.toInt 16 = 16 := (by decide); obtain ⟨m, g1, hm, T1, hR, hC⟩ := rl1305_0; have hs : tgd (gst f_1304 v_1412.toInt v_1417.toInt v_1422.toInt) f_1304 ∧ gsn f_1304 v_1412.toInt v_1417.toInt v_1422.toInt = 0 := (by have L0 : v_1481.toInt = v_1412.toInt := l2i_r ev_1481 (by omega) (by omega); have L1 : v_1482.toInt = v_1417.toInt := l2i_r ev_1482 (by omega) (by omega); have P4 : v_1422.toInt = 4 := (by omega); rw [P4, ← L0, ← L1]; exact ms_n (fun q => by have h9 := gok_w q; omega) tgd_r); obtain ⟨m2, g3, k1, k2, k3, k4⟩ := dm_step (i' := v_1500.toInt) (made' := v_1499.toInt) T1 (by have h9 := (bf_1304).1.1 0; have h8 : UBw 0 = 16 := (by decide); omega) hm (by omega) (by omega) (by omega) hR hC ((congrArg (fun q : Nat => (((fun i => fob_numbers (60 + i)) : Nat → Int64) q).toInt) (by omega)).trans E_1413) E_1418 E_1423 hs (by omega) (by omega); exact ⟨m2, g3, k1, k2, k3, k4⟩), (by omega), rl1305_2, rfl, ⟨hP, hD⟩, hS, lv_sub hl [0, 1, 6, 7] rfl⟩
                · skip
                  obtain ⟨hP, hD⟩ : vPD G A H [(ce_X10 ob ob_thrown ob_world ob_images ob_hasImage ob_tape ob_taped ob_five ob_size ob_at ob_from ob_token ob_value ob_faultKind ob_faultPlace ob_fresh ob_parts ob_houses ob_houseMany ob_worthOf ob_byCall ob_over ob_bestSet ob_bestOver ob_bestWorth ob_row ob_tenDebts ob_tenMany ob_fewestBy ob_covered ob_queue ob_cameBy ob_parent ob_met ob_calls ob_callMany ob_calledOn ob_saved ob_many ob_width ob_numbers ob_moving), (ce_i9080 y ob_world f_1304), (ce_i6 y ob_parts f_1305), (ce_i4 y ob_many fob_many), (ce_l240 y ob_numbers fob_numbers)] := ⟨hP, hD⟩
                  refine lv_goto (tgt := 156) hx hb dX10_done_140 (by decide) ?_
                  refine lv_istore (lv' := [(10, .int (-3)), (8, .long v_1422), (6, .long v_1417), (4, .long v_1412), (3, .int v_1302), (2, .int v_1303), (0, .ref ob), (1, .int 1)]) hx hb dX10_done_156 hl (by decide) rfl (fun ls hl => ?_)
                  refine lv_iload_n hx hb dX10_done_158 rfl (lv_at hl 5 rfl) ?_
                  refine lv_iload hx hb dX10_done_159 (lv_at hl 0 rfl) ?_
                  refine lv_if_lt (tgt := 168) hx hb dX10_done_161 (by decide) (fun _ => ?_) (fun c9 => absurd (by decide) c9)
                  refine lv_iconst (v := 0) hx hb dX10_done_168 (by decide) ?_
                  refine lv_iadd hx hb dX10_done_169 ?_
                  refine lv_topi (fun v_1501 ev_1501 => ?_)
                  have qv_1501 := ba_add ev_1501 bv_1303 (bkc (x := 0) (c := 0) (by decide)) (by decide)
                  have bv_1501 : (0 : Int) ≤ v_1501.toInt ∧ v_1501.toInt ≤ 60 := bq_add qv_1501 bv_1303 (bkc (x := 0) (c := 0) (by decide)) _ _ (by decide)
                  have qv_1501 : v_1501.toInt = v_1303.toInt + (0) := qv_1501
                  refine lv_istore_n (lv' := [(2, .int v_1501), (10, .int (-3)), (8, .long v_1422), (6, .long v_1417), (4, .long v_1412), (3, .int v_1302), (0, .ref ob), (1, .int 1)]) hx hb dX10_done_170 rfl hl (by decide) rfl (fun ls hl => ?_)
                  obtain ⟨v_1502, ev_1502⟩ : ∃ z : Int32, z = v_1302 + 3 := ⟨_, rfl⟩
                  have qv_1502 := ba_add ev_1502 h_1409 (bkc (x := 3) (c := 3) (by decide)) (by decide)
                  have bv_1502 : (3 : Int) ≤ v_1502.toInt ∧ v_1502.toInt ≤ 60 := bq_add qv_1502 h_1409 (bkc (x := 3) (c := 3) (by decide)) _ _ (by decide)
                  have qv_1502 : v_1502.toInt = v_1302.toInt + (3) := qv_1502
                  refine lv_iinc (v := v_1502) (lv' := [(3, .int v_1502), (2, .int v_1501), (10, .int (-3)), (8, .long v_1422), (6, .long v_1417), (4, .long v_1412), (0, .ref ob), (1, .int 1)]) hx hb dX10_done_171 hl (k := 5) rfl (ev_1502.symm) (by decide) rfl (fun ls hl => ?_)
                  refine lv_goto (tgt := 27) hx hb dX10_done_174 (by decide) ?_
                  exact ih_1405 _ (ml_inc (hi := 60) hn_1405 qv_1502 (by decide) ((bw (0) (60) bv_1502 (by decide))).2) _ _ _ _ ⟨v_1502, v_1501, f_1304, f_1305, rfl, (bw (0) (60) bv_1502 (by decide)), bv_1501, bf_1304, (by have h90 : Int32.toInt (-3) = -3 := (by decide); have h91 : Int32.toInt 1 = 1 := (by decide); have c0 : Int64.toInt 0 = 0 := (by decide); have c4 : Int64.toInt 4 = 4 := (by decide); have c16 : Int64.toInt 16 = 16 := (by decide); obtain ⟨m, g1, hm, T1, hR, hC⟩ := rl1305_0; have hs : tgd (gst f_1304 v_1412.toInt v_1417.toInt v_1422.toInt) f_1304 ∧ gsn f_1304 v_1412.toInt v_1417.toInt v_1422.toInt = 0 := (by have L0 : v_1481.toInt = v_1412.toInt := l2i_r ev_1481 (by omega) (by omega); have L1 : v_1482.toInt = v_1417.toInt := l2i_r ev_1482 (by omega) (by omega); have P4 : v_1422.toInt = 4 := (by omega); rw [P4, ← L0, ← L1]; exact ms_n (fun q => by have h9 := gok_w q; omega) tgd_r); obtain ⟨m2, g3, k1, k2, k3, k4⟩ := dm_step (i' := v_1502.toInt) (made' := v_1501.toInt) T1 (by have h9 := (bf_1304).1.1 0; have h8 : UBw 0 = 16 := (by decide); omega) hm (by omega) (by omega) (by omega) hR hC ((congrArg (fun q : Nat => (((fun i => fob_numbers (60 + i)) : Nat → Int64) q).toInt) (by omega)).trans E_1413) E_1418 E_1423 hs (by omega) (by omega); exact ⟨m2, g3, k1, k2, k3, k4⟩), (by omega), rl1305_2, rfl, ⟨hP, hD⟩, hS, lv_sub hl [0, 1, 6, 7] rfl⟩
                · skip
                  subst r_1483
                  obtain ⟨hP, hD⟩ : vPD G A H [(ce_X10 ob ob_thrown ob_world ob_images ob_hasImage ob_tape ob_taped ob_five ob_size ob_at ob_from ob_token ob_value ob_faultKind ob_faultPlace ob_fresh ob_parts ob_houses ob_houseMany ob_worthOf ob_byCall ob_over ob_bestSet ob_bestOver ob_bestWorth ob_row ob_tenDebts ob_tenMany ob_fewestBy ob_covered ob_queue ob_cameBy ob_parent ob_met ob_calls ob_callMany ob_calledOn ob_saved ob_many ob_width ob_numbers ob_moving), (ce_i9080 y ob_world f_1491), (ce_i6 y ob_parts f_1492), (ce_i4 y ob_many fob_many), (ce_l240 y ob_numbers fob_numbers)] := ⟨hP, hD⟩
                  refine lv_goto (tgt := 156) hx hb dX10_done_140 (by decide) ?_
                  refine lv_istore (lv' := [(10, .int v_1490), (8, .long v_1422), (6, .long v_1417), (4, .long v_1412), (3, .int v_1302), (2, .int v_1303), (0, .ref ob), (1, .int 1)]) hx hb dX10_done_156 hl (by decide) rfl (fun ls hl => ?_)
                  refine lv_iload_n hx hb dX10_done_158 rfl (lv_at hl 5 rfl) ?_
                  refine lv_iload hx hb dX10_done_159 (lv_at hl 0 rfl) ?_
                  refine lv_if_lt (tgt := 168) hx hb dX10_done_161 (by decide) (fun c9 => absurd c9 (dc_nlt bv_1490 (bkc (x := 0) (c := 0) (by decide)) (by decide))) (fun _ => ?_)
                  refine lv_iconst (v := 1) hx hb dX10_done_164 (by decide) ?_
                  refine lv_goto (tgt := 169) hx hb dX10_done_165 (by decide) ?_
                  refine lv_iadd hx hb dX10_done_169 ?_
                  refine lv_topi (fun v_1503 ev_1503 => ?_)
                  have qv_1503 := ba_add ev_1503 bv_1303 (bkc (x := 1) (c := 1) (by decide)) (by decide)
                  have bv_1503 : (1 : Int) ≤ v_1503.toInt ∧ v_1503.toInt ≤ 61 := bq_add qv_1503 bv_1303 (bkc (x := 1) (c := 1) (by decide)) _ _ (by decide)
                  have qv_1503 : v_1503.toInt = v_1303.toInt + (1) := qv_1503
                  have h_1504 : (0 : Int) ≤ v_1503.toInt ∧ v_1503.toInt ≤ 60 := by omega
                  refine lv_istore_n (lv' := [(2, .int v_1503), (10, .int v_1490), (8, .long v_1422), (6, .long v_1417), (4, .long v_1412), (3, .int v_1302), (0, .ref ob), (1, .int 1)]) hx hb dX10_done_170 rfl hl (by decide) rfl (fun ls hl => ?_)
                  obtain ⟨v_1505, ev_1505⟩ : ∃ z : Int32, z = v_1302 + 3 := ⟨_, rfl⟩
                  have qv_1505 := ba_add ev_1505 h_1409 (bkc (x := 3) (c := 3) (by decide)) (by decide)
                  have bv_1505 : (3 : Int) ≤ v_1505.toInt ∧ v_1505.toInt ≤ 60 := bq_add qv_1505 h_1409 (bkc (x := 3) (c := 3) (by decide)) _ _ (by decide)
                  have qv_1505 : v_1505.toInt = v_1302.toInt + (3) := qv_1505
                  refine lv_iinc (v := v_1505) (lv' := [(3, .int v_1505), (2, .int v_1503), (10, .int v_1490), (8, .long v_1422), (6, .long v_1417), (4, .long v_1412), (0, .ref ob), (1, .int 1)]) hx hb dX10_done_171 hl (k := 5) rfl (ev_1505.symm) (by decide) rfl (fun ls hl => ?_)
                  refine lv_goto (tgt := 27) hx hb dX10_done_174 (by decide) ?_
                  exact ih_1405 _ (ml_inc (hi := 60) hn_1405 qv_1505 (by decide) ((bw (0) (60) bv_1505 (by decide))).2) _ _ _ _ ⟨v_1505, v_1503, f_1491, f_1492, rfl, (bw (0) (60) bv_1505 (by decide)), h_1504, bf_1491, (by have h90 : Int32.toInt 1 = 1 := (by decide); have c0 : Int64.toInt 0 = 0 := (by decide); have c4 : Int64.toInt 4 = 4 := (by decide); have c16 : Int64.toInt 16 = 16 := (by decide); obtain ⟨m, g1, hm, T1, hR, hC⟩ := rl1305_0; have hs : tgd (gst f_1304 v_1412.toInt v_1417.toInt v_1422.toInt) f_1491 ∧ gsn f_1304 v_1412.toInt v_1417.toInt v_1422.toInt = 1 := (by have L0 : v_1481.toInt = v_1412.toInt := l2i_r ev_1481 (by omega) (by omega); have L1 : v_1482.toInt = v_1417.toInt := l2i_r ev_1482 (by omega) (by omega); have P4 : v_1422.toInt = 4 := (by omega); rw [P4, ← L0, ← L1]; exact ms_y (gok_m (by omega)) h_1496); obtain ⟨m2, g3, k1, k2, k3, k4⟩ := dm_step (i' := v_1505.toInt) (made' := v_1503.toInt) T1 (by have h9 := (bf_1304).1.1 0; have h8 : UBw 0 = 16 := (by decide); omega) hm (by omega) (by omega) (by omega) hR hC ((congrArg (fun q : Nat => (((fun i => fob_numbers (60 + i)) : Nat → Int64) q).toInt) (by omega)).trans E_1413) E_1418 E_1423 hs (by omega) (by omega); exact ⟨m2, g3, k1, k2, k3, k4⟩), (by omega), (wfr_t rl1305_2 h_1498), rfl, ⟨hP, hD⟩, hS, lv_sub hl [0, 1, 6, 7] rfl⟩
    · skip
      have nc_1006 := nb_eq (-1) (-1) c_1006 bv_1005 (bkc (x := (-1)) (c := -1) (by decide)) (by decide)
      refine lv_bipush (v := (-6)) hx hb dX10_done_20 (by decide) ?_
      exact W.iret (v := (-6)) hx hb hr (fun t ht hW => ⟨⟨(-6), _, rfl, Or.inl (⟨by have h90 : Int32.toInt (-6) = -6 := (by decide); have h91 : Int32.toInt 1 = 1 := (by decide); omega, wfr_r, rfl, rfl⟩), by rw [ht]; exact hP, hD⟩, hS.F ht⟩) hS.2.2 dX10_done_22
