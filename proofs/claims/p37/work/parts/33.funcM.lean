set_option maxHeartbeats 4000000 in
set_option maxRecDepth 100000 in
theorem fisSlotM (l : Launch) (G : va_G) (y : Nat → ClassId) (sz : Nat) (a1 : Int32)  : Met l yX10_isSlot (Cond.code yX10_isSlot cX10_isSlot 1 (some .boolean) :: wAll) ({ frames := 1, cells := 0, slots := 0, locals := 25 }) (va_Pc [.int a1] (kp G y sz [])) (va_Qi (fun (r : Int32) (w : va_W) => ((a1.toInt < 0 ∨ 3 < a1.toInt) ∧ r = 0 ∧ w = []) ∨ (((0 : Int) ≤ a1.toInt ∧ a1.toInt ≤ 3) ∧ (0 ≤ a1.toInt ∧ a1.toInt ≤ 3) ∧ r = 1 ∧ w = [])) (kq G (va_A [] sz)) (va_A [] sz)) 0 0 (va_A [] sz) := by
  refine Met.ofW (cc := cX10_isSlot) (maxL := 1) (ret := (some .boolean)) (by decide) rfl ?_
  intro p e s m args below meth c s₁ B hml hv
  obtain ⟨rfl, hsz, hP, hK, hD0⟩ := hv
  have hx := B.exec
  have hb := B.bytes
  have hr := B.returns
  have hw0 : ∀ w ∈ wAll, w.before _ s = true := fun w h => atoms_spec (ws := Cond.code yX10_isSlot cX10_isSlot 1 (some .boolean) :: wAll) B.pre w (List.mem_cons_of_mem _ h)
  have hown : s.vm.findClass RX10 = some m.cls := findClass_of_methodNamed B.named
  subst hsz
  have hD := hD0.self (sz := s.heap.size)
  generalize hAe : va_A [] s.heap.size = A at hD ⊢
  have hA : ∀ q : Nat, s.heap.size ≤ q → A q := fun q h => by rw [← hAe]; exact Or.inr h
  have hS : va_S A s.heap s.heap [] := va_S.rf
  have hP : va_P G vwCl [] s.heap := hP
  have hl := lv_entry ([.int a1]) (n := 1) (Nat.le_of_ble_eq_true rfl)
  rw [lg_entry_eq]
  generalize (lg_sl ([.int a1]) ++ List.replicate (1 - (lg_sl ([.int a1])).length) Slot.unset).toArray = ls at hl ⊢
  have hl : lv_has ls 1 [(0, .int a1)] := hl
  refine lv_iload_n hx hb dX10_isSlot_0 rfl (lv_at hl 0 rfl) ?_
  refine lv_i2l hx hb dX10_isSlot_1 rfl ?_
  refine lv_lconst (v := 0) hx hb dX10_isSlot_2 (by decide) ?_
  refine lv_ldc2 (own := RX10) (v := 3) hx hb hown (hw0 _ m_398) dX10_isSlot_3 ?_
  refine cSim (As := [.long (a1).toInt64, .long 0, .long 3]) (rest := []) ⟨hx, hb, hml, hown, hw0⟩ hA hK hP hD hS [] (sX10_in l G y _ ((a1).toInt64) 0 3 ) rfl ⟨(callB_of 3 hw0 (gA m_516) rfl rfl rfl (hw0 _ m_41) (hw0 _ m_345) cb_X10_in ⟨Nat.le_of_ble_eq_true rfl, Nat.le_of_ble_eq_true rfl⟩), (hw0 _ m_346)⟩ rfl hl.1 (Nat.le_of_ble_eq_true rfl) dX10_isSlot_6 ⟨Nat.le_of_ble_eq_true rfl, Nat.le_of_ble_eq_true rfl⟩ (fun r_1001 w_1001 H locs hw_1001 hP hD hS => ?_)
  rcases hw_1001 with ⟨h_1002, rfl, rfl⟩ | ⟨h_1003, rfl, rfl⟩
  · skip
    have h_1004 : a1.toInt < (0 : Int) ∨ (3 : Int) < a1.toInt := in_n h_1002 (Int32.toInt_toInt64 _) (by decide) (by decide)
    obtain ⟨hP, hD⟩ : vPD G A H [] := ⟨hP, hD⟩
    exact W.zret (v := 0) hx hb hr rfl (fun t ht hW => ⟨⟨0, _, rfl, Or.inl (⟨by have h90 : Int32.toInt 0 = 0 := (by decide); omega, rfl, rfl⟩), by rw [ht]; exact hP, hD⟩, hS.F ht⟩) hS.2.2 dX10_isSlot_9
  · skip
    have h_1005 : (0 : Int) ≤ a1.toInt ∧ a1.toInt ≤ (3 : Int) := in_y h_1003 (Int32.toInt_toInt64 _) (by decide) (by decide)
    have h_1006_0 := (btop a1)
    have h_1006_1 := True.intro
    have h_1006_2 := True.intro
    have h_1006 : (0 : Int) ≤ a1.toInt ∧ a1.toInt ≤ 3 := by omega
    obtain ⟨hP, hD⟩ : vPD G A H [] := ⟨hP, hD⟩
    exact W.zret (v := 1) hx hb hr rfl (fun t ht hW => ⟨⟨1, _, rfl, Or.inr (⟨h_1006, by have h90 : Int32.toInt 1 = 1 := (by decide); omega, rfl, rfl⟩), by rw [ht]; exact hP, hD⟩, hS.F ht⟩) hS.2.2 dX10_isSlot_9

set_option maxHeartbeats 4000000 in
set_option maxRecDepth 100000 in
theorem ffeedM (l : Launch) (G : va_G) (y : Nat → ClassId) (sz : Nat) (ob : Nat) (a1 : Int32) (a2 : Int32) (a3 : Int32) (a4 : Int32) (a5 : Int32) (ob_thrown : Int32) (ob_world : Nat) (ob_images : Nat) (ob_hasImage : Nat) (ob_tape : Nat) (ob_taped : Int32) (ob_five : Nat) (ob_size : Int32) (ob_at : Int32) (ob_from : Int32) (ob_token : Int32) (ob_value : Int32) (ob_faultKind : Int32) (ob_faultPlace : Int32) (ob_fresh : Nat) (ob_parts : Nat) (ob_houses : Nat) (ob_houseMany : Int32) (ob_worthOf : Nat) (ob_byCall : Nat) (ob_over : Nat) (ob_bestSet : Int32) (ob_bestOver : Int32) (ob_bestWorth : Int32) (ob_row : Nat) (ob_tenDebts : Nat) (ob_tenMany : Int32) (ob_fewestBy : Nat) (ob_covered : Nat) (ob_queue : Nat) (ob_cameBy : Nat) (ob_parent : Nat) (ob_met : Nat) (ob_calls : Nat) (ob_callMany : Int32) (ob_calledOn : Nat) (ob_saved : Nat) (ob_many : Nat) (ob_width : Nat) (ob_numbers : Nat) (ob_moving : Nat) (fob_tape : Nat → Int32) (fob_five : Nat → Int32) (p_ob_taped : (0 : Int) ≤ ob_taped.toInt ∧ ob_taped.toInt ≤ 1400) (p_ob_size : (0 : Int) ≤ ob_size.toInt ∧ ob_size.toInt ≤ 1400) (p_ob_at : (0 : Int) ≤ ob_at.toInt ∧ ob_at.toInt ≤ 1400) (p_ob_from : (0 : Int) ≤ ob_from.toInt ∧ ob_from.toInt ≤ 1400) (p_ob_token : (0 : Int) ≤ ob_token.toInt ∧ ob_token.toInt ≤ 4) (p_ob_value : (0 : Int) ≤ ob_value.toInt ∧ ob_value.toInt ≤ 9999) (p_ob_faultKind : (0 : Int) ≤ ob_faultKind.toInt ∧ ob_faultKind.toInt ≤ 3) (p_ob_houseMany : (0 : Int) ≤ ob_houseMany.toInt ∧ ob_houseMany.toInt ≤ 10) (p_ob_bestSet : (0 : Int) ≤ ob_bestSet.toInt ∧ ob_bestSet.toInt ≤ 1023) (p_ob_bestOver : (-1 : Int) ≤ ob_bestOver.toInt ∧ ob_bestOver.toInt ≤ 180) (p_ob_tenMany : (0 : Int) ≤ ob_tenMany.toInt ∧ ob_tenMany.toInt ≤ 10) (p_ob_callMany : (0 : Int) ≤ ob_callMany.toInt ∧ ob_callMany.toInt ≤ 16) : Met l yX10_feed (Cond.code yX10_feed cX10_feed 7 (some .int) :: wAll) ({ frames := 0, cells := 0, slots := 0, locals := 0 }) (va_Pc [.ref ob, .int a1, .int a2, .int a3, .int a4, .int a5] (kp G y sz [(ce_X10 ob ob_thrown ob_world ob_images ob_hasImage ob_tape ob_taped ob_five ob_size ob_at ob_from ob_token ob_value ob_faultKind ob_faultPlace ob_fresh ob_parts ob_houses ob_houseMany ob_worthOf ob_byCall ob_over ob_bestSet ob_bestOver ob_bestWorth ob_row ob_tenDebts ob_tenMany ob_fewestBy ob_covered ob_queue ob_cameBy ob_parent ob_met ob_calls ob_callMany ob_calledOn ob_saved ob_many ob_width ob_numbers ob_moving), (ce_b1400 y ob_tape fob_tape), (ce_i5 y ob_five fob_five)])) (va_Qi (fun (r : Int32) (w : va_W) => (∃ (v_355 : Int32) (v_356 : Int32) (f_357 : Nat → Int32) (f_358 : Nat → Int32), ((-1 : Int) ≤ v_355.toInt ∧ v_355.toInt ≤ 1400) ∧ ((20 : Int) ≤ v_356.toInt ∧ v_356.toInt ≤ 1400) ∧ (((v_355 : Int32).toInt = -1 ∧ v_356.toInt = ob_taped.toInt ∧ 1380 < ob_taped.toInt) ∨ ((v_355 : Int32).toInt = v_356.toInt ∧ v_356.toInt = ob_taped.toInt + 20 ∧ ob_taped.toInt ≤ 1380)) ∧ r = v_355 ∧ w = [(ce_X10 ob ob_thrown ob_world ob_images ob_hasImage ob_tape v_356 ob_five ob_size ob_at ob_from ob_token ob_value ob_faultKind ob_faultPlace ob_fresh ob_parts ob_houses ob_houseMany ob_worthOf ob_byCall ob_over ob_bestSet ob_bestOver ob_bestWorth ob_row ob_tenDebts ob_tenMany ob_fewestBy ob_covered ob_queue ob_cameBy ob_parent ob_met ob_calls ob_callMany ob_calledOn ob_saved ob_many ob_width ob_numbers ob_moving), (ce_b1400 y ob_tape f_357), (ce_i5 y ob_five f_358)])) (kq G (va_A [(ce_X10 ob ob_thrown ob_world ob_images ob_hasImage ob_tape ob_taped ob_five ob_size ob_at ob_from ob_token ob_value ob_faultKind ob_faultPlace ob_fresh ob_parts ob_houses ob_houseMany ob_worthOf ob_byCall ob_over ob_bestSet ob_bestOver ob_bestWorth ob_row ob_tenDebts ob_tenMany ob_fewestBy ob_covered ob_queue ob_cameBy ob_parent ob_met ob_calls ob_callMany ob_calledOn ob_saved ob_many ob_width ob_numbers ob_moving), (ce_b1400 y ob_tape fob_tape), (ce_i5 y ob_five fob_five)] sz)) (va_A [(ce_X10 ob ob_thrown ob_world ob_images ob_hasImage ob_tape ob_taped ob_five ob_size ob_at ob_from ob_token ob_value ob_faultKind ob_faultPlace ob_fresh ob_parts ob_houses ob_houseMany ob_worthOf ob_byCall ob_over ob_bestSet ob_bestOver ob_bestWorth ob_row ob_tenDebts ob_tenMany ob_fewestBy ob_covered ob_queue ob_cameBy ob_parent ob_met ob_calls ob_callMany ob_calledOn ob_saved ob_many ob_width ob_numbers ob_moving), (ce_b1400 y ob_tape fob_tape), (ce_i5 y ob_five fob_five)] sz)) 0 0 (va_A [(ce_X10 ob ob_thrown ob_world ob_images ob_hasImage ob_tape ob_taped ob_five ob_size ob_at ob_from ob_token ob_value ob_faultKind ob_faultPlace ob_fresh ob_parts ob_houses ob_houseMany ob_worthOf ob_byCall ob_over ob_bestSet ob_bestOver ob_bestWorth ob_row ob_tenDebts ob_tenMany ob_fewestBy ob_covered ob_queue ob_cameBy ob_parent ob_met ob_calls ob_callMany ob_calledOn ob_saved ob_many ob_width ob_numbers ob_moving), (ce_b1400 y ob_tape fob_tape), (ce_i5 y ob_five fob_five)] sz) := by
  refine Met.ofW (cc := cX10_feed) (maxL := 7) (ret := (some .int)) (by decide) rfl ?_
  intro p e s m args below meth c s₁ B hml hv
  obtain ⟨rfl, hsz, hP, hK, hD0⟩ := hv
  have hx := B.exec
  have hb := B.bytes
  have hr := B.returns
  have hw0 : ∀ w ∈ wAll, w.before _ s = true := fun w h => atoms_spec (ws := Cond.code yX10_feed cX10_feed 7 (some .int) :: wAll) B.pre w (List.mem_cons_of_mem _ h)
  have hown : s.vm.findClass RX10 = some m.cls := findClass_of_methodNamed B.named
  subst hsz
  have hD := hD0.self (sz := s.heap.size)
  generalize hAe : va_A [(ce_X10 ob ob_thrown ob_world ob_images ob_hasImage ob_tape ob_taped ob_five ob_size ob_at ob_from ob_token ob_value ob_faultKind ob_faultPlace ob_fresh ob_parts ob_houses ob_houseMany ob_worthOf ob_byCall ob_over ob_bestSet ob_bestOver ob_bestWorth ob_row ob_tenDebts ob_tenMany ob_fewestBy ob_covered ob_queue ob_cameBy ob_parent ob_met ob_calls ob_callMany ob_calledOn ob_saved ob_many ob_width ob_numbers ob_moving), (ce_b1400 y ob_tape fob_tape), (ce_i5 y ob_five fob_five)] s.heap.size = A at hD ⊢
  have hA : ∀ q : Nat, s.heap.size ≤ q → A q := fun q h => by rw [← hAe]; exact Or.inr h
  have hS : va_S A s.heap s.heap [] := va_S.rf
  have hP : va_P G vwCl [(ce_X10 ob ob_thrown ob_world ob_images ob_hasImage ob_tape ob_taped ob_five ob_size ob_at ob_from ob_token ob_value ob_faultKind ob_faultPlace ob_fresh ob_parts ob_houses ob_houseMany ob_worthOf ob_byCall ob_over ob_bestSet ob_bestOver ob_bestWorth ob_row ob_tenDebts ob_tenMany ob_fewestBy ob_covered ob_queue ob_cameBy ob_parent ob_met ob_calls ob_callMany ob_calledOn ob_saved ob_many ob_width ob_numbers ob_moving), (ce_b1400 y ob_tape fob_tape), (ce_i5 y ob_five fob_five)] s.heap := hP
  have hl := lv_entry ([.ref ob, .int a1, .int a2, .int a3, .int a4, .int a5]) (n := 7) (Nat.le_of_ble_eq_true rfl)
  rw [lg_entry_eq]
  generalize (lg_sl ([.ref ob, .int a1, .int a2, .int a3, .int a4, .int a5]) ++ List.replicate (7 - (lg_sl ([.ref ob, .int a1, .int a2, .int a3, .int a4, .int a5])).length) Slot.unset).toArray = ls at hl ⊢
  have hl : lv_has ls 7 [(0, .ref ob), (1, .int a1), (2, .int a2), (3, .int a3), (4, .int a4), (5, .int a5)] := hl
  refine lv_aload_n hx hb dX10_feed_0 rfl (lv_at hl 0 rfl) ?_
  refine va_get (D := G) (ci := 10) (v := .int ob_taped) (C := RX10) (T := TX10) (N := 41) hx hb hw0 inA_wsX100 hown hK.1 hP 0 rfl rfl 5 (by decide) (hw0 _ m_405) (fun _ h9 => h9) rfl dX10_feed_1 ?_
  refine lv_bipush (v := 20) hx hb dX10_feed_4 (by decide) ?_
  refine lv_iadd hx hb dX10_feed_6 ?_
  refine lv_topi (fun v_1001 ev_1001 => ?_)
  have qv_1001 := ba_add ev_1001 p_ob_taped (bkc (x := 20) (c := 20) (by decide)) (by decide)
  have bv_1001 : (20 : Int) ≤ v_1001.toInt ∧ v_1001.toInt ≤ 1420 := bq_add qv_1001 p_ob_taped (bkc (x := 20) (c := 20) (by decide)) _ _ (by decide)
  have qv_1001 : v_1001.toInt = ob_taped.toInt + (20) := qv_1001
  refine lv_sipush (v := 1400) hx hb dX10_feed_7 (by decide) ?_
  refine lv_icmp_le (tgt := 15) hx hb dX10_feed_10 (by decide) (fun c_1002 => ?_) (fun c_1002 => ?_)
  · skip
    have nc_1002 := nb_le (1400) (1400) c_1002 bv_1001 (bkc (x := 1400) (c := 1400) (by decide)) (by decide)
    have h_1003 : (0 : Int) ≤ ob_taped.toInt ∧ ob_taped.toInt ≤ 1380 := bq_in1 qv_1001 nc_1002.1 p_ob_taped (bkc (x := 20) (c := 20) (by decide)) (by decide)
    refine lv_aload_n hx hb dX10_feed_15 rfl (lv_at hl 0 rfl) ?_
    refine va_get (D := G) (ci := 10) (v := .ref ob_five) (C := RX10) (T := TX10) (N := 41) hx hb hw0 inA_wsX100 hown hK.1 hP 0 rfl rfl 6 (by decide) (hw0 _ m_460) (fun _ h9 => h9) rfl dX10_feed_16 ?_
    refine lv_iconst (v := 0) hx hb dX10_feed_19 (by decide) ?_
    refine lv_iload_n hx hb dX10_feed_20 rfl (lv_at hl 1 rfl) ?_
    refine va_iast hx hb hK.1 hP hD hS 2 1 rfl rfl (vi (bkc (x := 0) (c := 0) (by decide)) (by decide)) dX10_feed_21 (fun H locs hP hD hS => ?_)
    generalize hf_1004 : (upd fob_five (0 : Int32).toNatClampNeg a1) = f_1004 at hP hD
    obtain ⟨hP, hD⟩ : vPD G A H [(ce_X10 ob ob_thrown ob_world ob_images ob_hasImage ob_tape ob_taped ob_five ob_size ob_at ob_from ob_token ob_value ob_faultKind ob_faultPlace ob_fresh ob_parts ob_houses ob_houseMany ob_worthOf ob_byCall ob_over ob_bestSet ob_bestOver ob_bestWorth ob_row ob_tenDebts ob_tenMany ob_fewestBy ob_covered ob_queue ob_cameBy ob_parent ob_met ob_calls ob_callMany ob_calledOn ob_saved ob_many ob_width ob_numbers ob_moving), (ce_b1400 y ob_tape fob_tape), (ce_i5 y ob_five f_1004)] := ⟨hP, hD⟩
    refine lv_aload_n hx hb dX10_feed_22 rfl (lv_at hl 0 rfl) ?_
    refine va_get (D := G) (ci := 10) (v := .ref ob_five) (C := RX10) (T := TX10) (N := 41) hx hb hw0 inA_wsX100 hown hK.1 hP 0 rfl rfl 6 (by decide) (hw0 _ m_460) (fun _ h9 => h9) rfl dX10_feed_23 ?_
    refine lv_iconst (v := 1) hx hb dX10_feed_26 (by decide) ?_
    refine lv_iload_n hx hb dX10_feed_27 rfl (lv_at hl 2 rfl) ?_
    refine va_iast hx hb hK.1 hP hD hS 2 1 rfl rfl (vi (bkc (x := 1) (c := 1) (by decide)) (by decide)) dX10_feed_28 (fun H locs hP hD hS => ?_)
    generalize hf_1005 : (upd f_1004 (1 : Int32).toNatClampNeg a2) = f_1005 at hP hD
    obtain ⟨hP, hD⟩ : vPD G A H [(ce_X10 ob ob_thrown ob_world ob_images ob_hasImage ob_tape ob_taped ob_five ob_size ob_at ob_from ob_token ob_value ob_faultKind ob_faultPlace ob_fresh ob_parts ob_houses ob_houseMany ob_worthOf ob_byCall ob_over ob_bestSet ob_bestOver ob_bestWorth ob_row ob_tenDebts ob_tenMany ob_fewestBy ob_covered ob_queue ob_cameBy ob_parent ob_met ob_calls ob_callMany ob_calledOn ob_saved ob_many ob_width ob_numbers ob_moving), (ce_b1400 y ob_tape fob_tape), (ce_i5 y ob_five f_1005)] := ⟨hP, hD⟩
    refine lv_aload_n hx hb dX10_feed_29 rfl (lv_at hl 0 rfl) ?_
    refine va_get (D := G) (ci := 10) (v := .ref ob_five) (C := RX10) (T := TX10) (N := 41) hx hb hw0 inA_wsX100 hown hK.1 hP 0 rfl rfl 6 (by decide) (hw0 _ m_460) (fun _ h9 => h9) rfl dX10_feed_30 ?_
    refine lv_iconst (v := 2) hx hb dX10_feed_33 (by decide) ?_
    refine lv_iload_n hx hb dX10_feed_34 rfl (lv_at hl 3 rfl) ?_
    refine va_iast hx hb hK.1 hP hD hS 2 1 rfl rfl (vi (bkc (x := 2) (c := 2) (by decide)) (by decide)) dX10_feed_35 (fun H locs hP hD hS => ?_)
    generalize hf_1006 : (upd f_1005 (2 : Int32).toNatClampNeg a3) = f_1006 at hP hD
    obtain ⟨hP, hD⟩ : vPD G A H [(ce_X10 ob ob_thrown ob_world ob_images ob_hasImage ob_tape ob_taped ob_five ob_size ob_at ob_from ob_token ob_value ob_faultKind ob_faultPlace ob_fresh ob_parts ob_houses ob_houseMany ob_worthOf ob_byCall ob_over ob_bestSet ob_bestOver ob_bestWorth ob_row ob_tenDebts ob_tenMany ob_fewestBy ob_covered ob_queue ob_cameBy ob_parent ob_met ob_calls ob_callMany ob_calledOn ob_saved ob_many ob_width ob_numbers ob_moving), (ce_b1400 y ob_tape fob_tape), (ce_i5 y ob_five f_1006)] := ⟨hP, hD⟩
    refine lv_aload_n hx hb dX10_feed_36 rfl (lv_at hl 0 rfl) ?_
    refine va_get (D := G) (ci := 10) (v := .ref ob_five) (C := RX10) (T := TX10) (N := 41) hx hb hw0 inA_wsX100 hown hK.1 hP 0 rfl rfl 6 (by decide) (hw0 _ m_460) (fun _ h9 => h9) rfl dX10_feed_37 ?_
    refine lv_iconst (v := 3) hx hb dX10_feed_40 (by decide) ?_
    refine lv_iload hx hb dX10_feed_41 (lv_at hl 4 rfl) ?_
    refine va_iast hx hb hK.1 hP hD hS 2 1 rfl rfl (vi (bkc (x := 3) (c := 3) (by decide)) (by decide)) dX10_feed_43 (fun H locs hP hD hS => ?_)
    generalize hf_1007 : (upd f_1006 (3 : Int32).toNatClampNeg a4) = f_1007 at hP hD
    obtain ⟨hP, hD⟩ : vPD G A H [(ce_X10 ob ob_thrown ob_world ob_images ob_hasImage ob_tape ob_taped ob_five ob_size ob_at ob_from ob_token ob_value ob_faultKind ob_faultPlace ob_fresh ob_parts ob_houses ob_houseMany ob_worthOf ob_byCall ob_over ob_bestSet ob_bestOver ob_bestWorth ob_row ob_tenDebts ob_tenMany ob_fewestBy ob_covered ob_queue ob_cameBy ob_parent ob_met ob_calls ob_callMany ob_calledOn ob_saved ob_many ob_width ob_numbers ob_moving), (ce_b1400 y ob_tape fob_tape), (ce_i5 y ob_five f_1007)] := ⟨hP, hD⟩
    refine lv_aload_n hx hb dX10_feed_44 rfl (lv_at hl 0 rfl) ?_
    refine va_get (D := G) (ci := 10) (v := .ref ob_five) (C := RX10) (T := TX10) (N := 41) hx hb hw0 inA_wsX100 hown hK.1 hP 0 rfl rfl 6 (by decide) (hw0 _ m_460) (fun _ h9 => h9) rfl dX10_feed_45 ?_
    refine lv_iconst (v := 4) hx hb dX10_feed_48 (by decide) ?_
    refine lv_iload hx hb dX10_feed_49 (lv_at hl 5 rfl) ?_
    refine va_iast hx hb hK.1 hP hD hS 2 1 rfl rfl (vi (bkc (x := 4) (c := 4) (by decide)) (by decide)) dX10_feed_51 (fun H locs hP hD hS => ?_)
    generalize hf_1008 : (upd f_1007 (4 : Int32).toNatClampNeg a5) = f_1008 at hP hD
    obtain ⟨hP, hD⟩ : vPD G A H [(ce_X10 ob ob_thrown ob_world ob_images ob_hasImage ob_tape ob_taped ob_five ob_size ob_at ob_from ob_token ob_value ob_faultKind ob_faultPlace ob_fresh ob_parts ob_houses ob_houseMany ob_worthOf ob_byCall ob_over ob_bestSet ob_bestOver ob_bestWorth ob_row ob_tenDebts ob_tenMany ob_fewestBy ob_covered ob_queue ob_cameBy ob_parent ob_met ob_calls ob_callMany ob_calledOn ob_saved ob_many ob_width ob_numbers ob_moving), (ce_b1400 y ob_tape fob_tape), (ce_i5 y ob_five f_1008)] := ⟨hP, hD⟩
    refine lv_iconst (v := 0) hx hb dX10_feed_52 (by decide) ?_
    refine lv_istore (lv' := [(6, .int 0), (0, .ref ob), (1, .int a1), (2, .int a2), (3, .int a3), (4, .int a4), (5, .int a5)]) hx hb dX10_feed_53 hl (by decide) rfl (fun ls hl => ?_)
    refine loopX (fun n H locs ls st => ∃ (v_1152 : Int32) (f_1153 : Nat → Int32), (20 - v_1152.toInt).toNat = n ∧ ((0 : Int) ≤ v_1152.toInt ∧ v_1152.toInt ≤ 20) ∧ st = [] ∧ vPD G A H [(ce_X10 ob ob_thrown ob_world ob_images ob_hasImage ob_tape ob_taped ob_five ob_size ob_at ob_from ob_token ob_value ob_faultKind ob_faultPlace ob_fresh ob_parts ob_houses ob_houseMany ob_worthOf ob_byCall ob_over ob_bestSet ob_bestOver ob_bestWorth ob_row ob_tenDebts ob_tenMany ob_fewestBy ob_covered ob_queue ob_cameBy ob_parent ob_met ob_calls ob_callMany ob_calledOn ob_saved ob_many ob_width ob_numbers ob_moving), (ce_b1400 y ob_tape f_1153), (ce_i5 y ob_five f_1008)] ∧ va_S A s.heap H locs ∧ lv_has ls 7 [(6, .int v_1152), (0, .ref ob)]) ?_ (n := (20 - (0 : Int32).toInt).toNat) ⟨0, fob_tape, rfl, (bw (0) (20) (bkc (x := 0) (c := 0) (by decide)) (by decide)), rfl, ⟨hP, hD⟩, hS, lv_sub hl [0, 1] rfl⟩
    rintro n ih_1164 H locs ls st ⟨v_1152, f_1153, hn_1164, bv_1152, rfl, ⟨hP, hD⟩, hS, hl⟩
    refine lv_iload hx hb dX10_feed_55 (lv_at hl 0 rfl) ?_
    refine lv_bipush (v := 20) hx hb dX10_feed_57 (by decide) ?_
    refine lv_icmp_ge (tgt := 101) hx hb dX10_feed_59 (by decide) (fun c_1165 => ?_) (fun c_1165 => ?_)
    · skip
      have nc_1165 := nb_le (20) (20) c_1165 (bkc (x := 20) (c := 20) (by decide)) bv_1152 (by decide)
      refine lv_aload_n hx hb dX10_feed_101 rfl (lv_at hl 1 rfl) ?_
      refine lv_dup hx hb dX10_feed_102 rfl ?_
      refine va_get (D := G) (ci := 10) (v := .int ob_taped) (C := RX10) (T := TX10) (N := 41) hx hb hw0 inA_wsX100 hown hK.1 hP 0 rfl rfl 5 (by decide) (hw0 _ m_405) (fun _ h9 => h9) rfl dX10_feed_103 ?_
      refine lv_bipush (v := 20) hx hb dX10_feed_106 (by decide) ?_
      refine lv_iadd hx hb dX10_feed_108 ?_
      refine lv_topi (fun v_1166 ev_1166 => ?_)
      obtain rfl : v_1001 = v_1166 := (ev_1166.trans (ev_1001.symm)).symm
      refine va_put (D := G) (ci := 10) (v := .int v_1001) (ty := .int) (C := RX10) (T := TX10) (N := 41) hx hb hw0 inA_wsX100 tyX10 tyX10_ok nmX10 hown hK.1 hP hD hS 0 rfl rfl 5 (by decide) (hw0 _ m_405) (fun _ h9 => h9) rfl fd_X10_5 rfl rfl (Nat.le_of_ble_eq_true rfl) dX10_feed_109 (fun H locs hP hD hS => ?_)
      obtain ⟨hP, hD⟩ : vPD G A H [(ce_X10 ob ob_thrown ob_world ob_images ob_hasImage ob_tape v_1001 ob_five ob_size ob_at ob_from ob_token ob_value ob_faultKind ob_faultPlace ob_fresh ob_parts ob_houses ob_houseMany ob_worthOf ob_byCall ob_over ob_bestSet ob_bestOver ob_bestWorth ob_row ob_tenDebts ob_tenMany ob_fewestBy ob_covered ob_queue ob_cameBy ob_parent ob_met ob_calls ob_callMany ob_calledOn ob_saved ob_many ob_width ob_numbers ob_moving), (ce_b1400 y ob_tape f_1153), (ce_i5 y ob_five f_1008)] := ⟨hP, hD⟩
      refine lv_aload_n hx hb dX10_feed_112 rfl (lv_at hl 1 rfl) ?_
      refine va_get (D := G) (ci := 10) (v := .int v_1001) (C := RX10) (T := TX10) (N := 41) hx hb hw0 inA_wsX100 hown hK.1 hP 0 rfl rfl 5 (by decide) (hw0 _ m_405) (fun _ h9 => h9) rfl dX10_feed_113 ?_
      exact W.iret (v := v_1001) hx hb hr (fun t ht hW => ⟨⟨v_1001, _, rfl, ⟨v_1001, v_1001, f_1153, f_1008, (bw (-1) (1400) nc_1002.1 (by decide)), nc_1002.1, by omega, rfl, rfl⟩, by rw [ht]; exact hP, hD⟩, hS.F ht⟩) hS.2.2 dX10_feed_116
    · skip
      have nc_1165 := nb_nle (19) (20) c_1165 bv_1152 (bkc (x := 20) (c := 20) (by decide)) (by decide)
      refine lv_aload_n hx hb dX10_feed_62 rfl (lv_at hl 1 rfl) ?_
      refine va_get (D := G) (ci := 10) (v := .ref ob_tape) (C := RX10) (T := TX10) (N := 41) hx hb hw0 inA_wsX100 hown hK.1 hP 0 rfl rfl 4 (by decide) (hw0 _ m_461) (fun _ h9 => h9) rfl dX10_feed_63 ?_
      refine lv_aload_n hx hb dX10_feed_66 rfl (lv_at hl 1 rfl) ?_
      refine va_get (D := G) (ci := 10) (v := .int ob_taped) (C := RX10) (T := TX10) (N := 41) hx hb hw0 inA_wsX100 hown hK.1 hP 0 rfl rfl 5 (by decide) (hw0 _ m_405) (fun _ h9 => h9) rfl dX10_feed_67 ?_
      refine lv_iload hx hb dX10_feed_70 (lv_at hl 0 rfl) ?_
      refine lv_iadd hx hb dX10_feed_72 ?_
      refine lv_topi (fun v_1167 ev_1167 => ?_)
      have qv_1167 := ba_add ev_1167 h_1003 nc_1165.1 (by decide)
      have bv_1167 : (0 : Int) ≤ v_1167.toInt ∧ v_1167.toInt ≤ 1399 := bq_add qv_1167 h_1003 nc_1165.1 _ _ (by decide)
      refine lv_aload_n hx hb dX10_feed_73 rfl (lv_at hl 1 rfl) ?_
      refine va_get (D := G) (ci := 10) (v := .ref ob_five) (C := RX10) (T := TX10) (N := 41) hx hb hw0 inA_wsX100 hown hK.1 hP 0 rfl rfl 6 (by decide) (hw0 _ m_460) (fun _ h9 => h9) rfl dX10_feed_74 ?_
      refine lv_iload hx hb dX10_feed_77 (lv_at hl 0 rfl) ?_
      refine lv_iconst (v := 4) hx hb dX10_feed_79 (by decide) ?_
      refine lv_idiv hx hb dX10_feed_80 (by decide) ?_
      refine lv_topi (fun v_1168 ev_1168 => ?_)
      have bv_1168 : (0 : Int) ≤ v_1168.toInt ∧ v_1168.toInt ≤ 4 := ba_div 4 ev_1168 nc_1165.1 (by decide) (by decide) (by decide) 4 (by decide)
      refine va_iald hx hb hK.1 hP 2 1 rfl rfl (vi bv_1168 (by decide)) dX10_feed_81 ?_
      refine lv_topi (fun v_1169 ev_1169 => ?_)
      refine lv_bipush (v := 24) hx hb dX10_feed_82 (by decide) ?_
      refine lv_bipush (v := 8) hx hb dX10_feed_84 (by decide) ?_
      refine lv_iload hx hb dX10_feed_86 (lv_at hl 0 rfl) ?_
      refine lv_iconst (v := 4) hx hb dX10_feed_88 (by decide) ?_
      refine lv_irem hx hb dX10_feed_89 (by decide) ?_
      refine lv_topi (fun v_1170 ev_1170 => ?_)
      have bv_1170 : (0 : Int) ≤ v_1170.toInt ∧ v_1170.toInt ≤ 3 := ba_rem 4 ev_1170 nc_1165.1 (by decide) (by decide) (by decide)
      refine lv_imul hx hb dX10_feed_90 ?_
      refine lv_topi (fun v_1171 ev_1171 => ?_)
      have qv_1171 := ba_mul 8 (ev_1171.trans (Int32.mul_comm _ _)) bv_1170 (by decide) (by decide) (by decide)
      have bv_1171 : (0 : Int) ≤ v_1171.toInt ∧ v_1171.toInt ≤ 24 := qv_1171.2
      refine lv_isub hx hb dX10_feed_91 ?_
      refine lv_topi (fun v_1172 ev_1172 => ?_)
      have qv_1172 := ba_sub ev_1172 (bkc (x := 24) (c := 24) (by decide)) bv_1171 (by decide)
      have bv_1172 : (0 : Int) ≤ v_1172.toInt ∧ v_1172.toInt ≤ 24 := bq_sub qv_1172 (bkc (x := 24) (c := 24) (by decide)) bv_1171 _ _ (by decide)
      have qv_1172 : v_1172.toInt = (24) - v_1171.toInt := qv_1172
      refine lv_ishr hx hb dX10_feed_92 ?_
      refine lv_topi (fun v_1173 ev_1173 => ?_)
      refine lv_i2b hx hb dX10_feed_93 rfl ?_
      refine lv_topi (fun v_1174 ev_1174 => ?_)
      have bv_1174 : (-128 : Int) ≤ v_1174.toInt ∧ v_1174.toInt ≤ 127 := ba_i2b ev_1174
      refine va_bast hx hb hK.1 hP hD hS 1 0 rfl rfl (vi bv_1167 (by decide)) dX10_feed_94 (fun H locs hP hD hS => ?_)
      generalize hf_1175 : (upd f_1153 (v_1167 : Int32).toNatClampNeg (vp_nar .byte v_1174)) = f_1175 at hP hD
      obtain ⟨hP, hD⟩ : vPD G A H [(ce_X10 ob ob_thrown ob_world ob_images ob_hasImage ob_tape ob_taped ob_five ob_size ob_at ob_from ob_token ob_value ob_faultKind ob_faultPlace ob_fresh ob_parts ob_houses ob_houseMany ob_worthOf ob_byCall ob_over ob_bestSet ob_bestOver ob_bestWorth ob_row ob_tenDebts ob_tenMany ob_fewestBy ob_covered ob_queue ob_cameBy ob_parent ob_met ob_calls ob_callMany ob_calledOn ob_saved ob_many ob_width ob_numbers ob_moving), (ce_b1400 y ob_tape f_1175), (ce_i5 y ob_five f_1008)] := ⟨hP, hD⟩
      obtain ⟨v_1176, ev_1176⟩ : ∃ z : Int32, z = v_1152 + 1 := ⟨_, rfl⟩
      have qv_1176 := ba_add ev_1176 nc_1165.1 (bkc (x := 1) (c := 1) (by decide)) (by decide)
      have bv_1176 : (1 : Int) ≤ v_1176.toInt ∧ v_1176.toInt ≤ 20 := bq_add qv_1176 nc_1165.1 (bkc (x := 1) (c := 1) (by decide)) _ _ (by decide)
      have qv_1176 : v_1176.toInt = v_1152.toInt + (1) := qv_1176
      refine lv_iinc (v := v_1176) (lv' := [(6, .int v_1176), (0, .ref ob)]) hx hb dX10_feed_95 hl (k := 0) rfl (ev_1176.symm) (by decide) rfl (fun ls hl => ?_)
      refine lv_goto (tgt := 55) hx hb dX10_feed_98 (by decide) ?_
      exact ih_1164 _ (ml_inc (hi := 20) hn_1164 qv_1176 (by decide) ((bw (0) (20) bv_1176 (by decide))).2) _ _ _ _ ⟨v_1176, f_1175, rfl, (bw (0) (20) bv_1176 (by decide)), rfl, ⟨hP, hD⟩, hS, lv_sub hl [0, 1] rfl⟩
  · skip
    have nc_1002 := nb_nle (1400) (1401) c_1002 (bkc (x := 1400) (c := 1400) (by decide)) bv_1001 (by decide)
    have h_1177 : (1381 : Int) ≤ ob_taped.toInt ∧ ob_taped.toInt ≤ 1400 := bq_in1 qv_1001 nc_1002.2.1 p_ob_taped (bkc (x := 20) (c := 20) (by decide)) (by decide)
    refine lv_iconst (v := (-1)) hx hb dX10_feed_13 (by decide) ?_
    exact W.iret (v := (-1)) hx hb hr (fun t ht hW => ⟨⟨(-1), _, rfl, ⟨(-1), ob_taped, fob_tape, fob_five, (bw (-1) (1400) (bkc (x := (-1)) (c := -1) (by decide)) (by decide)), (bw (20) (1400) h_1177 (by decide)), by have h90 : Int32.toInt (-1) = -1 := (by decide); omega, rfl, rfl⟩, by rw [ht]; exact hP, hD⟩, hS.F ht⟩) hS.2.2 dX10_feed_14

set_option maxHeartbeats 4000000 in
set_option maxRecDepth 100000 in
theorem fendM (l : Launch) (G : va_G) (y : Nat → ClassId) (sz : Nat) (ob : Nat) (a1 : Int32) (ob_thrown : Int32) (ob_world : Nat) (ob_images : Nat) (ob_hasImage : Nat) (ob_tape : Nat) (ob_taped : Int32) (ob_five : Nat) (ob_size : Int32) (ob_at : Int32) (ob_from : Int32) (ob_token : Int32) (ob_value : Int32) (ob_faultKind : Int32) (ob_faultPlace : Int32) (ob_fresh : Nat) (ob_parts : Nat) (ob_houses : Nat) (ob_houseMany : Int32) (ob_worthOf : Nat) (ob_byCall : Nat) (ob_over : Nat) (ob_bestSet : Int32) (ob_bestOver : Int32) (ob_bestWorth : Int32) (ob_row : Nat) (ob_tenDebts : Nat) (ob_tenMany : Int32) (ob_fewestBy : Nat) (ob_covered : Nat) (ob_queue : Nat) (ob_cameBy : Nat) (ob_parent : Nat) (ob_met : Nat) (ob_calls : Nat) (ob_callMany : Int32) (ob_calledOn : Nat) (ob_saved : Nat) (ob_many : Nat) (ob_width : Nat) (ob_numbers : Nat) (ob_moving : Nat) (p_ob_taped : (0 : Int) ≤ ob_taped.toInt ∧ ob_taped.toInt ≤ 1400) (p_ob_size : (0 : Int) ≤ ob_size.toInt ∧ ob_size.toInt ≤ 1400) (p_ob_at : (0 : Int) ≤ ob_at.toInt ∧ ob_at.toInt ≤ 1400) (p_ob_from : (0 : Int) ≤ ob_from.toInt ∧ ob_from.toInt ≤ 1400) (p_ob_token : (0 : Int) ≤ ob_token.toInt ∧ ob_token.toInt ≤ 4) (p_ob_value : (0 : Int) ≤ ob_value.toInt ∧ ob_value.toInt ≤ 9999) (p_ob_faultKind : (0 : Int) ≤ ob_faultKind.toInt ∧ ob_faultKind.toInt ≤ 3) (p_ob_houseMany : (0 : Int) ≤ ob_houseMany.toInt ∧ ob_houseMany.toInt ≤ 10) (p_ob_bestSet : (0 : Int) ≤ ob_bestSet.toInt ∧ ob_bestSet.toInt ≤ 1023) (p_ob_bestOver : (-1 : Int) ≤ ob_bestOver.toInt ∧ ob_bestOver.toInt ≤ 180) (p_ob_tenMany : (0 : Int) ≤ ob_tenMany.toInt ∧ ob_tenMany.toInt ≤ 10) (p_ob_callMany : (0 : Int) ≤ ob_callMany.toInt ∧ ob_callMany.toInt ≤ 16) : Met l yX10_end (Cond.code yX10_end cX10_end 2 (some .int) :: wAll) ({ frames := 1, cells := 0, slots := 0, locals := 25 }) (va_Pc [.ref ob, .int a1] (kp G y sz [(ce_X10 ob ob_thrown ob_world ob_images ob_hasImage ob_tape ob_taped ob_five ob_size ob_at ob_from ob_token ob_value ob_faultKind ob_faultPlace ob_fresh ob_parts ob_houses ob_houseMany ob_worthOf ob_byCall ob_over ob_bestSet ob_bestOver ob_bestWorth ob_row ob_tenDebts ob_tenMany ob_fewestBy ob_covered ob_queue ob_cameBy ob_parent ob_met ob_calls ob_callMany ob_calledOn ob_saved ob_many ob_width ob_numbers ob_moving)])) (va_Qi (fun (r : Int32) (w : va_W) => (∃ (v_13 : Int32) (v_14 : Int32), ((-1 : Int) ≤ v_13.toInt ∧ v_13.toInt ≤ 1400) ∧ ((0 : Int) ≤ v_14.toInt ∧ v_14.toInt ≤ 1400) ∧ (((v_13 : Int32).toInt = -1 ∧ v_14.toInt = ob_taped.toInt ∧ (a1.toInt < 0 ∨ ob_taped.toInt < a1.toInt)) ∨ ((v_13 : Int32).toInt = a1.toInt ∧ v_14.toInt = a1.toInt ∧ 0 ≤ a1.toInt ∧ a1.toInt ≤ ob_taped.toInt)) ∧ r = v_13 ∧ w = [(ce_X10 ob ob_thrown ob_world ob_images ob_hasImage ob_tape v_14 ob_five ob_size ob_at ob_from ob_token ob_value ob_faultKind ob_faultPlace ob_fresh ob_parts ob_houses ob_houseMany ob_worthOf ob_byCall ob_over ob_bestSet ob_bestOver ob_bestWorth ob_row ob_tenDebts ob_tenMany ob_fewestBy ob_covered ob_queue ob_cameBy ob_parent ob_met ob_calls ob_callMany ob_calledOn ob_saved ob_many ob_width ob_numbers ob_moving)])) (kq G (va_A [(ce_X10 ob ob_thrown ob_world ob_images ob_hasImage ob_tape ob_taped ob_five ob_size ob_at ob_from ob_token ob_value ob_faultKind ob_faultPlace ob_fresh ob_parts ob_houses ob_houseMany ob_worthOf ob_byCall ob_over ob_bestSet ob_bestOver ob_bestWorth ob_row ob_tenDebts ob_tenMany ob_fewestBy ob_covered ob_queue ob_cameBy ob_parent ob_met ob_calls ob_callMany ob_calledOn ob_saved ob_many ob_width ob_numbers ob_moving)] sz)) (va_A [(ce_X10 ob ob_thrown ob_world ob_images ob_hasImage ob_tape ob_taped ob_five ob_size ob_at ob_from ob_token ob_value ob_faultKind ob_faultPlace ob_fresh ob_parts ob_houses ob_houseMany ob_worthOf ob_byCall ob_over ob_bestSet ob_bestOver ob_bestWorth ob_row ob_tenDebts ob_tenMany ob_fewestBy ob_covered ob_queue ob_cameBy ob_parent ob_met ob_calls ob_callMany ob_calledOn ob_saved ob_many ob_width ob_numbers ob_moving)] sz)) 0 0 (va_A [(ce_X10 ob ob_thrown ob_world ob_images ob_hasImage ob_tape ob_taped ob_five ob_size ob_at ob_from ob_token ob_value ob_faultKind ob_faultPlace ob_fresh ob_parts ob_houses ob_houseMany ob_worthOf ob_byCall ob_over ob_bestSet ob_bestOver ob_bestWorth ob_row ob_tenDebts ob_tenMany ob_fewestBy ob_covered ob_queue ob_cameBy ob_parent ob_met ob_calls ob_callMany ob_calledOn ob_saved ob_many ob_width ob_numbers ob_moving)] sz) := by
  refine Met.ofW (cc := cX10_end) (maxL := 2) (ret := (some .int)) (by decide) rfl ?_
  intro p e s m args below meth c s₁ B hml hv
  obtain ⟨rfl, hsz, hP, hK, hD0⟩ := hv
  have hx := B.exec
  have hb := B.bytes
  have hr := B.returns
  have hw0 : ∀ w ∈ wAll, w.before _ s = true := fun w h => atoms_spec (ws := Cond.code yX10_end cX10_end 2 (some .int) :: wAll) B.pre w (List.mem_cons_of_mem _ h)
  have hown : s.vm.findClass RX10 = some m.cls := findClass_of_methodNamed B.named
  subst hsz
  have hD := hD0.self (sz := s.heap.size)
  generalize hAe : va_A [(ce_X10 ob ob_thrown ob_world ob_images ob_hasImage ob_tape ob_taped ob_five ob_size ob_at ob_from ob_token ob_value ob_faultKind ob_faultPlace ob_fresh ob_parts ob_houses ob_houseMany ob_worthOf ob_byCall ob_over ob_bestSet ob_bestOver ob_bestWorth ob_row ob_tenDebts ob_tenMany ob_fewestBy ob_covered ob_queue ob_cameBy ob_parent ob_met ob_calls ob_callMany ob_calledOn ob_saved ob_many ob_width ob_numbers ob_moving)] s.heap.size = A at hD ⊢
  have hA : ∀ q : Nat, s.heap.size ≤ q → A q := fun q h => by rw [← hAe]; exact Or.inr h
  have hS : va_S A s.heap s.heap [] := va_S.rf
  have hP : va_P G vwCl [(ce_X10 ob ob_thrown ob_world ob_images ob_hasImage ob_tape ob_taped ob_five ob_size ob_at ob_from ob_token ob_value ob_faultKind ob_faultPlace ob_fresh ob_parts ob_houses ob_houseMany ob_worthOf ob_byCall ob_over ob_bestSet ob_bestOver ob_bestWorth ob_row ob_tenDebts ob_tenMany ob_fewestBy ob_covered ob_queue ob_cameBy ob_parent ob_met ob_calls ob_callMany ob_calledOn ob_saved ob_many ob_width ob_numbers ob_moving)] s.heap := hP
  have hl := lv_entry ([.ref ob, .int a1]) (n := 2) (Nat.le_of_ble_eq_true rfl)
  rw [lg_entry_eq]
  generalize (lg_sl ([.ref ob, .int a1]) ++ List.replicate (2 - (lg_sl ([.ref ob, .int a1])).length) Slot.unset).toArray = ls at hl ⊢
  have hl : lv_has ls 2 [(0, .ref ob), (1, .int a1)] := hl
  refine lv_iload_n hx hb dX10_end_0 rfl (lv_at hl 1 rfl) ?_
  refine lv_i2l hx hb dX10_end_1 rfl ?_
  refine lv_lconst (v := 0) hx hb dX10_end_2 (by decide) ?_
  refine lv_aload_n hx hb dX10_end_3 rfl (lv_at hl 0 rfl) ?_
  refine va_get (D := G) (ci := 10) (v := .int ob_taped) (C := RX10) (T := TX10) (N := 41) hx hb hw0 inA_wsX100 hown hK.1 hP 0 rfl rfl 5 (by decide) (hw0 _ m_405) (fun _ h9 => h9) rfl dX10_end_4 ?_
  refine lv_i2l hx hb dX10_end_7 rfl ?_
  refine cSim (As := [.long (a1).toInt64, .long 0, .long (ob_taped).toInt64]) (rest := []) ⟨hx, hb, hml, hown, hw0⟩ hA hK hP hD hS [] (sX10_in l G y _ ((a1).toInt64) 0 ((ob_taped).toInt64) ) rfl ⟨(callB_of 3 hw0 (gA m_516) rfl rfl rfl (hw0 _ m_41) (hw0 _ m_345) cb_X10_in ⟨Nat.le_of_ble_eq_true rfl, Nat.le_of_ble_eq_true rfl⟩), (hw0 _ m_346)⟩ rfl hl.1 (Nat.le_of_ble_eq_true rfl) dX10_end_8 ⟨Nat.le_of_ble_eq_true rfl, Nat.le_of_ble_eq_true rfl⟩ (fun r_1001 w_1001 H locs hw_1001 hP hD hS => ?_)
  rcases hw_1001 with ⟨h_1002, rfl, rfl⟩ | ⟨h_1003, rfl, rfl⟩
  · skip
    have h_1004 : a1.toInt < (0 : Int) ∨ (ob_taped.toInt : Int) < a1.toInt := in_n h_1002 (Int32.toInt_toInt64 _) (by decide) (Int32.toInt_toInt64 _)
    obtain ⟨hP, hD⟩ : vPD G A H [(ce_X10 ob ob_thrown ob_world ob_images ob_hasImage ob_tape ob_taped ob_five ob_size ob_at ob_from ob_token ob_value ob_faultKind ob_faultPlace ob_fresh ob_parts ob_houses ob_houseMany ob_worthOf ob_byCall ob_over ob_bestSet ob_bestOver ob_bestWorth ob_row ob_tenDebts ob_tenMany ob_fewestBy ob_covered ob_queue ob_cameBy ob_parent ob_met ob_calls ob_callMany ob_calledOn ob_saved ob_many ob_width ob_numbers ob_moving)] := ⟨hP, hD⟩
    refine lv_if_ne (tgt := 16) hx hb dX10_end_11 (by decide) (fun c9 => absurd (by decide) c9) (fun _ => ?_)
    refine lv_iconst (v := (-1)) hx hb dX10_end_14 (by decide) ?_
    exact W.iret (v := (-1)) hx hb hr (fun t ht hW => ⟨⟨(-1), _, rfl, ⟨(-1), ob_taped, (bw (-1) (1400) (bkc (x := (-1)) (c := -1) (by decide)) (by decide)), p_ob_taped, by have h90 : Int32.toInt (-1) = -1 := (by decide); omega, rfl, rfl⟩, by rw [ht]; exact hP, hD⟩, hS.F ht⟩) hS.2.2 dX10_end_15
  · skip
    have h_1005 : (0 : Int) ≤ a1.toInt ∧ a1.toInt ≤ (ob_taped.toInt : Int) := in_y h_1003 (Int32.toInt_toInt64 _) (by decide) (Int32.toInt_toInt64 _)
    have h_1006_0 := (btop a1)
    have h_1006_1 := True.intro
    have h_1006_2 := p_ob_taped
    have h_1006 : (0 : Int) ≤ a1.toInt ∧ a1.toInt ≤ 1400 := by omega
    obtain ⟨hP, hD⟩ : vPD G A H [(ce_X10 ob ob_thrown ob_world ob_images ob_hasImage ob_tape ob_taped ob_five ob_size ob_at ob_from ob_token ob_value ob_faultKind ob_faultPlace ob_fresh ob_parts ob_houses ob_houseMany ob_worthOf ob_byCall ob_over ob_bestSet ob_bestOver ob_bestWorth ob_row ob_tenDebts ob_tenMany ob_fewestBy ob_covered ob_queue ob_cameBy ob_parent ob_met ob_calls ob_callMany ob_calledOn ob_saved ob_many ob_width ob_numbers ob_moving)] := ⟨hP, hD⟩
    refine lv_if_ne (tgt := 16) hx hb dX10_end_11 (by decide) (fun _ => ?_) (fun c9 => absurd c9 (by decide))
    refine lv_aload_n hx hb dX10_end_16 rfl (lv_at hl 0 rfl) ?_
    refine lv_iload_n hx hb dX10_end_17 rfl (lv_at hl 1 rfl) ?_
    refine va_put (D := G) (ci := 10) (v := .int a1) (ty := .int) (C := RX10) (T := TX10) (N := 41) hx hb hw0 inA_wsX100 tyX10 tyX10_ok nmX10 hown hK.1 hP hD hS 0 rfl rfl 5 (by decide) (hw0 _ m_405) (fun _ h9 => h9) rfl fd_X10_5 rfl rfl (Nat.le_of_ble_eq_true rfl) dX10_end_18 (fun H locs hP hD hS => ?_)
    obtain ⟨hP, hD⟩ : vPD G A H [(ce_X10 ob ob_thrown ob_world ob_images ob_hasImage ob_tape a1 ob_five ob_size ob_at ob_from ob_token ob_value ob_faultKind ob_faultPlace ob_fresh ob_parts ob_houses ob_houseMany ob_worthOf ob_byCall ob_over ob_bestSet ob_bestOver ob_bestWorth ob_row ob_tenDebts ob_tenMany ob_fewestBy ob_covered ob_queue ob_cameBy ob_parent ob_met ob_calls ob_callMany ob_calledOn ob_saved ob_many ob_width ob_numbers ob_moving)] := ⟨hP, hD⟩
    refine lv_iload_n hx hb dX10_end_21 rfl (lv_at hl 1 rfl) ?_
    exact W.iret (v := a1) hx hb hr (fun t ht hW => ⟨⟨a1, _, rfl, ⟨a1, a1, (bw (-1) (1400) h_1006 (by decide)), h_1006, by omega, rfl, rfl⟩, by rw [ht]; exact hP, hD⟩, hS.F ht⟩) hS.2.2 dX10_end_22

set_option maxHeartbeats 4000000 in
set_option maxRecDepth 100000 in
theorem frowM0 (l : Launch) (G : va_G) (y : Nat → ClassId) (sz : Nat) (ob : Nat) (a2 : Int32) (a3 : Int32) (ob_thrown : Int32) (ob_world : Nat) (ob_images : Nat) (ob_hasImage : Nat) (ob_tape : Nat) (ob_taped : Int32) (ob_five : Nat) (ob_size : Int32) (ob_at : Int32) (ob_from : Int32) (ob_token : Int32) (ob_value : Int32) (ob_faultKind : Int32) (ob_faultPlace : Int32) (ob_fresh : Nat) (ob_parts : Nat) (ob_houses : Nat) (ob_houseMany : Int32) (ob_worthOf : Nat) (ob_byCall : Nat) (ob_over : Nat) (ob_bestSet : Int32) (ob_bestOver : Int32) (ob_bestWorth : Int32) (ob_row : Nat) (ob_tenDebts : Nat) (ob_tenMany : Int32) (ob_fewestBy : Nat) (ob_covered : Nat) (ob_queue : Nat) (ob_cameBy : Nat) (ob_parent : Nat) (ob_met : Nat) (ob_calls : Nat) (ob_callMany : Int32) (ob_calledOn : Nat) (ob_saved : Nat) (ob_many : Nat) (ob_width : Nat) (ob_numbers : Nat) (ob_moving : Nat) (fob_many : Nat → Int32) (fob_width : Nat → Int32) (fob_numbers : Nat → Int64) (p_ob_taped : (0 : Int) ≤ ob_taped.toInt ∧ ob_taped.toInt ≤ 1400) (p_ob_size : (0 : Int) ≤ ob_size.toInt ∧ ob_size.toInt ≤ 1400) (p_ob_at : (0 : Int) ≤ ob_at.toInt ∧ ob_at.toInt ≤ 1400) (p_ob_from : (0 : Int) ≤ ob_from.toInt ∧ ob_from.toInt ≤ 1400) (p_ob_token : (0 : Int) ≤ ob_token.toInt ∧ ob_token.toInt ≤ 4) (p_ob_value : (0 : Int) ≤ ob_value.toInt ∧ ob_value.toInt ≤ 9999) (p_ob_faultKind : (0 : Int) ≤ ob_faultKind.toInt ∧ ob_faultKind.toInt ≤ 3) (p_ob_houseMany : (0 : Int) ≤ ob_houseMany.toInt ∧ ob_houseMany.toInt ≤ 10) (p_ob_bestSet : (0 : Int) ≤ ob_bestSet.toInt ∧ ob_bestSet.toInt ≤ 1023) (p_ob_bestOver : (-1 : Int) ≤ ob_bestOver.toInt ∧ ob_bestOver.toInt ≤ 180) (p_ob_tenMany : (0 : Int) ≤ ob_tenMany.toInt ∧ ob_tenMany.toInt ≤ 10) (p_ob_callMany : (0 : Int) ≤ ob_callMany.toInt ∧ ob_callMany.toInt ≤ 16) (p_fob_many : ∀ i, (-1 : Int) ≤ (fob_many i).toInt ∧ (fob_many i).toInt ≤ 60) (p_fob_width : ∀ i, (0 : Int) ≤ (fob_width i).toInt ∧ (fob_width i).toInt ≤ 3) : Met l yX10_row (Cond.code yX10_row cX10_row 5 (some .int) :: wAll) ({ frames := 2, cells := 0, slots := 0, locals := 45 }) (va_Pc [.ref ob, .int 0, .int a2, .int a3] (kp G y sz [(ce_X10 ob ob_thrown ob_world ob_images ob_hasImage ob_tape ob_taped ob_five ob_size ob_at ob_from ob_token ob_value ob_faultKind ob_faultPlace ob_fresh ob_parts ob_houses ob_houseMany ob_worthOf ob_byCall ob_over ob_bestSet ob_bestOver ob_bestWorth ob_row ob_tenDebts ob_tenMany ob_fewestBy ob_covered ob_queue ob_cameBy ob_parent ob_met ob_calls ob_callMany ob_calledOn ob_saved ob_many ob_width ob_numbers ob_moving), (ce_i4 y ob_many fob_many), (ce_i4 y ob_width fob_width), (ce_l240 y ob_numbers fob_numbers)])) (va_Qi (fun (r : Int32) (w : va_W) => ((a2.toInt < 0 ∨ 3 < a2.toInt ∨ 60 < a3.toInt) ∧ r = (-2) ∧ w = [(ce_X10 ob ob_thrown ob_world ob_images ob_hasImage ob_tape ob_taped ob_five ob_size ob_at ob_from ob_token ob_value ob_faultKind ob_faultPlace ob_fresh ob_parts ob_houses ob_houseMany ob_worthOf ob_byCall ob_over ob_bestSet ob_bestOver ob_bestWorth ob_row ob_tenDebts ob_tenMany ob_fewestBy ob_covered ob_queue ob_cameBy ob_parent ob_met ob_calls ob_callMany ob_calledOn ob_saved ob_many ob_width ob_numbers ob_moving), (ce_i4 y ob_many fob_many), (ce_i4 y ob_width fob_width), (ce_l240 y ob_numbers fob_numbers)]) ∨ (((0 : Int) ≤ a2.toInt ∧ a2.toInt ≤ 3) ∧ (0 ≤ a2.toInt ∧ a2.toInt ≤ 3 ∧ a3.toInt < 0) ∧ r = (-3) ∧ w = [(ce_X10 ob ob_thrown ob_world ob_images ob_hasImage ob_tape ob_taped ob_five ob_size ob_at ob_from ob_token ob_value ob_faultKind ob_faultPlace ob_fresh ob_parts ob_houses ob_houseMany ob_worthOf ob_byCall ob_over ob_bestSet ob_bestOver ob_bestWorth ob_row ob_tenDebts ob_tenMany ob_fewestBy ob_covered ob_queue ob_cameBy ob_parent ob_met ob_calls ob_callMany ob_calledOn ob_saved ob_many ob_width ob_numbers ob_moving), (ce_i4 y ob_many fob_many), (ce_i4 y ob_width fob_width), (ce_l240 y ob_numbers fob_numbers)]) ∨ (∃ (f_195 : Nat → Int32) (f_196 : Nat → Int32) (f_197 : Nat → Int64), (∀ i, (-1 : Int) ≤ (f_195 i).toInt ∧ (f_195 i).toInt ≤ 60) ∧ (∀ i, (0 : Int) ≤ (f_196 i).toInt ∧ (f_196 i).toInt ≤ 3) ∧ ((0 : Int) ≤ a2.toInt ∧ a2.toInt ≤ 3) ∧ ((0 : Int) ≤ a3.toInt ∧ a3.toInt ≤ 60) ∧ (0 ≤ a2.toInt ∧ a2.toInt ≤ 3 ∧ 0 ≤ a3.toInt ∧ a3.toInt ≤ 60) ∧ ((f_195 0).toInt = a3.toInt) ∧ ((f_196 0).toInt = a2.toInt) ∧ ((f_195 1).toInt = (fob_many 1).toInt) ∧ ((f_196 1).toInt = (fob_width 1).toInt) ∧ ((f_195 2).toInt = (fob_many 2).toInt) ∧ ((f_196 2).toInt = (fob_width 2).toInt) ∧ ((f_195 3).toInt = (fob_many 3).toInt) ∧ ((f_196 3).toInt = (fob_width 3).toInt) ∧ r = 0 ∧ w = [(ce_X10 ob ob_thrown ob_world ob_images ob_hasImage ob_tape ob_taped ob_five ob_size ob_at ob_from ob_token ob_value ob_faultKind ob_faultPlace ob_fresh ob_parts ob_houses ob_houseMany ob_worthOf ob_byCall ob_over ob_bestSet ob_bestOver ob_bestWorth ob_row ob_tenDebts ob_tenMany ob_fewestBy ob_covered ob_queue ob_cameBy ob_parent ob_met ob_calls ob_callMany ob_calledOn ob_saved ob_many ob_width ob_numbers ob_moving), (ce_i4 y ob_many f_195), (ce_i4 y ob_width f_196), (ce_l240 y ob_numbers f_197)])) (kq G (va_A [(ce_X10 ob ob_thrown ob_world ob_images ob_hasImage ob_tape ob_taped ob_five ob_size ob_at ob_from ob_token ob_value ob_faultKind ob_faultPlace ob_fresh ob_parts ob_houses ob_houseMany ob_worthOf ob_byCall ob_over ob_bestSet ob_bestOver ob_bestWorth ob_row ob_tenDebts ob_tenMany ob_fewestBy ob_covered ob_queue ob_cameBy ob_parent ob_met ob_calls ob_callMany ob_calledOn ob_saved ob_many ob_width ob_numbers ob_moving), (ce_i4 y ob_many fob_many), (ce_i4 y ob_width fob_width), (ce_l240 y ob_numbers fob_numbers)] sz)) (va_A [(ce_X10 ob ob_thrown ob_world ob_images ob_hasImage ob_tape ob_taped ob_five ob_size ob_at ob_from ob_token ob_value ob_faultKind ob_faultPlace ob_fresh ob_parts ob_houses ob_houseMany ob_worthOf ob_byCall ob_over ob_bestSet ob_bestOver ob_bestWorth ob_row ob_tenDebts ob_tenMany ob_fewestBy ob_covered ob_queue ob_cameBy ob_parent ob_met ob_calls ob_callMany ob_calledOn ob_saved ob_many ob_width ob_numbers ob_moving), (ce_i4 y ob_many fob_many), (ce_i4 y ob_width fob_width), (ce_l240 y ob_numbers fob_numbers)] sz)) 0 0 (va_A [(ce_X10 ob ob_thrown ob_world ob_images ob_hasImage ob_tape ob_taped ob_five ob_size ob_at ob_from ob_token ob_value ob_faultKind ob_faultPlace ob_fresh ob_parts ob_houses ob_houseMany ob_worthOf ob_byCall ob_over ob_bestSet ob_bestOver ob_bestWorth ob_row ob_tenDebts ob_tenMany ob_fewestBy ob_covered ob_queue ob_cameBy ob_parent ob_met ob_calls ob_callMany ob_calledOn ob_saved ob_many ob_width ob_numbers ob_moving), (ce_i4 y ob_many fob_many), (ce_i4 y ob_width fob_width), (ce_l240 y ob_numbers fob_numbers)] sz) := by
  refine Met.ofW (cc := cX10_row) (maxL := 5) (ret := (some .int)) (by decide) rfl ?_
  intro p e s m args below meth c s₁ B hml hv
  obtain ⟨rfl, hsz, hP, hK, hD0⟩ := hv
  have hx := B.exec
  have hb := B.bytes
  have hr := B.returns
  have hw0 : ∀ w ∈ wAll, w.before _ s = true := fun w h => atoms_spec (ws := Cond.code yX10_row cX10_row 5 (some .int) :: wAll) B.pre w (List.mem_cons_of_mem _ h)
  have hown : s.vm.findClass RX10 = some m.cls := findClass_of_methodNamed B.named
  subst hsz
  have hD := hD0.self (sz := s.heap.size)
  generalize hAe : va_A [(ce_X10 ob ob_thrown ob_world ob_images ob_hasImage ob_tape ob_taped ob_five ob_size ob_at ob_from ob_token ob_value ob_faultKind ob_faultPlace ob_fresh ob_parts ob_houses ob_houseMany ob_worthOf ob_byCall ob_over ob_bestSet ob_bestOver ob_bestWorth ob_row ob_tenDebts ob_tenMany ob_fewestBy ob_covered ob_queue ob_cameBy ob_parent ob_met ob_calls ob_callMany ob_calledOn ob_saved ob_many ob_width ob_numbers ob_moving), (ce_i4 y ob_many fob_many), (ce_i4 y ob_width fob_width), (ce_l240 y ob_numbers fob_numbers)] s.heap.size = A at hD ⊢
  have hA : ∀ q : Nat, s.heap.size ≤ q → A q := fun q h => by rw [← hAe]; exact Or.inr h
  have hS : va_S A s.heap s.heap [] := va_S.rf
  have hP : va_P G vwCl [(ce_X10 ob ob_thrown ob_world ob_images ob_hasImage ob_tape ob_taped ob_five ob_size ob_at ob_from ob_token ob_value ob_faultKind ob_faultPlace ob_fresh ob_parts ob_houses ob_houseMany ob_worthOf ob_byCall ob_over ob_bestSet ob_bestOver ob_bestWorth ob_row ob_tenDebts ob_tenMany ob_fewestBy ob_covered ob_queue ob_cameBy ob_parent ob_met ob_calls ob_callMany ob_calledOn ob_saved ob_many ob_width ob_numbers ob_moving), (ce_i4 y ob_many fob_many), (ce_i4 y ob_width fob_width), (ce_l240 y ob_numbers fob_numbers)] s.heap := hP
  have hl := lv_entry ([.ref ob, .int 0, .int a2, .int a3]) (n := 5) (Nat.le_of_ble_eq_true rfl)
  rw [lg_entry_eq]
  generalize (lg_sl ([.ref ob, .int 0, .int a2, .int a3]) ++ List.replicate (5 - (lg_sl ([.ref ob, .int 0, .int a2, .int a3])).length) Slot.unset).toArray = ls at hl ⊢
  have hl : lv_has ls 5 [(0, .ref ob), (1, .int 0), (2, .int a2), (3, .int a3)] := hl
  refine lv_iload_n hx hb dX10_row_0 rfl (lv_at hl 1 rfl) ?_
  refine cSim (As := [.int 0]) (rest := []) ⟨hx, hb, hml, hown, hw0⟩ hA hK hP hD hS [] (fisSlotM l G y _ 0 ) rfl ⟨(callB_of 1 hw0 (gA m_543) rfl rfl rfl (hw0 _ m_41) (hw0 _ m_433) cb_X10_isSlot ⟨Nat.le_of_ble_eq_true rfl, Nat.le_of_ble_eq_true rfl⟩), (hw0 _ m_434)⟩ rfl hl.1 (Nat.le_of_ble_eq_true rfl) dX10_row_1 ⟨Nat.le_of_ble_eq_true rfl, Nat.le_of_ble_eq_true rfl⟩ (fun r_1001 w_1001 H locs hw_1001 hP hD hS => ?_)
  rcases hw_1001 with ⟨h_1002, rfl, rfl⟩ | ⟨h_1003, h_1004, rfl, rfl⟩
  · skip
    exact False.elim (by have h9 : Int32.toInt 0 = 0 := (by decide); omega)
  · skip
    obtain ⟨hP, hD⟩ : vPD G A H [(ce_X10 ob ob_thrown ob_world ob_images ob_hasImage ob_tape ob_taped ob_five ob_size ob_at ob_from ob_token ob_value ob_faultKind ob_faultPlace ob_fresh ob_parts ob_houses ob_houseMany ob_worthOf ob_byCall ob_over ob_bestSet ob_bestOver ob_bestWorth ob_row ob_tenDebts ob_tenMany ob_fewestBy ob_covered ob_queue ob_cameBy ob_parent ob_met ob_calls ob_callMany ob_calledOn ob_saved ob_many ob_width ob_numbers ob_moving), (ce_i4 y ob_many fob_many), (ce_i4 y ob_width fob_width), (ce_l240 y ob_numbers fob_numbers)] := ⟨hP, hD⟩
    refine lv_if_eq (tgt := 25) hx hb dX10_row_4 (by decide) (fun c9 => absurd c9 (by decide)) (fun _ => ?_)
    refine lv_iload_n hx hb dX10_row_7 rfl (lv_at hl 2 rfl) ?_
    refine lv_i2l hx hb dX10_row_8 rfl ?_
    refine lv_lconst (v := 0) hx hb dX10_row_9 (by decide) ?_
    refine lv_ldc2 (own := RX10) (v := 3) hx hb hown (hw0 _ m_398) dX10_row_10 ?_
    refine cSim (As := [.long (a2).toInt64, .long 0, .long 3]) (rest := []) ⟨hx, hb, hml, hown, hw0⟩ hA hK hP hD hS [] (sX10_in l G y _ ((a2).toInt64) 0 3 ) rfl ⟨(callB_of 3 hw0 (gA m_516) rfl rfl rfl (hw0 _ m_41) (hw0 _ m_345) cb_X10_in ⟨Nat.le_of_ble_eq_true rfl, Nat.le_of_ble_eq_true rfl⟩), (hw0 _ m_346)⟩ rfl hl.1 (Nat.le_of_ble_eq_true rfl) dX10_row_13 ⟨Nat.le_of_ble_eq_true rfl, Nat.le_of_ble_eq_true rfl⟩ (fun r_1005 w_1005 H locs hw_1005 hP hD hS => ?_)
    rcases hw_1005 with ⟨h_1006, rfl, rfl⟩ | ⟨h_1007, rfl, rfl⟩
    · skip
      have h_1008 : a2.toInt < (0 : Int) ∨ (3 : Int) < a2.toInt := in_n h_1006 (Int32.toInt_toInt64 _) (by decide) (by decide)
      obtain ⟨hP, hD⟩ : vPD G A H [(ce_X10 ob ob_thrown ob_world ob_images ob_hasImage ob_tape ob_taped ob_five ob_size ob_at ob_from ob_token ob_value ob_faultKind ob_faultPlace ob_fresh ob_parts ob_houses ob_houseMany ob_worthOf ob_byCall ob_over ob_bestSet ob_bestOver ob_bestWorth ob_row ob_tenDebts ob_tenMany ob_fewestBy ob_covered ob_queue ob_cameBy ob_parent ob_met ob_calls ob_callMany ob_calledOn ob_saved ob_many ob_width ob_numbers ob_moving), (ce_i4 y ob_many fob_many), (ce_i4 y ob_width fob_width), (ce_l240 y ob_numbers fob_numbers)] := ⟨hP, hD⟩
      refine lv_if_eq (tgt := 25) hx hb dX10_row_16 (by decide) (fun _ => ?_) (fun c9 => absurd (by decide) c9)
      refine lv_bipush (v := (-2)) hx hb dX10_row_25 (by decide) ?_
      exact W.iret (v := (-2)) hx hb hr (fun t ht hW => ⟨⟨(-2), _, rfl, Or.inl (⟨by have h90 : Int32.toInt (-2) = -2 := (by decide); have h91 : Int32.toInt 0 = 0 := (by decide); omega, rfl, rfl⟩), by rw [ht]; exact hP, hD⟩, hS.F ht⟩) hS.2.2 dX10_row_27
    · skip
      have h_1009 : (0 : Int) ≤ a2.toInt ∧ a2.toInt ≤ (3 : Int) := in_y h_1007 (Int32.toInt_toInt64 _) (by decide) (by decide)
      have h_1010_0 := (btop a2)
      have h_1010_1 := True.intro
      have h_1010_2 := True.intro
      have h_1010 : (0 : Int) ≤ a2.toInt ∧ a2.toInt ≤ 3 := by omega
      obtain ⟨hP, hD⟩ : vPD G A H [(ce_X10 ob ob_thrown ob_world ob_images ob_hasImage ob_tape ob_taped ob_five ob_size ob_at ob_from ob_token ob_value ob_faultKind ob_faultPlace ob_fresh ob_parts ob_houses ob_houseMany ob_worthOf ob_byCall ob_over ob_bestSet ob_bestOver ob_bestWorth ob_row ob_tenDebts ob_tenMany ob_fewestBy ob_covered ob_queue ob_cameBy ob_parent ob_met ob_calls ob_callMany ob_calledOn ob_saved ob_many ob_width ob_numbers ob_moving), (ce_i4 y ob_many fob_many), (ce_i4 y ob_width fob_width), (ce_l240 y ob_numbers fob_numbers)] := ⟨hP, hD⟩
      refine lv_if_eq (tgt := 25) hx hb dX10_row_16 (by decide) (fun c9 => absurd c9 (by decide)) (fun _ => ?_)
      refine lv_iload_n hx hb dX10_row_19 rfl (lv_at hl 3 rfl) ?_
      refine lv_bipush (v := 60) hx hb dX10_row_20 (by decide) ?_
      refine lv_icmp_le (tgt := 28) hx hb dX10_row_22 (by decide) (fun c_1011 => ?_) (fun c_1011 => ?_)
      · skip
        have nc_1011 := nb_le (60) (60) c_1011 (btop a3) (bkc (x := 60) (c := 60) (by decide)) (by decide)
        refine lv_iload_n hx hb dX10_row_28 rfl (lv_at hl 3 rfl) ?_
        refine lv_if_ge (tgt := 35) hx hb dX10_row_29 (by decide) (fun c_1012 => ?_) (fun c_1012 => ?_)
        · skip
          have nc_1012 := nb_le (0) (0) c_1012 (bkc (x := 0) (c := 0) (by decide)) nc_1011.1 (by decide)
          refine lv_aload_n hx hb dX10_row_35 rfl (lv_at hl 0 rfl) ?_
          refine va_get (D := G) (ci := 10) (v := .ref ob_many) (C := RX10) (T := TX10) (N := 41) hx hb hw0 inA_wsX100 hown hK.1 hP 0 rfl rfl 37 (by decide) (hw0 _ m_406) (fun _ h9 => h9) rfl dX10_row_36 ?_
          refine lv_iload_n hx hb dX10_row_39 rfl (lv_at hl 1 rfl) ?_
          refine lv_iload_n hx hb dX10_row_40 rfl (lv_at hl 3 rfl) ?_
          refine va_iast hx hb hK.1 hP hD hS 1 1 rfl rfl (vi (bkc (x := 0) (c := 0) (by decide)) (by decide)) dX10_row_41 (fun H locs hP hD hS => ?_)
          generalize hf_1013 : (upd fob_many (0 : Int32).toNatClampNeg a3) = f_1013 at hP hD
          have bf_1013 : ∀ i, (-1 : Int) ≤ (f_1013 i).toInt ∧ (f_1013 i).toInt ≤ 60 := hf_1013 ▸ up_b p_fob_many (bw (-1) (60) nc_1012.2.1 (by decide))
          have zf_1013_0 : (f_1013 0).toInt = (a3 : Int32).toInt := hf_1013 ▸ pin_eq (by decide)
          have zf_1013_1 : (f_1013 1).toInt = (fob_many 1).toInt := hf_1013 ▸ pin_ne (ix_not (bkc (x := 0) (c := 0) (by decide)) (by decide))
          have zf_1013_2 : (f_1013 2).toInt = (fob_many 2).toInt := hf_1013 ▸ pin_ne (ix_not (bkc (x := 0) (c := 0) (by decide)) (by decide))
          have zf_1013_3 : (f_1013 3).toInt = (fob_many 3).toInt := hf_1013 ▸ pin_ne (ix_not (bkc (x := 0) (c := 0) (by decide)) (by decide))
          obtain ⟨hP, hD⟩ : vPD G A H [(ce_X10 ob ob_thrown ob_world ob_images ob_hasImage ob_tape ob_taped ob_five ob_size ob_at ob_from ob_token ob_value ob_faultKind ob_faultPlace ob_fresh ob_parts ob_houses ob_houseMany ob_worthOf ob_byCall ob_over ob_bestSet ob_bestOver ob_bestWorth ob_row ob_tenDebts ob_tenMany ob_fewestBy ob_covered ob_queue ob_cameBy ob_parent ob_met ob_calls ob_callMany ob_calledOn ob_saved ob_many ob_width ob_numbers ob_moving), (ce_i4 y ob_many f_1013), (ce_i4 y ob_width fob_width), (ce_l240 y ob_numbers fob_numbers)] := ⟨hP, hD⟩
          refine lv_aload_n hx hb dX10_row_42 rfl (lv_at hl 0 rfl) ?_
          refine va_get (D := G) (ci := 10) (v := .ref ob_width) (C := RX10) (T := TX10) (N := 41) hx hb hw0 inA_wsX100 hown hK.1 hP 0 rfl rfl 38 (by decide) (hw0 _ m_527) (fun _ h9 => h9) rfl dX10_row_43 ?_
          refine lv_iload_n hx hb dX10_row_46 rfl (lv_at hl 1 rfl) ?_
          refine lv_iload_n hx hb dX10_row_47 rfl (lv_at hl 2 rfl) ?_
          refine va_iast hx hb hK.1 hP hD hS 2 1 rfl rfl (vi (bkc (x := 0) (c := 0) (by decide)) (by decide)) dX10_row_48 (fun H locs hP hD hS => ?_)
          generalize hf_1014 : (upd fob_width (0 : Int32).toNatClampNeg a2) = f_1014 at hP hD
          have bf_1014 : ∀ i, (0 : Int) ≤ (f_1014 i).toInt ∧ (f_1014 i).toInt ≤ 3 := hf_1014 ▸ up_b p_fob_width h_1010
          have zf_1014_0 : (f_1014 0).toInt = (a2 : Int32).toInt := hf_1014 ▸ pin_eq (by decide)
          have zf_1014_1 : (f_1014 1).toInt = (fob_width 1).toInt := hf_1014 ▸ pin_ne (ix_not (bkc (x := 0) (c := 0) (by decide)) (by decide))
          have zf_1014_2 : (f_1014 2).toInt = (fob_width 2).toInt := hf_1014 ▸ pin_ne (ix_not (bkc (x := 0) (c := 0) (by decide)) (by decide))
          have zf_1014_3 : (f_1014 3).toInt = (fob_width 3).toInt := hf_1014 ▸ pin_ne (ix_not (bkc (x := 0) (c := 0) (by decide)) (by decide))
          obtain ⟨hP, hD⟩ : vPD G A H [(ce_X10 ob ob_thrown ob_world ob_images ob_hasImage ob_tape ob_taped ob_five ob_size ob_at ob_from ob_token ob_value ob_faultKind ob_faultPlace ob_fresh ob_parts ob_houses ob_houseMany ob_worthOf ob_byCall ob_over ob_bestSet ob_bestOver ob_bestWorth ob_row ob_tenDebts ob_tenMany ob_fewestBy ob_covered ob_queue ob_cameBy ob_parent ob_met ob_calls ob_callMany ob_calledOn ob_saved ob_many ob_width ob_numbers ob_moving), (ce_i4 y ob_many f_1013), (ce_i4 y ob_width f_1014), (ce_l240 y ob_numbers fob_numbers)] := ⟨hP, hD⟩
          refine lv_iconst (v := 0) hx hb dX10_row_49 (by decide) ?_
          refine lv_istore (lv' := [(4, .int 0), (0, .ref ob), (1, .int 0), (2, .int a2), (3, .int a3)]) hx hb dX10_row_50 hl (by decide) rfl (fun ls hl => ?_)
          refine loopX (fun n H locs ls st => ∃ (v_1086 : Int32) (f_1087 : Nat → Int64), (60 - v_1086.toInt).toNat = n ∧ ((0 : Int) ≤ v_1086.toInt ∧ v_1086.toInt ≤ 60) ∧ st = [] ∧ vPD G A H [(ce_X10 ob ob_thrown ob_world ob_images ob_hasImage ob_tape ob_taped ob_five ob_size ob_at ob_from ob_token ob_value ob_faultKind ob_faultPlace ob_fresh ob_parts ob_houses ob_houseMany ob_worthOf ob_byCall ob_over ob_bestSet ob_bestOver ob_bestWorth ob_row ob_tenDebts ob_tenMany ob_fewestBy ob_covered ob_queue ob_cameBy ob_parent ob_met ob_calls ob_callMany ob_calledOn ob_saved ob_many ob_width ob_numbers ob_moving), (ce_i4 y ob_many f_1013), (ce_i4 y ob_width f_1014), (ce_l240 y ob_numbers f_1087)] ∧ va_S A s.heap H locs ∧ lv_has ls 5 [(4, .int v_1086), (0, .ref ob), (1, .int 0)]) ?_ (n := (60 - (0 : Int32).toInt).toNat) ⟨0, fob_numbers, rfl, (bw (0) (60) (bkc (x := 0) (c := 0) (by decide)) (by decide)), rfl, ⟨hP, hD⟩, hS, lv_sub hl [0, 1, 2] rfl⟩
          rintro n ih_1092 H locs ls st ⟨v_1086, f_1087, hn_1092, bv_1086, rfl, ⟨hP, hD⟩, hS, hl⟩
          refine lv_iload hx hb dX10_row_52 (lv_at hl 0 rfl) ?_
          refine lv_bipush (v := 60) hx hb dX10_row_54 (by decide) ?_
          refine lv_icmp_ge (tgt := 78) hx hb dX10_row_56 (by decide) (fun c_1093 => ?_) (fun c_1093 => ?_)
          · skip
            have nc_1093 := nb_le (60) (60) c_1093 (bkc (x := 60) (c := 60) (by decide)) bv_1086 (by decide)
            refine lv_iconst (v := 0) hx hb dX10_row_78 (by decide) ?_
            exact W.iret (v := 0) hx hb hr (fun t ht hW => ⟨⟨0, _, rfl, Or.inr (Or.inr (⟨f_1013, f_1014, f_1087, bf_1013, bf_1014, h_1010, nc_1012.2.1, by have h90 : Int32.toInt 0 = 0 := (by decide); omega, by have h90 : Int32.toInt 0 = 0 := (by decide); omega, by have h90 : Int32.toInt 0 = 0 := (by decide); omega, by have h90 : Int32.toInt 0 = 0 := (by decide); omega, by have h90 : Int32.toInt 0 = 0 := (by decide); omega, by have h90 : Int32.toInt 0 = 0 := (by decide); omega, by have h90 : Int32.toInt 0 = 0 := (by decide); omega, by have h90 : Int32.toInt 0 = 0 := (by decide); omega, by have h90 : Int32.toInt 0 = 0 := (by decide); omega, rfl, rfl⟩)), by rw [ht]; exact hP, hD⟩, hS.F ht⟩) hS.2.2 dX10_row_79
          · skip
            have nc_1093 := nb_nle (59) (60) c_1093 bv_1086 (bkc (x := 60) (c := 60) (by decide)) (by decide)
            refine lv_aload_n hx hb dX10_row_59 rfl (lv_at hl 1 rfl) ?_
            refine va_get (D := G) (ci := 10) (v := .ref ob_numbers) (C := RX10) (T := TX10) (N := 41) hx hb hw0 inA_wsX100 hown hK.1 hP 0 rfl rfl 39 (by decide) (hw0 _ m_435) (fun _ h9 => h9) rfl dX10_row_60 ?_
            refine lv_bipush (v := 60) hx hb dX10_row_63 (by decide) ?_
            refine lv_iload_n hx hb dX10_row_65 rfl (lv_at hl 2 rfl) ?_
            refine lv_imul hx hb dX10_row_66 ?_
            refine lv_topi (fun v_1094 ev_1094 => ?_)
            obtain rfl : 0 = v_1094 := (ev_1094.trans (by decide)).symm
            refine lv_iload hx hb dX10_row_67 (lv_at hl 0 rfl) ?_
            refine lv_iadd hx hb dX10_row_69 ?_
            refine lv_topi (fun v_1095 ev_1095 => ?_)
            have qv_1095 := ba_add ev_1095 (bkc (x := 0) (c := 0) (by decide)) nc_1093.1 (by decide)
            have bv_1095 : (0 : Int) ≤ v_1095.toInt ∧ v_1095.toInt ≤ 59 := bq_add qv_1095 (bkc (x := 0) (c := 0) (by decide)) nc_1093.1 _ _ (by decide)
            have qv_1095 : v_1095.toInt = (0) + v_1086.toInt := qv_1095
            refine lv_lconst (v := 0) hx hb dX10_row_70 (by decide) ?_
            refine va_last hx hb hK.1 hP hD hS 3 2 rfl rfl (vi bv_1095 (by decide)) dX10_row_71 (fun H locs hP hD hS => ?_)
            generalize hf_1096 : (vp_updL f_1087 (v_1095 : Int32).toNatClampNeg 0) = f_1096 at hP hD
            obtain ⟨hP, hD⟩ : vPD G A H [(ce_X10 ob ob_thrown ob_world ob_images ob_hasImage ob_tape ob_taped ob_five ob_size ob_at ob_from ob_token ob_value ob_faultKind ob_faultPlace ob_fresh ob_parts ob_houses ob_houseMany ob_worthOf ob_byCall ob_over ob_bestSet ob_bestOver ob_bestWorth ob_row ob_tenDebts ob_tenMany ob_fewestBy ob_covered ob_queue ob_cameBy ob_parent ob_met ob_calls ob_callMany ob_calledOn ob_saved ob_many ob_width ob_numbers ob_moving), (ce_i4 y ob_many f_1013), (ce_i4 y ob_width f_1014), (ce_l240 y ob_numbers f_1096)] := ⟨hP, hD⟩
            obtain ⟨v_1097, ev_1097⟩ : ∃ z : Int32, z = v_1086 + 1 := ⟨_, rfl⟩
            have qv_1097 := ba_add ev_1097 nc_1093.1 (bkc (x := 1) (c := 1) (by decide)) (by decide)
            have bv_1097 : (1 : Int) ≤ v_1097.toInt ∧ v_1097.toInt ≤ 60 := bq_add qv_1097 nc_1093.1 (bkc (x := 1) (c := 1) (by decide)) _ _ (by decide)
            have qv_1097 : v_1097.toInt = v_1086.toInt + (1) := qv_1097
            refine lv_iinc (v := v_1097) (lv' := [(4, .int v_1097), (0, .ref ob), (1, .int 0)]) hx hb dX10_row_72 hl (k := 0) rfl (ev_1097.symm) (by decide) rfl (fun ls hl => ?_)
            refine lv_goto (tgt := 52) hx hb dX10_row_75 (by decide) ?_
            exact ih_1092 _ (ml_inc (hi := 60) hn_1092 qv_1097 (by decide) ((bw (0) (60) bv_1097 (by decide))).2) _ _ _ _ ⟨v_1097, f_1096, rfl, (bw (0) (60) bv_1097 (by decide)), rfl, ⟨hP, hD⟩, hS, lv_sub hl [0, 1, 2] rfl⟩
        · skip
          have nc_1012 := nb_nle (-1) (0) c_1012 nc_1011.1 (bkc (x := 0) (c := 0) (by decide)) (by decide)
          refine lv_bipush (v := (-3)) hx hb dX10_row_32 (by decide) ?_
          exact W.iret (v := (-3)) hx hb hr (fun t ht hW => ⟨⟨(-3), _, rfl, Or.inr (Or.inl (⟨h_1010, by have h90 : Int32.toInt (-3) = -3 := (by decide); have h91 : Int32.toInt 0 = 0 := (by decide); omega, rfl, rfl⟩)), by rw [ht]; exact hP, hD⟩, hS.F ht⟩) hS.2.2 dX10_row_34
      · skip
        have nc_1011 := nb_nle (60) (61) c_1011 (bkc (x := 60) (c := 60) (by decide)) (btop a3) (by decide)
        refine lv_bipush (v := (-2)) hx hb dX10_row_25 (by decide) ?_
        exact W.iret (v := (-2)) hx hb hr (fun t ht hW => ⟨⟨(-2), _, rfl, Or.inl (⟨by have h90 : Int32.toInt (-2) = -2 := (by decide); have h91 : Int32.toInt 0 = 0 := (by decide); omega, rfl, rfl⟩), by rw [ht]; exact hP, hD⟩, hS.F ht⟩) hS.2.2 dX10_row_27

set_option maxHeartbeats 4000000 in
set_option maxRecDepth 100000 in
theorem fwriteM0 (l : Launch) (G : va_G) (y : Nat → ClassId) (sz : Nat) (ob : Nat) (a2 : Int32) (a3 : Int64) (ob_thrown : Int32) (ob_world : Nat) (ob_images : Nat) (ob_hasImage : Nat) (ob_tape : Nat) (ob_taped : Int32) (ob_five : Nat) (ob_size : Int32) (ob_at : Int32) (ob_from : Int32) (ob_token : Int32) (ob_value : Int32) (ob_faultKind : Int32) (ob_faultPlace : Int32) (ob_fresh : Nat) (ob_parts : Nat) (ob_houses : Nat) (ob_houseMany : Int32) (ob_worthOf : Nat) (ob_byCall : Nat) (ob_over : Nat) (ob_bestSet : Int32) (ob_bestOver : Int32) (ob_bestWorth : Int32) (ob_row : Nat) (ob_tenDebts : Nat) (ob_tenMany : Int32) (ob_fewestBy : Nat) (ob_covered : Nat) (ob_queue : Nat) (ob_cameBy : Nat) (ob_parent : Nat) (ob_met : Nat) (ob_calls : Nat) (ob_callMany : Int32) (ob_calledOn : Nat) (ob_saved : Nat) (ob_many : Nat) (ob_width : Nat) (ob_numbers : Nat) (ob_moving : Nat) (fob_many : Nat → Int32) (fob_width : Nat → Int32) (fob_numbers : Nat → Int64) (p_ob_taped : (0 : Int) ≤ ob_taped.toInt ∧ ob_taped.toInt ≤ 1400) (p_ob_size : (0 : Int) ≤ ob_size.toInt ∧ ob_size.toInt ≤ 1400) (p_ob_at : (0 : Int) ≤ ob_at.toInt ∧ ob_at.toInt ≤ 1400) (p_ob_from : (0 : Int) ≤ ob_from.toInt ∧ ob_from.toInt ≤ 1400) (p_ob_token : (0 : Int) ≤ ob_token.toInt ∧ ob_token.toInt ≤ 4) (p_ob_value : (0 : Int) ≤ ob_value.toInt ∧ ob_value.toInt ≤ 9999) (p_ob_faultKind : (0 : Int) ≤ ob_faultKind.toInt ∧ ob_faultKind.toInt ≤ 3) (p_ob_houseMany : (0 : Int) ≤ ob_houseMany.toInt ∧ ob_houseMany.toInt ≤ 10) (p_ob_bestSet : (0 : Int) ≤ ob_bestSet.toInt ∧ ob_bestSet.toInt ≤ 1023) (p_ob_bestOver : (-1 : Int) ≤ ob_bestOver.toInt ∧ ob_bestOver.toInt ≤ 180) (p_ob_tenMany : (0 : Int) ≤ ob_tenMany.toInt ∧ ob_tenMany.toInt ≤ 10) (p_ob_callMany : (0 : Int) ≤ ob_callMany.toInt ∧ ob_callMany.toInt ≤ 16) (p_fob_many : ∀ i, (-1 : Int) ≤ (fob_many i).toInt ∧ (fob_many i).toInt ≤ 60) (p_fob_width : ∀ i, (0 : Int) ≤ (fob_width i).toInt ∧ (fob_width i).toInt ≤ 3) : Met l yX10_write (Cond.code yX10_write cX10_write 5 (some .int) :: wAll) ({ frames := 2, cells := 0, slots := 0, locals := 45 }) (va_Pc [.ref ob, .int 0, .int a2, .long a3] (kp G y sz [(ce_X10 ob ob_thrown ob_world ob_images ob_hasImage ob_tape ob_taped ob_five ob_size ob_at ob_from ob_token ob_value ob_faultKind ob_faultPlace ob_fresh ob_parts ob_houses ob_houseMany ob_worthOf ob_byCall ob_over ob_bestSet ob_bestOver ob_bestWorth ob_row ob_tenDebts ob_tenMany ob_fewestBy ob_covered ob_queue ob_cameBy ob_parent ob_met ob_calls ob_callMany ob_calledOn ob_saved ob_many ob_width ob_numbers ob_moving), (ce_i4 y ob_many fob_many), (ce_i4 y ob_width fob_width), (ce_l240 y ob_numbers fob_numbers)])) (va_Qi (fun (r : Int32) (w : va_W) => (((fob_many 0).toInt = -1) ∧ r = (-6) ∧ w = [(ce_X10 ob ob_thrown ob_world ob_images ob_hasImage ob_tape ob_taped ob_five ob_size ob_at ob_from ob_token ob_value ob_faultKind ob_faultPlace ob_fresh ob_parts ob_houses ob_houseMany ob_worthOf ob_byCall ob_over ob_bestSet ob_bestOver ob_bestWorth ob_row ob_tenDebts ob_tenMany ob_fewestBy ob_covered ob_queue ob_cameBy ob_parent ob_met ob_calls ob_callMany ob_calledOn ob_saved ob_many ob_width ob_numbers ob_moving), (ce_i4 y ob_many fob_many), (ce_i4 y ob_width fob_width), (ce_l240 y ob_numbers fob_numbers)]) ∨ ((¬ (fob_many 0).toInt = -1 ∧ (a2.toInt < 0 ∨ (fob_many 0).toInt ≤ a2.toInt)) ∧ r = (-7) ∧ w = [(ce_X10 ob ob_thrown ob_world ob_images ob_hasImage ob_tape ob_taped ob_five ob_size ob_at ob_from ob_token ob_value ob_faultKind ob_faultPlace ob_fresh ob_parts ob_houses ob_houseMany ob_worthOf ob_byCall ob_over ob_bestSet ob_bestOver ob_bestWorth ob_row ob_tenDebts ob_tenMany ob_fewestBy ob_covered ob_queue ob_cameBy ob_parent ob_met ob_calls ob_callMany ob_calledOn ob_saved ob_many ob_width ob_numbers ob_moving), (ce_i4 y ob_many fob_many), (ce_i4 y ob_width fob_width), (ce_l240 y ob_numbers fob_numbers)]) ∨ (∃ (f_43 : Nat → Int64), ((0 : Int) ≤ a2.toInt ∧ a2.toInt ≤ 59) ∧ (¬ (fob_many 0).toInt = -1 ∧ 0 ≤ a2.toInt ∧ a2.toInt < (fob_many 0).toInt) ∧ r = 0 ∧ w = [(ce_X10 ob ob_thrown ob_world ob_images ob_hasImage ob_tape ob_taped ob_five ob_size ob_at ob_from ob_token ob_value ob_faultKind ob_faultPlace ob_fresh ob_parts ob_houses ob_houseMany ob_worthOf ob_byCall ob_over ob_bestSet ob_bestOver ob_bestWorth ob_row ob_tenDebts ob_tenMany ob_fewestBy ob_covered ob_queue ob_cameBy ob_parent ob_met ob_calls ob_callMany ob_calledOn ob_saved ob_many ob_width ob_numbers ob_moving), (ce_i4 y ob_many fob_many), (ce_i4 y ob_width fob_width), (ce_l240 y ob_numbers f_43)])) (kq G (va_A [(ce_X10 ob ob_thrown ob_world ob_images ob_hasImage ob_tape ob_taped ob_five ob_size ob_at ob_from ob_token ob_value ob_faultKind ob_faultPlace ob_fresh ob_parts ob_houses ob_houseMany ob_worthOf ob_byCall ob_over ob_bestSet ob_bestOver ob_bestWorth ob_row ob_tenDebts ob_tenMany ob_fewestBy ob_covered ob_queue ob_cameBy ob_parent ob_met ob_calls ob_callMany ob_calledOn ob_saved ob_many ob_width ob_numbers ob_moving), (ce_i4 y ob_many fob_many), (ce_i4 y ob_width fob_width), (ce_l240 y ob_numbers fob_numbers)] sz)) (va_A [(ce_X10 ob ob_thrown ob_world ob_images ob_hasImage ob_tape ob_taped ob_five ob_size ob_at ob_from ob_token ob_value ob_faultKind ob_faultPlace ob_fresh ob_parts ob_houses ob_houseMany ob_worthOf ob_byCall ob_over ob_bestSet ob_bestOver ob_bestWorth ob_row ob_tenDebts ob_tenMany ob_fewestBy ob_covered ob_queue ob_cameBy ob_parent ob_met ob_calls ob_callMany ob_calledOn ob_saved ob_many ob_width ob_numbers ob_moving), (ce_i4 y ob_many fob_many), (ce_i4 y ob_width fob_width), (ce_l240 y ob_numbers fob_numbers)] sz)) 0 0 (va_A [(ce_X10 ob ob_thrown ob_world ob_images ob_hasImage ob_tape ob_taped ob_five ob_size ob_at ob_from ob_token ob_value ob_faultKind ob_faultPlace ob_fresh ob_parts ob_houses ob_houseMany ob_worthOf ob_byCall ob_over ob_bestSet ob_bestOver ob_bestWorth ob_row ob_tenDebts ob_tenMany ob_fewestBy ob_covered ob_queue ob_cameBy ob_parent ob_met ob_calls ob_callMany ob_calledOn ob_saved ob_many ob_width ob_numbers ob_moving), (ce_i4 y ob_many fob_many), (ce_i4 y ob_width fob_width), (ce_l240 y ob_numbers fob_numbers)] sz) := by
  refine Met.ofW (cc := cX10_write) (maxL := 5) (ret := (some .int)) (by decide) rfl ?_
  intro p e s m args below meth c s₁ B hml hv
  obtain ⟨rfl, hsz, hP, hK, hD0⟩ := hv
  have hx := B.exec
  have hb := B.bytes
  have hr := B.returns
  have hw0 : ∀ w ∈ wAll, w.before _ s = true := fun w h => atoms_spec (ws := Cond.code yX10_write cX10_write 5 (some .int) :: wAll) B.pre w (List.mem_cons_of_mem _ h)
  have hown : s.vm.findClass RX10 = some m.cls := findClass_of_methodNamed B.named
  subst hsz
  have hD := hD0.self (sz := s.heap.size)
  generalize hAe : va_A [(ce_X10 ob ob_thrown ob_world ob_images ob_hasImage ob_tape ob_taped ob_five ob_size ob_at ob_from ob_token ob_value ob_faultKind ob_faultPlace ob_fresh ob_parts ob_houses ob_houseMany ob_worthOf ob_byCall ob_over ob_bestSet ob_bestOver ob_bestWorth ob_row ob_tenDebts ob_tenMany ob_fewestBy ob_covered ob_queue ob_cameBy ob_parent ob_met ob_calls ob_callMany ob_calledOn ob_saved ob_many ob_width ob_numbers ob_moving), (ce_i4 y ob_many fob_many), (ce_i4 y ob_width fob_width), (ce_l240 y ob_numbers fob_numbers)] s.heap.size = A at hD ⊢
  have hA : ∀ q : Nat, s.heap.size ≤ q → A q := fun q h => by rw [← hAe]; exact Or.inr h
  have hS : va_S A s.heap s.heap [] := va_S.rf
  have hP : va_P G vwCl [(ce_X10 ob ob_thrown ob_world ob_images ob_hasImage ob_tape ob_taped ob_five ob_size ob_at ob_from ob_token ob_value ob_faultKind ob_faultPlace ob_fresh ob_parts ob_houses ob_houseMany ob_worthOf ob_byCall ob_over ob_bestSet ob_bestOver ob_bestWorth ob_row ob_tenDebts ob_tenMany ob_fewestBy ob_covered ob_queue ob_cameBy ob_parent ob_met ob_calls ob_callMany ob_calledOn ob_saved ob_many ob_width ob_numbers ob_moving), (ce_i4 y ob_many fob_many), (ce_i4 y ob_width fob_width), (ce_l240 y ob_numbers fob_numbers)] s.heap := hP
  have hl := lv_entry ([.ref ob, .int 0, .int a2, .long a3]) (n := 5) (Nat.le_of_ble_eq_true rfl)
  rw [lg_entry_eq]
  generalize (lg_sl ([.ref ob, .int 0, .int a2, .long a3]) ++ List.replicate (5 - (lg_sl ([.ref ob, .int 0, .int a2, .long a3])).length) Slot.unset).toArray = ls at hl ⊢
  have hl : lv_has ls 5 [(0, .ref ob), (1, .int 0), (2, .int a2), (3, .long a3)] := hl
  refine lv_iload_n hx hb dX10_write_0 rfl (lv_at hl 1 rfl) ?_
  refine cSim (As := [.int 0]) (rest := []) ⟨hx, hb, hml, hown, hw0⟩ hA hK hP hD hS [] (fisSlotM l G y _ 0 ) rfl ⟨(callB_of 1 hw0 (gA m_543) rfl rfl rfl (hw0 _ m_41) (hw0 _ m_433) cb_X10_isSlot ⟨Nat.le_of_ble_eq_true rfl, Nat.le_of_ble_eq_true rfl⟩), (hw0 _ m_434)⟩ rfl hl.1 (Nat.le_of_ble_eq_true rfl) dX10_write_1 ⟨Nat.le_of_ble_eq_true rfl, Nat.le_of_ble_eq_true rfl⟩ (fun r_1001 w_1001 H locs hw_1001 hP hD hS => ?_)
  rcases hw_1001 with ⟨h_1002, rfl, rfl⟩ | ⟨h_1003, h_1004, rfl, rfl⟩
  · skip
    exact False.elim (by have h9 : Int32.toInt 0 = 0 := (by decide); omega)
  · skip
    obtain ⟨hP, hD⟩ : vPD G A H [(ce_X10 ob ob_thrown ob_world ob_images ob_hasImage ob_tape ob_taped ob_five ob_size ob_at ob_from ob_token ob_value ob_faultKind ob_faultPlace ob_fresh ob_parts ob_houses ob_houseMany ob_worthOf ob_byCall ob_over ob_bestSet ob_bestOver ob_bestWorth ob_row ob_tenDebts ob_tenMany ob_fewestBy ob_covered ob_queue ob_cameBy ob_parent ob_met ob_calls ob_callMany ob_calledOn ob_saved ob_many ob_width ob_numbers ob_moving), (ce_i4 y ob_many fob_many), (ce_i4 y ob_width fob_width), (ce_l240 y ob_numbers fob_numbers)] := ⟨hP, hD⟩
    refine lv_if_ne (tgt := 10) hx hb dX10_write_4 (by decide) (fun _ => ?_) (fun c9 => absurd c9 (by decide))
    refine lv_aload_n hx hb dX10_write_10 rfl (lv_at hl 0 rfl) ?_
    refine va_get (D := G) (ci := 10) (v := .ref ob_many) (C := RX10) (T := TX10) (N := 41) hx hb hw0 inA_wsX100 hown hK.1 hP 0 rfl rfl 37 (by decide) (hw0 _ m_406) (fun _ h9 => h9) rfl dX10_write_11 ?_
    refine lv_iload_n hx hb dX10_write_14 rfl (lv_at hl 1 rfl) ?_
    refine va_iald hx hb hK.1 hP 1 1 rfl rfl (vi (bkc (x := 0) (c := 0) (by decide)) (by decide)) dX10_write_15 ?_
    refine lv_topi (fun v_1005 ev_1005 => ?_)
    have bv_1005 : (-1 : Int) ≤ v_1005.toInt ∧ v_1005.toInt ≤ 60 := rd_b ev_1005 p_fob_many
    have yv_1005 : v_1005.toInt = (fob_many 0).toInt := congrArg Int32.toInt ev_1005
    refine lv_iconst (v := (-1)) hx hb dX10_write_16 (by decide) ?_
    refine lv_icmp_ne (tgt := 23) hx hb dX10_write_17 (by decide) (fun c_1006 => ?_) (fun c_1006 => ?_)
    · skip
      have nc_1006 := nb_ne (0) (60) c_1006 bv_1005 (k := -1) (by decide) (by decide)
      refine lv_iload_n hx hb dX10_write_23 rfl (lv_at hl 2 rfl) ?_
      refine lv_i2l hx hb dX10_write_24 rfl ?_
      refine lv_lconst (v := 0) hx hb dX10_write_25 (by decide) ?_
      refine lv_aload_n hx hb dX10_write_26 rfl (lv_at hl 0 rfl) ?_
      refine va_get (D := G) (ci := 10) (v := .ref ob_many) (C := RX10) (T := TX10) (N := 41) hx hb hw0 inA_wsX100 hown hK.1 hP 0 rfl rfl 37 (by decide) (hw0 _ m_406) (fun _ h9 => h9) rfl dX10_write_27 ?_
      refine lv_iload_n hx hb dX10_write_30 rfl (lv_at hl 1 rfl) ?_
      refine va_iald hx hb hK.1 hP 1 1 rfl rfl (vi (bkc (x := 0) (c := 0) (by decide)) (by decide)) dX10_write_31 ?_
      refine lv_topi (fun v_1007 ev_1007 => ?_)
      obtain rfl : v_1005 = v_1007 := (ev_1007.trans (ev_1005.symm)).symm
      refine lv_iconst (v := 1) hx hb dX10_write_32 (by decide) ?_
      refine lv_isub hx hb dX10_write_33 ?_
      refine lv_topi (fun v_1008 ev_1008 => ?_)
      have qv_1008 := ba_sub ev_1008 nc_1006.1 (bkc (x := 1) (c := 1) (by decide)) (by decide)
      have bv_1008 : (-1 : Int) ≤ v_1008.toInt ∧ v_1008.toInt ≤ 59 := bq_sub qv_1008 nc_1006.1 (bkc (x := 1) (c := 1) (by decide)) _ _ (by decide)
      have qv_1008 : v_1008.toInt = v_1005.toInt - (1) := qv_1008
      refine lv_i2l hx hb dX10_write_34 rfl ?_
      refine cSim (As := [.long (a2).toInt64, .long 0, .long (v_1008).toInt64]) (rest := []) ⟨hx, hb, hml, hown, hw0⟩ hA hK hP hD hS [] (sX10_in l G y _ ((a2).toInt64) 0 ((v_1008).toInt64) ) rfl ⟨(callB_of 3 hw0 (gA m_516) rfl rfl rfl (hw0 _ m_41) (hw0 _ m_345) cb_X10_in ⟨Nat.le_of_ble_eq_true rfl, Nat.le_of_ble_eq_true rfl⟩), (hw0 _ m_346)⟩ rfl hl.1 (Nat.le_of_ble_eq_true rfl) dX10_write_35 ⟨Nat.le_of_ble_eq_true rfl, Nat.le_of_ble_eq_true rfl⟩ (fun r_1009 w_1009 H locs hw_1009 hP hD hS => ?_)
      rcases hw_1009 with ⟨h_1010, rfl, rfl⟩ | ⟨h_1011, rfl, rfl⟩
      · skip
        have h_1012 : a2.toInt < (0 : Int) ∨ (v_1008.toInt : Int) < a2.toInt := in_n h_1010 (Int32.toInt_toInt64 _) (by decide) (Int32.toInt_toInt64 _)
        obtain ⟨hP, hD⟩ : vPD G A H [(ce_X10 ob ob_thrown ob_world ob_images ob_hasImage ob_tape ob_taped ob_five ob_size ob_at ob_from ob_token ob_value ob_faultKind ob_faultPlace ob_fresh ob_parts ob_houses ob_houseMany ob_worthOf ob_byCall ob_over ob_bestSet ob_bestOver ob_bestWorth ob_row ob_tenDebts ob_tenMany ob_fewestBy ob_covered ob_queue ob_cameBy ob_parent ob_met ob_calls ob_callMany ob_calledOn ob_saved ob_many ob_width ob_numbers ob_moving), (ce_i4 y ob_many fob_many), (ce_i4 y ob_width fob_width), (ce_l240 y ob_numbers fob_numbers)] := ⟨hP, hD⟩
        refine lv_if_ne (tgt := 44) hx hb dX10_write_38 (by decide) (fun c9 => absurd (by decide) c9) (fun _ => ?_)
        refine lv_bipush (v := (-7)) hx hb dX10_write_41 (by decide) ?_
        exact W.iret (v := (-7)) hx hb hr (fun t ht hW => ⟨⟨(-7), _, rfl, Or.inr (Or.inl (⟨by have h90 : Int32.toInt (-7) = -7 := (by decide); have h91 : Int32.toInt 0 = 0 := (by decide); omega, rfl, rfl⟩)), by rw [ht]; exact hP, hD⟩, hS.F ht⟩) hS.2.2 dX10_write_43
      · skip
        have h_1013 : (0 : Int) ≤ a2.toInt ∧ a2.toInt ≤ (v_1008.toInt : Int) := in_y h_1011 (Int32.toInt_toInt64 _) (by decide) (Int32.toInt_toInt64 _)
        have h_1014_0 := (btop a2)
        have h_1014_1 := True.intro
        have h_1014_2 := bv_1008
        have h_1014 : (0 : Int) ≤ a2.toInt ∧ a2.toInt ≤ 59 := by omega
        have h_1015 : (0 : Int) ≤ v_1008.toInt ∧ v_1008.toInt ≤ 59 := by have h9 := bv_1008; have h8 := h_1014; omega
        obtain ⟨hP, hD⟩ : vPD G A H [(ce_X10 ob ob_thrown ob_world ob_images ob_hasImage ob_tape ob_taped ob_five ob_size ob_at ob_from ob_token ob_value ob_faultKind ob_faultPlace ob_fresh ob_parts ob_houses ob_houseMany ob_worthOf ob_byCall ob_over ob_bestSet ob_bestOver ob_bestWorth ob_row ob_tenDebts ob_tenMany ob_fewestBy ob_covered ob_queue ob_cameBy ob_parent ob_met ob_calls ob_callMany ob_calledOn ob_saved ob_many ob_width ob_numbers ob_moving), (ce_i4 y ob_many fob_many), (ce_i4 y ob_width fob_width), (ce_l240 y ob_numbers fob_numbers)] := ⟨hP, hD⟩
        refine lv_if_ne (tgt := 44) hx hb dX10_write_38 (by decide) (fun _ => ?_) (fun c9 => absurd c9 (by decide))
        refine lv_aload_n hx hb dX10_write_44 rfl (lv_at hl 0 rfl) ?_
        refine va_get (D := G) (ci := 10) (v := .ref ob_numbers) (C := RX10) (T := TX10) (N := 41) hx hb hw0 inA_wsX100 hown hK.1 hP 0 rfl rfl 39 (by decide) (hw0 _ m_435) (fun _ h9 => h9) rfl dX10_write_45 ?_
        refine lv_bipush (v := 60) hx hb dX10_write_48 (by decide) ?_
        refine lv_iload_n hx hb dX10_write_50 rfl (lv_at hl 1 rfl) ?_
        refine lv_imul hx hb dX10_write_51 ?_
        refine lv_topi (fun v_1016 ev_1016 => ?_)
        obtain rfl : 0 = v_1016 := (ev_1016.trans (by decide)).symm
        refine lv_iload_n hx hb dX10_write_52 rfl (lv_at hl 2 rfl) ?_
        refine lv_iadd hx hb dX10_write_53 ?_
        refine lv_topi (fun v_1017 ev_1017 => ?_)
        have qv_1017 := ba_add ev_1017 (bkc (x := 0) (c := 0) (by decide)) h_1014 (by decide)
        have bv_1017 : (0 : Int) ≤ v_1017.toInt ∧ v_1017.toInt ≤ 59 := bq_add qv_1017 (bkc (x := 0) (c := 0) (by decide)) h_1014 _ _ (by decide)
        have qv_1017 : v_1017.toInt = (0) + a2.toInt := qv_1017
        refine lv_lload_n hx hb dX10_write_54 rfl (lv_at hl 3 rfl) ?_
        refine lv_aload_n hx hb dX10_write_55 rfl (lv_at hl 0 rfl) ?_
        refine va_get (D := G) (ci := 10) (v := .ref ob_width) (C := RX10) (T := TX10) (N := 41) hx hb hw0 inA_wsX100 hown hK.1 hP 0 rfl rfl 38 (by decide) (hw0 _ m_527) (fun _ h9 => h9) rfl dX10_write_56 ?_
        refine lv_iload_n hx hb dX10_write_59 rfl (lv_at hl 1 rfl) ?_
        refine va_iald hx hb hK.1 hP 2 1 rfl rfl (vi (bkc (x := 0) (c := 0) (by decide)) (by decide)) dX10_write_60 ?_
        refine lv_topi (fun v_1018 ev_1018 => ?_)
        have bv_1018 : (0 : Int) ≤ v_1018.toInt ∧ v_1018.toInt ≤ 3 := rd_b ev_1018 p_fob_width
        have yv_1018 : v_1018.toInt = (fob_width 0).toInt := congrArg Int32.toInt ev_1018
        refine cSlm (As := [.long a3, .int v_1018]) (rest := [.int v_1017, .ref ob_numbers]) ⟨hx, hb, hml, hown, hw0⟩ hA hK hP hD hS [] (sX10_cut l G y _ a3 v_1018 bv_1018) rfl ⟨(callB_of 2 hw0 (gA m_412) rfl rfl rfl (hw0 _ m_41) (hw0 _ m_699) cb_X10_cut ⟨Nat.le_of_ble_eq_true rfl, Nat.le_of_ble_eq_true rfl⟩), (hw0 _ m_700)⟩ rfl hl.1 (Nat.le_of_ble_eq_true rfl) dX10_write_61 ⟨Nat.le_of_ble_eq_true rfl, Nat.le_of_ble_eq_true rfl⟩ (fun r_1019 w_1019 H locs hw_1019 hP hD hS => ?_)
        obtain ⟨v_1020, er_1019, rfl⟩ := hw_1019
        subst r_1019
        obtain ⟨hP, hD⟩ : vPD G A H [(ce_X10 ob ob_thrown ob_world ob_images ob_hasImage ob_tape ob_taped ob_five ob_size ob_at ob_from ob_token ob_value ob_faultKind ob_faultPlace ob_fresh ob_parts ob_houses ob_houseMany ob_worthOf ob_byCall ob_over ob_bestSet ob_bestOver ob_bestWorth ob_row ob_tenDebts ob_tenMany ob_fewestBy ob_covered ob_queue ob_cameBy ob_parent ob_met ob_calls ob_callMany ob_calledOn ob_saved ob_many ob_width ob_numbers ob_moving), (ce_i4 y ob_many fob_many), (ce_i4 y ob_width fob_width), (ce_l240 y ob_numbers fob_numbers)] := ⟨hP, hD⟩
        refine va_last hx hb hK.1 hP hD hS 3 2 rfl rfl (vi bv_1017 (by decide)) dX10_write_64 (fun H locs hP hD hS => ?_)
        generalize hf_1021 : (vp_updL fob_numbers (v_1017 : Int32).toNatClampNeg v_1020) = f_1021 at hP hD
        obtain ⟨hP, hD⟩ : vPD G A H [(ce_X10 ob ob_thrown ob_world ob_images ob_hasImage ob_tape ob_taped ob_five ob_size ob_at ob_from ob_token ob_value ob_faultKind ob_faultPlace ob_fresh ob_parts ob_houses ob_houseMany ob_worthOf ob_byCall ob_over ob_bestSet ob_bestOver ob_bestWorth ob_row ob_tenDebts ob_tenMany ob_fewestBy ob_covered ob_queue ob_cameBy ob_parent ob_met ob_calls ob_callMany ob_calledOn ob_saved ob_many ob_width ob_numbers ob_moving), (ce_i4 y ob_many fob_many), (ce_i4 y ob_width fob_width), (ce_l240 y ob_numbers f_1021)] := ⟨hP, hD⟩
        refine lv_iconst (v := 0) hx hb dX10_write_65 (by decide) ?_
        exact W.iret (v := 0) hx hb hr (fun t ht hW => ⟨⟨0, _, rfl, Or.inr (Or.inr (⟨f_1021, h_1014, by have h90 : Int32.toInt 0 = 0 := (by decide); omega, rfl, rfl⟩)), by rw [ht]; exact hP, hD⟩, hS.F ht⟩) hS.2.2 dX10_write_66
    · skip
      have nc_1006 := nb_eq (-1) (-1) c_1006 bv_1005 (bkc (x := (-1)) (c := -1) (by decide)) (by decide)
      refine lv_bipush (v := (-6)) hx hb dX10_write_20 (by decide) ?_
      exact W.iret (v := (-6)) hx hb hr (fun t ht hW => ⟨⟨(-6), _, rfl, Or.inl (⟨by have h90 : Int32.toInt (-6) = -6 := (by decide); have h91 : Int32.toInt 0 = 0 := (by decide); omega, rfl, rfl⟩), by rw [ht]; exact hP, hD⟩, hS.F ht⟩) hS.2.2 dX10_write_22

set_option maxHeartbeats 4000000 in
set_option maxRecDepth 100000 in
theorem frowM1 (l : Launch) (G : va_G) (y : Nat → ClassId) (sz : Nat) (ob : Nat) (a2 : Int32) (a3 : Int32) (ob_thrown : Int32) (ob_world : Nat) (ob_images : Nat) (ob_hasImage : Nat) (ob_tape : Nat) (ob_taped : Int32) (ob_five : Nat) (ob_size : Int32) (ob_at : Int32) (ob_from : Int32) (ob_token : Int32) (ob_value : Int32) (ob_faultKind : Int32) (ob_faultPlace : Int32) (ob_fresh : Nat) (ob_parts : Nat) (ob_houses : Nat) (ob_houseMany : Int32) (ob_worthOf : Nat) (ob_byCall : Nat) (ob_over : Nat) (ob_bestSet : Int32) (ob_bestOver : Int32) (ob_bestWorth : Int32) (ob_row : Nat) (ob_tenDebts : Nat) (ob_tenMany : Int32) (ob_fewestBy : Nat) (ob_covered : Nat) (ob_queue : Nat) (ob_cameBy : Nat) (ob_parent : Nat) (ob_met : Nat) (ob_calls : Nat) (ob_callMany : Int32) (ob_calledOn : Nat) (ob_saved : Nat) (ob_many : Nat) (ob_width : Nat) (ob_numbers : Nat) (ob_moving : Nat) (fob_many : Nat → Int32) (fob_width : Nat → Int32) (fob_numbers : Nat → Int64) (p_ob_taped : (0 : Int) ≤ ob_taped.toInt ∧ ob_taped.toInt ≤ 1400) (p_ob_size : (0 : Int) ≤ ob_size.toInt ∧ ob_size.toInt ≤ 1400) (p_ob_at : (0 : Int) ≤ ob_at.toInt ∧ ob_at.toInt ≤ 1400) (p_ob_from : (0 : Int) ≤ ob_from.toInt ∧ ob_from.toInt ≤ 1400) (p_ob_token : (0 : Int) ≤ ob_token.toInt ∧ ob_token.toInt ≤ 4) (p_ob_value : (0 : Int) ≤ ob_value.toInt ∧ ob_value.toInt ≤ 9999) (p_ob_faultKind : (0 : Int) ≤ ob_faultKind.toInt ∧ ob_faultKind.toInt ≤ 3) (p_ob_houseMany : (0 : Int) ≤ ob_houseMany.toInt ∧ ob_houseMany.toInt ≤ 10) (p_ob_bestSet : (0 : Int) ≤ ob_bestSet.toInt ∧ ob_bestSet.toInt ≤ 1023) (p_ob_bestOver : (-1 : Int) ≤ ob_bestOver.toInt ∧ ob_bestOver.toInt ≤ 180) (p_ob_tenMany : (0 : Int) ≤ ob_tenMany.toInt ∧ ob_tenMany.toInt ≤ 10) (p_ob_callMany : (0 : Int) ≤ ob_callMany.toInt ∧ ob_callMany.toInt ≤ 16) (p_fob_many : ∀ i, (-1 : Int) ≤ (fob_many i).toInt ∧ (fob_many i).toInt ≤ 60) (p_fob_width : ∀ i, (0 : Int) ≤ (fob_width i).toInt ∧ (fob_width i).toInt ≤ 3) : Met l yX10_row (Cond.code yX10_row cX10_row 5 (some .int) :: wAll) ({ frames := 2, cells := 0, slots := 0, locals := 45 }) (va_Pc [.ref ob, .int 1, .int a2, .int a3] (kp G y sz [(ce_X10 ob ob_thrown ob_world ob_images ob_hasImage ob_tape ob_taped ob_five ob_size ob_at ob_from ob_token ob_value ob_faultKind ob_faultPlace ob_fresh ob_parts ob_houses ob_houseMany ob_worthOf ob_byCall ob_over ob_bestSet ob_bestOver ob_bestWorth ob_row ob_tenDebts ob_tenMany ob_fewestBy ob_covered ob_queue ob_cameBy ob_parent ob_met ob_calls ob_callMany ob_calledOn ob_saved ob_many ob_width ob_numbers ob_moving), (ce_i4 y ob_many fob_many), (ce_i4 y ob_width fob_width), (ce_l240 y ob_numbers fob_numbers)])) (va_Qi (fun (r : Int32) (w : va_W) => ((a2.toInt < 0 ∨ 3 < a2.toInt ∨ 60 < a3.toInt) ∧ r = (-2) ∧ w = [(ce_X10 ob ob_thrown ob_world ob_images ob_hasImage ob_tape ob_taped ob_five ob_size ob_at ob_from ob_token ob_value ob_faultKind ob_faultPlace ob_fresh ob_parts ob_houses ob_houseMany ob_worthOf ob_byCall ob_over ob_bestSet ob_bestOver ob_bestWorth ob_row ob_tenDebts ob_tenMany ob_fewestBy ob_covered ob_queue ob_cameBy ob_parent ob_met ob_calls ob_callMany ob_calledOn ob_saved ob_many ob_width ob_numbers ob_moving), (ce_i4 y ob_many fob_many), (ce_i4 y ob_width fob_width), (ce_l240 y ob_numbers fob_numbers)]) ∨ (((0 : Int) ≤ a2.toInt ∧ a2.toInt ≤ 3) ∧ (0 ≤ a2.toInt ∧ a2.toInt ≤ 3 ∧ a3.toInt < 0) ∧ r = (-3) ∧ w = [(ce_X10 ob ob_thrown ob_world ob_images ob_hasImage ob_tape ob_taped ob_five ob_size ob_at ob_from ob_token ob_value ob_faultKind ob_faultPlace ob_fresh ob_parts ob_houses ob_houseMany ob_worthOf ob_byCall ob_over ob_bestSet ob_bestOver ob_bestWorth ob_row ob_tenDebts ob_tenMany ob_fewestBy ob_covered ob_queue ob_cameBy ob_parent ob_met ob_calls ob_callMany ob_calledOn ob_saved ob_many ob_width ob_numbers ob_moving), (ce_i4 y ob_many fob_many), (ce_i4 y ob_width fob_width), (ce_l240 y ob_numbers fob_numbers)]) ∨ (∃ (f_195 : Nat → Int32) (f_196 : Nat → Int32) (f_197 : Nat → Int64), (∀ i, (-1 : Int) ≤ (f_195 i).toInt ∧ (f_195 i).toInt ≤ 60) ∧ (∀ i, (0 : Int) ≤ (f_196 i).toInt ∧ (f_196 i).toInt ≤ 3) ∧ ((0 : Int) ≤ a2.toInt ∧ a2.toInt ≤ 3) ∧ ((0 : Int) ≤ a3.toInt ∧ a3.toInt ≤ 60) ∧ (0 ≤ a2.toInt ∧ a2.toInt ≤ 3 ∧ 0 ≤ a3.toInt ∧ a3.toInt ≤ 60) ∧ ((f_195 0).toInt = (fob_many 0).toInt) ∧ ((f_196 0).toInt = (fob_width 0).toInt) ∧ ((f_195 1).toInt = a3.toInt) ∧ ((f_196 1).toInt = a2.toInt) ∧ ((f_195 2).toInt = (fob_many 2).toInt) ∧ ((f_196 2).toInt = (fob_width 2).toInt) ∧ ((f_195 3).toInt = (fob_many 3).toInt) ∧ ((f_196 3).toInt = (fob_width 3).toInt) ∧ r = 0 ∧ w = [(ce_X10 ob ob_thrown ob_world ob_images ob_hasImage ob_tape ob_taped ob_five ob_size ob_at ob_from ob_token ob_value ob_faultKind ob_faultPlace ob_fresh ob_parts ob_houses ob_houseMany ob_worthOf ob_byCall ob_over ob_bestSet ob_bestOver ob_bestWorth ob_row ob_tenDebts ob_tenMany ob_fewestBy ob_covered ob_queue ob_cameBy ob_parent ob_met ob_calls ob_callMany ob_calledOn ob_saved ob_many ob_width ob_numbers ob_moving), (ce_i4 y ob_many f_195), (ce_i4 y ob_width f_196), (ce_l240 y ob_numbers f_197)])) (kq G (va_A [(ce_X10 ob ob_thrown ob_world ob_images ob_hasImage ob_tape ob_taped ob_five ob_size ob_at ob_from ob_token ob_value ob_faultKind ob_faultPlace ob_fresh ob_parts ob_houses ob_houseMany ob_worthOf ob_byCall ob_over ob_bestSet ob_bestOver ob_bestWorth ob_row ob_tenDebts ob_tenMany ob_fewestBy ob_covered ob_queue ob_cameBy ob_parent ob_met ob_calls ob_callMany ob_calledOn ob_saved ob_many ob_width ob_numbers ob_moving), (ce_i4 y ob_many fob_many), (ce_i4 y ob_width fob_width), (ce_l240 y ob_numbers fob_numbers)] sz)) (va_A [(ce_X10 ob ob_thrown ob_world ob_images ob_hasImage ob_tape ob_taped ob_five ob_size ob_at ob_from ob_token ob_value ob_faultKind ob_faultPlace ob_fresh ob_parts ob_houses ob_houseMany ob_worthOf ob_byCall ob_over ob_bestSet ob_bestOver ob_bestWorth ob_row ob_tenDebts ob_tenMany ob_fewestBy ob_covered ob_queue ob_cameBy ob_parent ob_met ob_calls ob_callMany ob_calledOn ob_saved ob_many ob_width ob_numbers ob_moving), (ce_i4 y ob_many fob_many), (ce_i4 y ob_width fob_width), (ce_l240 y ob_numbers fob_numbers)] sz)) 0 0 (va_A [(ce_X10 ob ob_thrown ob_world ob_images ob_hasImage ob_tape ob_taped ob_five ob_size ob_at ob_from ob_token ob_value ob_faultKind ob_faultPlace ob_fresh ob_parts ob_houses ob_houseMany ob_worthOf ob_byCall ob_over ob_bestSet ob_bestOver ob_bestWorth ob_row ob_tenDebts ob_tenMany ob_fewestBy ob_covered ob_queue ob_cameBy ob_parent ob_met ob_calls ob_callMany ob_calledOn ob_saved ob_many ob_width ob_numbers ob_moving), (ce_i4 y ob_many fob_many), (ce_i4 y ob_width fob_width), (ce_l240 y ob_numbers fob_numbers)] sz) := by
  refine Met.ofW (cc := cX10_row) (maxL := 5) (ret := (some .int)) (by decide) rfl ?_
  intro p e s m args below meth c s₁ B hml hv
  obtain ⟨rfl, hsz, hP, hK, hD0⟩ := hv
  have hx := B.exec
  have hb := B.bytes
  have hr := B.returns
  have hw0 : ∀ w ∈ wAll, w.before _ s = true := fun w h => atoms_spec (ws := Cond.code yX10_row cX10_row 5 (some .int) :: wAll) B.pre w (List.mem_cons_of_mem _ h)
  have hown : s.vm.findClass RX10 = some m.cls := findClass_of_methodNamed B.named
  subst hsz
  have hD := hD0.self (sz := s.heap.size)
  generalize hAe : va_A [(ce_X10 ob ob_thrown ob_world ob_images ob_hasImage ob_tape ob_taped ob_five ob_size ob_at ob_from ob_token ob_value ob_faultKind ob_faultPlace ob_fresh ob_parts ob_houses ob_houseMany ob_worthOf ob_byCall ob_over ob_bestSet ob_bestOver ob_bestWorth ob_row ob_tenDebts ob_tenMany ob_fewestBy ob_covered ob_queue ob_cameBy ob_parent ob_met ob_calls ob_callMany ob_calledOn ob_saved ob_many ob_width ob_numbers ob_moving), (ce_i4 y ob_many fob_many), (ce_i4 y ob_width fob_width), (ce_l240 y ob_numbers fob_numbers)] s.heap.size = A at hD ⊢
  have hA : ∀ q : Nat, s.heap.size ≤ q → A q := fun q h => by rw [← hAe]; exact Or.inr h
  have hS : va_S A s.heap s.heap [] := va_S.rf
  have hP : va_P G vwCl [(ce_X10 ob ob_thrown ob_world ob_images ob_hasImage ob_tape ob_taped ob_five ob_size ob_at ob_from ob_token ob_value ob_faultKind ob_faultPlace ob_fresh ob_parts ob_houses ob_houseMany ob_worthOf ob_byCall ob_over ob_bestSet ob_bestOver ob_bestWorth ob_row ob_tenDebts ob_tenMany ob_fewestBy ob_covered ob_queue ob_cameBy ob_parent ob_met ob_calls ob_callMany ob_calledOn ob_saved ob_many ob_width ob_numbers ob_moving), (ce_i4 y ob_many fob_many), (ce_i4 y ob_width fob_width), (ce_l240 y ob_numbers fob_numbers)] s.heap := hP
  have hl := lv_entry ([.ref ob, .int 1, .int a2, .int a3]) (n := 5) (Nat.le_of_ble_eq_true rfl)
  rw [lg_entry_eq]
  generalize (lg_sl ([.ref ob, .int 1, .int a2, .int a3]) ++ List.replicate (5 - (lg_sl ([.ref ob, .int 1, .int a2, .int a3])).length) Slot.unset).toArray = ls at hl ⊢
  have hl : lv_has ls 5 [(0, .ref ob), (1, .int 1), (2, .int a2), (3, .int a3)] := hl
  refine lv_iload_n hx hb dX10_row_0 rfl (lv_at hl 1 rfl) ?_
  refine cSim (As := [.int 1]) (rest := []) ⟨hx, hb, hml, hown, hw0⟩ hA hK hP hD hS [] (fisSlotM l G y _ 1 ) rfl ⟨(callB_of 1 hw0 (gA m_543) rfl rfl rfl (hw0 _ m_41) (hw0 _ m_433) cb_X10_isSlot ⟨Nat.le_of_ble_eq_true rfl, Nat.le_of_ble_eq_true rfl⟩), (hw0 _ m_434)⟩ rfl hl.1 (Nat.le_of_ble_eq_true rfl) dX10_row_1 ⟨Nat.le_of_ble_eq_true rfl, Nat.le_of_ble_eq_true rfl⟩ (fun r_1001 w_1001 H locs hw_1001 hP hD hS => ?_)
  rcases hw_1001 with ⟨h_1002, rfl, rfl⟩ | ⟨h_1003, h_1004, rfl, rfl⟩
  · skip
    exact False.elim (by have h9 : Int32.toInt 1 = 1 := (by decide); omega)
  · skip
    obtain ⟨hP, hD⟩ : vPD G A H [(ce_X10 ob ob_thrown ob_world ob_images ob_hasImage ob_tape ob_taped ob_five ob_size ob_at ob_from ob_token ob_value ob_faultKind ob_faultPlace ob_fresh ob_parts ob_houses ob_houseMany ob_worthOf ob_byCall ob_over ob_bestSet ob_bestOver ob_bestWorth ob_row ob_tenDebts ob_tenMany ob_fewestBy ob_covered ob_queue ob_cameBy ob_parent ob_met ob_calls ob_callMany ob_calledOn ob_saved ob_many ob_width ob_numbers ob_moving), (ce_i4 y ob_many fob_many), (ce_i4 y ob_width fob_width), (ce_l240 y ob_numbers fob_numbers)] := ⟨hP, hD⟩
    refine lv_if_eq (tgt := 25) hx hb dX10_row_4 (by decide) (fun c9 => absurd c9 (by decide)) (fun _ => ?_)
    refine lv_iload_n hx hb dX10_row_7 rfl (lv_at hl 2 rfl) ?_
    refine lv_i2l hx hb dX10_row_8 rfl ?_
    refine lv_lconst (v := 0) hx hb dX10_row_9 (by decide) ?_
    refine lv_ldc2 (own := RX10) (v := 3) hx hb hown (hw0 _ m_398) dX10_row_10 ?_
    refine cSim (As := [.long (a2).toInt64, .long 0, .long 3]) (rest := []) ⟨hx, hb, hml, hown, hw0⟩ hA hK hP hD hS [] (sX10_in l G y _ ((a2).toInt64) 0 3 ) rfl ⟨(callB_of 3 hw0 (gA m_516) rfl rfl rfl (hw0 _ m_41) (hw0 _ m_345) cb_X10_in ⟨Nat.le_of_ble_eq_true rfl, Nat.le_of_ble_eq_true rfl⟩), (hw0 _ m_346)⟩ rfl hl.1 (Nat.le_of_ble_eq_true rfl) dX10_row_13 ⟨Nat.le_of_ble_eq_true rfl, Nat.le_of_ble_eq_true rfl⟩ (fun r_1005 w_1005 H locs hw_1005 hP hD hS => ?_)
    rcases hw_1005 with ⟨h_1006, rfl, rfl⟩ | ⟨h_1007, rfl, rfl⟩
    · skip
      have h_1008 : a2.toInt < (0 : Int) ∨ (3 : Int) < a2.toInt := in_n h_1006 (Int32.toInt_toInt64 _) (by decide) (by decide)
      obtain ⟨hP, hD⟩ : vPD G A H [(ce_X10 ob ob_thrown ob_world ob_images ob_hasImage ob_tape ob_taped ob_five ob_size ob_at ob_from ob_token ob_value ob_faultKind ob_faultPlace ob_fresh ob_parts ob_houses ob_houseMany ob_worthOf ob_byCall ob_over ob_bestSet ob_bestOver ob_bestWorth ob_row ob_tenDebts ob_tenMany ob_fewestBy ob_covered ob_queue ob_cameBy ob_parent ob_met ob_calls ob_callMany ob_calledOn ob_saved ob_many ob_width ob_numbers ob_moving), (ce_i4 y ob_many fob_many), (ce_i4 y ob_width fob_width), (ce_l240 y ob_numbers fob_numbers)] := ⟨hP, hD⟩
      refine lv_if_eq (tgt := 25) hx hb dX10_row_16 (by decide) (fun _ => ?_) (fun c9 => absurd (by decide) c9)
      refine lv_bipush (v := (-2)) hx hb dX10_row_25 (by decide) ?_
      exact W.iret (v := (-2)) hx hb hr (fun t ht hW => ⟨⟨(-2), _, rfl, Or.inl (⟨by have h90 : Int32.toInt (-2) = -2 := (by decide); have h91 : Int32.toInt 1 = 1 := (by decide); omega, rfl, rfl⟩), by rw [ht]; exact hP, hD⟩, hS.F ht⟩) hS.2.2 dX10_row_27
    · skip
      have h_1009 : (0 : Int) ≤ a2.toInt ∧ a2.toInt ≤ (3 : Int) := in_y h_1007 (Int32.toInt_toInt64 _) (by decide) (by decide)
      have h_1010_0 := (btop a2)
      have h_1010_1 := True.intro
      have h_1010_2 := True.intro
      have h_1010 : (0 : Int) ≤ a2.toInt ∧ a2.toInt ≤ 3 := by omega
      obtain ⟨hP, hD⟩ : vPD G A H [(ce_X10 ob ob_thrown ob_world ob_images ob_hasImage ob_tape ob_taped ob_five ob_size ob_at ob_from ob_token ob_value ob_faultKind ob_faultPlace ob_fresh ob_parts ob_houses ob_houseMany ob_worthOf ob_byCall ob_over ob_bestSet ob_bestOver ob_bestWorth ob_row ob_tenDebts ob_tenMany ob_fewestBy ob_covered ob_queue ob_cameBy ob_parent ob_met ob_calls ob_callMany ob_calledOn ob_saved ob_many ob_width ob_numbers ob_moving), (ce_i4 y ob_many fob_many), (ce_i4 y ob_width fob_width), (ce_l240 y ob_numbers fob_numbers)] := ⟨hP, hD⟩
      refine lv_if_eq (tgt := 25) hx hb dX10_row_16 (by decide) (fun c9 => absurd c9 (by decide)) (fun _ => ?_)
      refine lv_iload_n hx hb dX10_row_19 rfl (lv_at hl 3 rfl) ?_
      refine lv_bipush (v := 60) hx hb dX10_row_20 (by decide) ?_
      refine lv_icmp_le (tgt := 28) hx hb dX10_row_22 (by decide) (fun c_1011 => ?_) (fun c_1011 => ?_)
      · skip
        have nc_1011 := nb_le (60) (60) c_1011 (btop a3) (bkc (x := 60) (c := 60) (by decide)) (by decide)
        refine lv_iload_n hx hb dX10_row_28 rfl (lv_at hl 3 rfl) ?_
        refine lv_if_ge (tgt := 35) hx hb dX10_row_29 (by decide) (fun c_1012 => ?_) (fun c_1012 => ?_)
        · skip
          have nc_1012 := nb_le (0) (0) c_1012 (bkc (x := 0) (c := 0) (by decide)) nc_1011.1 (by decide)
          refine lv_aload_n hx hb dX10_row_35 rfl (lv_at hl 0 rfl) ?_
          refine va_get (D := G) (ci := 10) (v := .ref ob_many) (C := RX10) (T := TX10) (N := 41) hx hb hw0 inA_wsX100 hown hK.1 hP 0 rfl rfl 37 (by decide) (hw0 _ m_406) (fun _ h9 => h9) rfl dX10_row_36 ?_
          refine lv_iload_n hx hb dX10_row_39 rfl (lv_at hl 1 rfl) ?_
          refine lv_iload_n hx hb dX10_row_40 rfl (lv_at hl 3 rfl) ?_
          refine va_iast hx hb hK.1 hP hD hS 1 1 rfl rfl (vi (bkc (x := 1) (c := 1) (by decide)) (by decide)) dX10_row_41 (fun H locs hP hD hS => ?_)
          generalize hf_1013 : (upd fob_many (1 : Int32).toNatClampNeg a3) = f_1013 at hP hD
          have bf_1013 : ∀ i, (-1 : Int) ≤ (f_1013 i).toInt ∧ (f_1013 i).toInt ≤ 60 := hf_1013 ▸ up_b p_fob_many (bw (-1) (60) nc_1012.2.1 (by decide))
          have zf_1013_0 : (f_1013 0).toInt = (fob_many 0).toInt := hf_1013 ▸ pin_ne (ix_not (bkc (x := 1) (c := 1) (by decide)) (by decide))
          have zf_1013_1 : (f_1013 1).toInt = (a3 : Int32).toInt := hf_1013 ▸ pin_eq (by decide)
          have zf_1013_2 : (f_1013 2).toInt = (fob_many 2).toInt := hf_1013 ▸ pin_ne (ix_not (bkc (x := 1) (c := 1) (by decide)) (by decide))
          have zf_1013_3 : (f_1013 3).toInt = (fob_many 3).toInt := hf_1013 ▸ pin_ne (ix_not (bkc (x := 1) (c := 1) (by decide)) (by decide))
          obtain ⟨hP, hD⟩ : vPD G A H [(ce_X10 ob ob_thrown ob_world ob_images ob_hasImage ob_tape ob_taped ob_five ob_size ob_at ob_from ob_token ob_value ob_faultKind ob_faultPlace ob_fresh ob_parts ob_houses ob_houseMany ob_worthOf ob_byCall ob_over ob_bestSet ob_bestOver ob_bestWorth ob_row ob_tenDebts ob_tenMany ob_fewestBy ob_covered ob_queue ob_cameBy ob_parent ob_met ob_calls ob_callMany ob_calledOn ob_saved ob_many ob_width ob_numbers ob_moving), (ce_i4 y ob_many f_1013), (ce_i4 y ob_width fob_width), (ce_l240 y ob_numbers fob_numbers)] := ⟨hP, hD⟩
          refine lv_aload_n hx hb dX10_row_42 rfl (lv_at hl 0 rfl) ?_
          refine va_get (D := G) (ci := 10) (v := .ref ob_width) (C := RX10) (T := TX10) (N := 41) hx hb hw0 inA_wsX100 hown hK.1 hP 0 rfl rfl 38 (by decide) (hw0 _ m_527) (fun _ h9 => h9) rfl dX10_row_43 ?_
          refine lv_iload_n hx hb dX10_row_46 rfl (lv_at hl 1 rfl) ?_
          refine lv_iload_n hx hb dX10_row_47 rfl (lv_at hl 2 rfl) ?_
          refine va_iast hx hb hK.1 hP hD hS 2 1 rfl rfl (vi (bkc (x := 1) (c := 1) (by decide)) (by decide)) dX10_row_48 (fun H locs hP hD hS => ?_)
          generalize hf_1014 : (upd fob_width (1 : Int32).toNatClampNeg a2) = f_1014 at hP hD
          have bf_1014 : ∀ i, (0 : Int) ≤ (f_1014 i).toInt ∧ (f_1014 i).toInt ≤ 3 := hf_1014 ▸ up_b p_fob_width h_1010
          have zf_1014_0 : (f_1014 0).toInt = (fob_width 0).toInt := hf_1014 ▸ pin_ne (ix_not (bkc (x := 1) (c := 1) (by decide)) (by decide))
          have zf_1014_1 : (f_1014 1).toInt = (a2 : Int32).toInt := hf_1014 ▸ pin_eq (by decide)
          have zf_1014_2 : (f_1014 2).toInt = (fob_width 2).toInt := hf_1014 ▸ pin_ne (ix_not (bkc (x := 1) (c := 1) (by decide)) (by decide))
          have zf_1014_3 : (f_1014 3).toInt = (fob_width 3).toInt := hf_1014 ▸ pin_ne (ix_not (bkc (x := 1) (c := 1) (by decide)) (by decide))
          obtain ⟨hP, hD⟩ : vPD G A H [(ce_X10 ob ob_thrown ob_world ob_images ob_hasImage ob_tape ob_taped ob_five ob_size ob_at ob_from ob_token ob_value ob_faultKind ob_faultPlace ob_fresh ob_parts ob_houses ob_houseMany ob_worthOf ob_byCall ob_over ob_bestSet ob_bestOver ob_bestWorth ob_row ob_tenDebts ob_tenMany ob_fewestBy ob_covered ob_queue ob_cameBy ob_parent ob_met ob_calls ob_callMany ob_calledOn ob_saved ob_many ob_width ob_numbers ob_moving), (ce_i4 y ob_many f_1013), (ce_i4 y ob_width f_1014), (ce_l240 y ob_numbers fob_numbers)] := ⟨hP, hD⟩
          refine lv_iconst (v := 0) hx hb dX10_row_49 (by decide) ?_
          refine lv_istore (lv' := [(4, .int 0), (0, .ref ob), (1, .int 1), (2, .int a2), (3, .int a3)]) hx hb dX10_row_50 hl (by decide) rfl (fun ls hl => ?_)
          refine loopX (fun n H locs ls st => ∃ (v_1086 : Int32) (f_1087 : Nat → Int64), (60 - v_1086.toInt).toNat = n ∧ ((0 : Int) ≤ v_1086.toInt ∧ v_1086.toInt ≤ 60) ∧ st = [] ∧ vPD G A H [(ce_X10 ob ob_thrown ob_world ob_images ob_hasImage ob_tape ob_taped ob_five ob_size ob_at ob_from ob_token ob_value ob_faultKind ob_faultPlace ob_fresh ob_parts ob_houses ob_houseMany ob_worthOf ob_byCall ob_over ob_bestSet ob_bestOver ob_bestWorth ob_row ob_tenDebts ob_tenMany ob_fewestBy ob_covered ob_queue ob_cameBy ob_parent ob_met ob_calls ob_callMany ob_calledOn ob_saved ob_many ob_width ob_numbers ob_moving), (ce_i4 y ob_many f_1013), (ce_i4 y ob_width f_1014), (ce_l240 y ob_numbers f_1087)] ∧ va_S A s.heap H locs ∧ lv_has ls 5 [(4, .int v_1086), (0, .ref ob), (1, .int 1)]) ?_ (n := (60 - (0 : Int32).toInt).toNat) ⟨0, fob_numbers, rfl, (bw (0) (60) (bkc (x := 0) (c := 0) (by decide)) (by decide)), rfl, ⟨hP, hD⟩, hS, lv_sub hl [0, 1, 2] rfl⟩
          rintro n ih_1092 H locs ls st ⟨v_1086, f_1087, hn_1092, bv_1086, rfl, ⟨hP, hD⟩, hS, hl⟩
          refine lv_iload hx hb dX10_row_52 (lv_at hl 0 rfl) ?_
          refine lv_bipush (v := 60) hx hb dX10_row_54 (by decide) ?_
          refine lv_icmp_ge (tgt := 78) hx hb dX10_row_56 (by decide) (fun c_1093 => ?_) (fun c_1093 => ?_)
          · skip
            have nc_1093 := nb_le (60) (60) c_1093 (bkc (x := 60) (c := 60) (by decide)) bv_1086 (by decide)
            refine lv_iconst (v := 0) hx hb dX10_row_78 (by decide) ?_
            exact W.iret (v := 0) hx hb hr (fun t ht hW => ⟨⟨0, _, rfl, Or.inr (Or.inr (⟨f_1013, f_1014, f_1087, bf_1013, bf_1014, h_1010, nc_1012.2.1, by have h90 : Int32.toInt 0 = 0 := (by decide); have h91 : Int32.toInt 1 = 1 := (by decide); omega, by have h90 : Int32.toInt 0 = 0 := (by decide); have h91 : Int32.toInt 1 = 1 := (by decide); omega, by have h90 : Int32.toInt 0 = 0 := (by decide); have h91 : Int32.toInt 1 = 1 := (by decide); omega, by have h90 : Int32.toInt 0 = 0 := (by decide); have h91 : Int32.toInt 1 = 1 := (by decide); omega, by have h90 : Int32.toInt 0 = 0 := (by decide); have h91 : Int32.toInt 1 = 1 := (by decide); omega, by have h90 : Int32.toInt 0 = 0 := (by decide); have h91 : Int32.toInt 1 = 1 := (by decide); omega, by have h90 : Int32.toInt 0 = 0 := (by decide); have h91 : Int32.toInt 1 = 1 := (by decide); omega, by have h90 : Int32.toInt 0 = 0 := (by decide); have h91 : Int32.toInt 1 = 1 := (by decide); omega, by have h90 : Int32.toInt 0 = 0 := (by decide); have h91 : Int32.toInt 1 = 1 := (by decide); omega, rfl, rfl⟩)), by rw [ht]; exact hP, hD⟩, hS.F ht⟩) hS.2.2 dX10_row_79
          · skip
            have nc_1093 := nb_nle (59) (60) c_1093 bv_1086 (bkc (x := 60) (c := 60) (by decide)) (by decide)
            refine lv_aload_n hx hb dX10_row_59 rfl (lv_at hl 1 rfl) ?_
            refine va_get (D := G) (ci := 10) (v := .ref ob_numbers) (C := RX10) (T := TX10) (N := 41) hx hb hw0 inA_wsX100 hown hK.1 hP 0 rfl rfl 39 (by decide) (hw0 _ m_435) (fun _ h9 => h9) rfl dX10_row_60 ?_
            refine lv_bipush (v := 60) hx hb dX10_row_63 (by decide) ?_
            refine lv_iload_n hx hb dX10_row_65 rfl (lv_at hl 2 rfl) ?_
            refine lv_imul hx hb dX10_row_66 ?_
            refine lv_topi (fun v_1094 ev_1094 => ?_)
            obtain rfl : 60 = v_1094 := (ev_1094.trans (by decide)).symm
            refine lv_iload hx hb dX10_row_67 (lv_at hl 0 rfl) ?_
            refine lv_iadd hx hb dX10_row_69 ?_
            refine lv_topi (fun v_1095 ev_1095 => ?_)
            have qv_1095 := ba_add ev_1095 (bkc (x := 60) (c := 60) (by decide)) nc_1093.1 (by decide)
            have bv_1095 : (60 : Int) ≤ v_1095.toInt ∧ v_1095.toInt ≤ 119 := bq_add qv_1095 (bkc (x := 60) (c := 60) (by decide)) nc_1093.1 _ _ (by decide)
            have qv_1095 : v_1095.toInt = (60) + v_1086.toInt := qv_1095
            refine lv_lconst (v := 0) hx hb dX10_row_70 (by decide) ?_
            refine va_last hx hb hK.1 hP hD hS 3 2 rfl rfl (vi bv_1095 (by decide)) dX10_row_71 (fun H locs hP hD hS => ?_)
            generalize hf_1096 : (vp_updL f_1087 (v_1095 : Int32).toNatClampNeg 0) = f_1096 at hP hD
            obtain ⟨hP, hD⟩ : vPD G A H [(ce_X10 ob ob_thrown ob_world ob_images ob_hasImage ob_tape ob_taped ob_five ob_size ob_at ob_from ob_token ob_value ob_faultKind ob_faultPlace ob_fresh ob_parts ob_houses ob_houseMany ob_worthOf ob_byCall ob_over ob_bestSet ob_bestOver ob_bestWorth ob_row ob_tenDebts ob_tenMany ob_fewestBy ob_covered ob_queue ob_cameBy ob_parent ob_met ob_calls ob_callMany ob_calledOn ob_saved ob_many ob_width ob_numbers ob_moving), (ce_i4 y ob_many f_1013), (ce_i4 y ob_width f_1014), (ce_l240 y ob_numbers f_1096)] := ⟨hP, hD⟩
            obtain ⟨v_1097, ev_1097⟩ : ∃ z : Int32, z = v_1086 + 1 := ⟨_, rfl⟩
            have qv_1097 := ba_add ev_1097 nc_1093.1 (bkc (x := 1) (c := 1) (by decide)) (by decide)
            have bv_1097 : (1 : Int) ≤ v_1097.toInt ∧ v_1097.toInt ≤ 60 := bq_add qv_1097 nc_1093.1 (bkc (x := 1) (c := 1) (by decide)) _ _ (by decide)
            have qv_1097 : v_1097.toInt = v_1086.toInt + (1) := qv_1097
            refine lv_iinc (v := v_1097) (lv' := [(4, .int v_1097), (0, .ref ob), (1, .int 1)]) hx hb dX10_row_72 hl (k := 0) rfl (ev_1097.symm) (by decide) rfl (fun ls hl => ?_)
            refine lv_goto (tgt := 52) hx hb dX10_row_75 (by decide) ?_
            exact ih_1092 _ (ml_inc (hi := 60) hn_1092 qv_1097 (by decide) ((bw (0) (60) bv_1097 (by decide))).2) _ _ _ _ ⟨v_1097, f_1096, rfl, (bw (0) (60) bv_1097 (by decide)), rfl, ⟨hP, hD⟩, hS, lv_sub hl [0, 1, 2] rfl⟩
        · skip
          have nc_1012 := nb_nle (-1) (0) c_1012 nc_1011.1 (bkc (x := 0) (c := 0) (by decide)) (by decide)
          refine lv_bipush (v := (-3)) hx hb dX10_row_32 (by decide) ?_
          exact W.iret (v := (-3)) hx hb hr (fun t ht hW => ⟨⟨(-3), _, rfl, Or.inr (Or.inl (⟨h_1010, by have h90 : Int32.toInt (-3) = -3 := (by decide); have h91 : Int32.toInt 1 = 1 := (by decide); omega, rfl, rfl⟩)), by rw [ht]; exact hP, hD⟩, hS.F ht⟩) hS.2.2 dX10_row_34
      · skip
        have nc_1011 := nb_nle (60) (61) c_1011 (bkc (x := 60) (c := 60) (by decide)) (btop a3) (by decide)
        refine lv_bipush (v := (-2)) hx hb dX10_row_25 (by decide) ?_
        exact W.iret (v := (-2)) hx hb hr (fun t ht hW => ⟨⟨(-2), _, rfl, Or.inl (⟨by have h90 : Int32.toInt (-2) = -2 := (by decide); have h91 : Int32.toInt 1 = 1 := (by decide); omega, rfl, rfl⟩), by rw [ht]; exact hP, hD⟩, hS.F ht⟩) hS.2.2 dX10_row_27

set_option maxHeartbeats 4000000 in
set_option maxRecDepth 100000 in
theorem fwriteM1 (l : Launch) (G : va_G) (y : Nat → ClassId) (sz : Nat) (ob : Nat) (a2 : Int32) (a3 : Int64) (ob_thrown : Int32) (ob_world : Nat) (ob_images : Nat) (ob_hasImage : Nat) (ob_tape : Nat) (ob_taped : Int32) (ob_five : Nat) (ob_size : Int32) (ob_at : Int32) (ob_from : Int32) (ob_token : Int32) (ob_value : Int32) (ob_faultKind : Int32) (ob_faultPlace : Int32) (ob_fresh : Nat) (ob_parts : Nat) (ob_houses : Nat) (ob_houseMany : Int32) (ob_worthOf : Nat) (ob_byCall : Nat) (ob_over : Nat) (ob_bestSet : Int32) (ob_bestOver : Int32) (ob_bestWorth : Int32) (ob_row : Nat) (ob_tenDebts : Nat) (ob_tenMany : Int32) (ob_fewestBy : Nat) (ob_covered : Nat) (ob_queue : Nat) (ob_cameBy : Nat) (ob_parent : Nat) (ob_met : Nat) (ob_calls : Nat) (ob_callMany : Int32) (ob_calledOn : Nat) (ob_saved : Nat) (ob_many : Nat) (ob_width : Nat) (ob_numbers : Nat) (ob_moving : Nat) (fob_many : Nat → Int32) (fob_width : Nat → Int32) (fob_numbers : Nat → Int64) (p_ob_taped : (0 : Int) ≤ ob_taped.toInt ∧ ob_taped.toInt ≤ 1400) (p_ob_size : (0 : Int) ≤ ob_size.toInt ∧ ob_size.toInt ≤ 1400) (p_ob_at : (0 : Int) ≤ ob_at.toInt ∧ ob_at.toInt ≤ 1400) (p_ob_from : (0 : Int) ≤ ob_from.toInt ∧ ob_from.toInt ≤ 1400) (p_ob_token : (0 : Int) ≤ ob_token.toInt ∧ ob_token.toInt ≤ 4) (p_ob_value : (0 : Int) ≤ ob_value.toInt ∧ ob_value.toInt ≤ 9999) (p_ob_faultKind : (0 : Int) ≤ ob_faultKind.toInt ∧ ob_faultKind.toInt ≤ 3) (p_ob_houseMany : (0 : Int) ≤ ob_houseMany.toInt ∧ ob_houseMany.toInt ≤ 10) (p_ob_bestSet : (0 : Int) ≤ ob_bestSet.toInt ∧ ob_bestSet.toInt ≤ 1023) (p_ob_bestOver : (-1 : Int) ≤ ob_bestOver.toInt ∧ ob_bestOver.toInt ≤ 180) (p_ob_tenMany : (0 : Int) ≤ ob_tenMany.toInt ∧ ob_tenMany.toInt ≤ 10) (p_ob_callMany : (0 : Int) ≤ ob_callMany.toInt ∧ ob_callMany.toInt ≤ 16) (p_fob_many : ∀ i, (-1 : Int) ≤ (fob_many i).toInt ∧ (fob_many i).toInt ≤ 60) (p_fob_width : ∀ i, (0 : Int) ≤ (fob_width i).toInt ∧ (fob_width i).toInt ≤ 3) : Met l yX10_write (Cond.code yX10_write cX10_write 5 (some .int) :: wAll) ({ frames := 2, cells := 0, slots := 0, locals := 45 }) (va_Pc [.ref ob, .int 1, .int a2, .long a3] (kp G y sz [(ce_X10 ob ob_thrown ob_world ob_images ob_hasImage ob_tape ob_taped ob_five ob_size ob_at ob_from ob_token ob_value ob_faultKind ob_faultPlace ob_fresh ob_parts ob_houses ob_houseMany ob_worthOf ob_byCall ob_over ob_bestSet ob_bestOver ob_bestWorth ob_row ob_tenDebts ob_tenMany ob_fewestBy ob_covered ob_queue ob_cameBy ob_parent ob_met ob_calls ob_callMany ob_calledOn ob_saved ob_many ob_width ob_numbers ob_moving), (ce_i4 y ob_many fob_many), (ce_i4 y ob_width fob_width), (ce_l240 y ob_numbers fob_numbers)])) (va_Qi (fun (r : Int32) (w : va_W) => (((fob_many 1).toInt = -1) ∧ r = (-6) ∧ w = [(ce_X10 ob ob_thrown ob_world ob_images ob_hasImage ob_tape ob_taped ob_five ob_size ob_at ob_from ob_token ob_value ob_faultKind ob_faultPlace ob_fresh ob_parts ob_houses ob_houseMany ob_worthOf ob_byCall ob_over ob_bestSet ob_bestOver ob_bestWorth ob_row ob_tenDebts ob_tenMany ob_fewestBy ob_covered ob_queue ob_cameBy ob_parent ob_met ob_calls ob_callMany ob_calledOn ob_saved ob_many ob_width ob_numbers ob_moving), (ce_i4 y ob_many fob_many), (ce_i4 y ob_width fob_width), (ce_l240 y ob_numbers fob_numbers)]) ∨ ((¬ (fob_many 1).toInt = -1 ∧ (a2.toInt < 0 ∨ (fob_many 1).toInt ≤ a2.toInt)) ∧ r = (-7) ∧ w = [(ce_X10 ob ob_thrown ob_world ob_images ob_hasImage ob_tape ob_taped ob_five ob_size ob_at ob_from ob_token ob_value ob_faultKind ob_faultPlace ob_fresh ob_parts ob_houses ob_houseMany ob_worthOf ob_byCall ob_over ob_bestSet ob_bestOver ob_bestWorth ob_row ob_tenDebts ob_tenMany ob_fewestBy ob_covered ob_queue ob_cameBy ob_parent ob_met ob_calls ob_callMany ob_calledOn ob_saved ob_many ob_width ob_numbers ob_moving), (ce_i4 y ob_many fob_many), (ce_i4 y ob_width fob_width), (ce_l240 y ob_numbers fob_numbers)]) ∨ (∃ (f_43 : Nat → Int64), ((0 : Int) ≤ a2.toInt ∧ a2.toInt ≤ 59) ∧ (¬ (fob_many 1).toInt = -1 ∧ 0 ≤ a2.toInt ∧ a2.toInt < (fob_many 1).toInt) ∧ r = 0 ∧ w = [(ce_X10 ob ob_thrown ob_world ob_images ob_hasImage ob_tape ob_taped ob_five ob_size ob_at ob_from ob_token ob_value ob_faultKind ob_faultPlace ob_fresh ob_parts ob_houses ob_houseMany ob_worthOf ob_byCall ob_over ob_bestSet ob_bestOver ob_bestWorth ob_row ob_tenDebts ob_tenMany ob_fewestBy ob_covered ob_queue ob_cameBy ob_parent ob_met ob_calls ob_callMany ob_calledOn ob_saved ob_many ob_width ob_numbers ob_moving), (ce_i4 y ob_many fob_many), (ce_i4 y ob_width fob_width), (ce_l240 y ob_numbers f_43)])) (kq G (va_A [(ce_X10 ob ob_thrown ob_world ob_images ob_hasImage ob_tape ob_taped ob_five ob_size ob_at ob_from ob_token ob_value ob_faultKind ob_faultPlace ob_fresh ob_parts ob_houses ob_houseMany ob_worthOf ob_byCall ob_over ob_bestSet ob_bestOver ob_bestWorth ob_row ob_tenDebts ob_tenMany ob_fewestBy ob_covered ob_queue ob_cameBy ob_parent ob_met ob_calls ob_callMany ob_calledOn ob_saved ob_many ob_width ob_numbers ob_moving), (ce_i4 y ob_many fob_many), (ce_i4 y ob_width fob_width), (ce_l240 y ob_numbers fob_numbers)] sz)) (va_A [(ce_X10 ob ob_thrown ob_world ob_images ob_hasImage ob_tape ob_taped ob_five ob_size ob_at ob_from ob_token ob_value ob_faultKind ob_faultPlace ob_fresh ob_parts ob_houses ob_houseMany ob_worthOf ob_byCall ob_over ob_bestSet ob_bestOver ob_bestWorth ob_row ob_tenDebts ob_tenMany ob_fewestBy ob_covered ob_queue ob_cameBy ob_parent ob_met ob_calls ob_callMany ob_calledOn ob_saved ob_many ob_width ob_numbers ob_moving), (ce_i4 y ob_many fob_many), (ce_i4 y ob_width fob_width), (ce_l240 y ob_numbers fob_numbers)] sz)) 0 0 (va_A [(ce_X10 ob ob_thrown ob_world ob_images ob_hasImage ob_tape ob_taped ob_five ob_size ob_at ob_from ob_token ob_value ob_faultKind ob_faultPlace ob_fresh ob_parts ob_houses ob_houseMany ob_worthOf ob_byCall ob_over ob_bestSet ob_bestOver ob_bestWorth ob_row ob_tenDebts ob_tenMany ob_fewestBy ob_covered ob_queue ob_cameBy ob_parent ob_met ob_calls ob_callMany ob_calledOn ob_saved ob_many ob_width ob_numbers ob_moving), (ce_i4 y ob_many fob_many), (ce_i4 y ob_width fob_width), (ce_l240 y ob_numbers fob_numbers)] sz) := by
  refine Met.ofW (cc := cX10_write) (maxL := 5) (ret := (some .int)) (by decide) rfl ?_
  intro p e s m args below meth c s₁ B hml hv
  obtain ⟨rfl, hsz, hP, hK, hD0⟩ := hv
  have hx := B.exec
  have hb := B.bytes
  have hr := B.returns
  have hw0 : ∀ w ∈ wAll, w.before _ s = true := fun w h => atoms_spec (ws := Cond.code yX10_write cX10_write 5 (some .int) :: wAll) B.pre w (List.mem_cons_of_mem _ h)
  have hown : s.vm.findClass RX10 = some m.cls := findClass_of_methodNamed B.named
  subst hsz
  have hD := hD0.self (sz := s.heap.size)
  generalize hAe : va_A [(ce_X10 ob ob_thrown ob_world ob_images ob_hasImage ob_tape ob_taped ob_five ob_size ob_at ob_from ob_token ob_value ob_faultKind ob_faultPlace ob_fresh ob_parts ob_houses ob_houseMany ob_worthOf ob_byCall ob_over ob_bestSet ob_bestOver ob_bestWorth ob_row ob_tenDebts ob_tenMany ob_fewestBy ob_covered ob_queue ob_cameBy ob_parent ob_met ob_calls ob_callMany ob_calledOn ob_saved ob_many ob_width ob_numbers ob_moving), (ce_i4 y ob_many fob_many), (ce_i4 y ob_width fob_width), (ce_l240 y ob_numbers fob_numbers)] s.heap.size = A at hD ⊢
  have hA : ∀ q : Nat, s.heap.size ≤ q → A q := fun q h => by rw [← hAe]; exact Or.inr h
  have hS : va_S A s.heap s.heap [] := va_S.rf
  have hP : va_P G vwCl [(ce_X10 ob ob_thrown ob_world ob_images ob_hasImage ob_tape ob_taped ob_five ob_size ob_at ob_from ob_token ob_value ob_faultKind ob_faultPlace ob_fresh ob_parts ob_houses ob_houseMany ob_worthOf ob_byCall ob_over ob_bestSet ob_bestOver ob_bestWorth ob_row ob_tenDebts ob_tenMany ob_fewestBy ob_covered ob_queue ob_cameBy ob_parent ob_met ob_calls ob_callMany ob_calledOn ob_saved ob_many ob_width ob_numbers ob_moving), (ce_i4 y ob_many fob_many), (ce_i4 y ob_width fob_width), (ce_l240 y ob_numbers fob_numbers)] s.heap := hP
  have hl := lv_entry ([.ref ob, .int 1, .int a2, .long a3]) (n := 5) (Nat.le_of_ble_eq_true rfl)
  rw [lg_entry_eq]
  generalize (lg_sl ([.ref ob, .int 1, .int a2, .long a3]) ++ List.replicate (5 - (lg_sl ([.ref ob, .int 1, .int a2, .long a3])).length) Slot.unset).toArray = ls at hl ⊢
  have hl : lv_has ls 5 [(0, .ref ob), (1, .int 1), (2, .int a2), (3, .long a3)] := hl
  refine lv_iload_n hx hb dX10_write_0 rfl (lv_at hl 1 rfl) ?_
  refine cSim (As := [.int 1]) (rest := []) ⟨hx, hb, hml, hown, hw0⟩ hA hK hP hD hS [] (fisSlotM l G y _ 1 ) rfl ⟨(callB_of 1 hw0 (gA m_543) rfl rfl rfl (hw0 _ m_41) (hw0 _ m_433) cb_X10_isSlot ⟨Nat.le_of_ble_eq_true rfl, Nat.le_of_ble_eq_true rfl⟩), (hw0 _ m_434)⟩ rfl hl.1 (Nat.le_of_ble_eq_true rfl) dX10_write_1 ⟨Nat.le_of_ble_eq_true rfl, Nat.le_of_ble_eq_true rfl⟩ (fun r_1001 w_1001 H locs hw_1001 hP hD hS => ?_)
  rcases hw_1001 with ⟨h_1002, rfl, rfl⟩ | ⟨h_1003, h_1004, rfl, rfl⟩
  · skip
    exact False.elim (by have h9 : Int32.toInt 1 = 1 := (by decide); omega)
  · skip
    obtain ⟨hP, hD⟩ : vPD G A H [(ce_X10 ob ob_thrown ob_world ob_images ob_hasImage ob_tape ob_taped ob_five ob_size ob_at ob_from ob_token ob_value ob_faultKind ob_faultPlace ob_fresh ob_parts ob_houses ob_houseMany ob_worthOf ob_byCall ob_over ob_bestSet ob_bestOver ob_bestWorth ob_row ob_tenDebts ob_tenMany ob_fewestBy ob_covered ob_queue ob_cameBy ob_parent ob_met ob_calls ob_callMany ob_calledOn ob_saved ob_many ob_width ob_numbers ob_moving), (ce_i4 y ob_many fob_many), (ce_i4 y ob_width fob_width), (ce_l240 y ob_numbers fob_numbers)] := ⟨hP, hD⟩
    refine lv_if_ne (tgt := 10) hx hb dX10_write_4 (by decide) (fun _ => ?_) (fun c9 => absurd c9 (by decide))
    refine lv_aload_n hx hb dX10_write_10 rfl (lv_at hl 0 rfl) ?_
    refine va_get (D := G) (ci := 10) (v := .ref ob_many) (C := RX10) (T := TX10) (N := 41) hx hb hw0 inA_wsX100 hown hK.1 hP 0 rfl rfl 37 (by decide) (hw0 _ m_406) (fun _ h9 => h9) rfl dX10_write_11 ?_
    refine lv_iload_n hx hb dX10_write_14 rfl (lv_at hl 1 rfl) ?_
    refine va_iald hx hb hK.1 hP 1 1 rfl rfl (vi (bkc (x := 1) (c := 1) (by decide)) (by decide)) dX10_write_15 ?_
    refine lv_topi (fun v_1005 ev_1005 => ?_)
    have bv_1005 : (-1 : Int) ≤ v_1005.toInt ∧ v_1005.toInt ≤ 60 := rd_b ev_1005 p_fob_many
    have yv_1005 : v_1005.toInt = (fob_many 1).toInt := congrArg Int32.toInt ev_1005
    refine lv_iconst (v := (-1)) hx hb dX10_write_16 (by decide) ?_
    refine lv_icmp_ne (tgt := 23) hx hb dX10_write_17 (by decide) (fun c_1006 => ?_) (fun c_1006 => ?_)
    · skip
      have nc_1006 := nb_ne (0) (60) c_1006 bv_1005 (k := -1) (by decide) (by decide)
      refine lv_iload_n hx hb dX10_write_23 rfl (lv_at hl 2 rfl) ?_
      refine lv_i2l hx hb dX10_write_24 rfl ?_
      refine lv_lconst (v := 0) hx hb dX10_write_25 (by decide) ?_
      refine lv_aload_n hx hb dX10_write_26 rfl (lv_at hl 0 rfl) ?_
      refine va_get (D := G) (ci := 10) (v := .ref ob_many) (C := RX10) (T := TX10) (N := 41) hx hb hw0 inA_wsX100 hown hK.1 hP 0 rfl rfl 37 (by decide) (hw0 _ m_406) (fun _ h9 => h9) rfl dX10_write_27 ?_
      refine lv_iload_n hx hb dX10_write_30 rfl (lv_at hl 1 rfl) ?_
      refine va_iald hx hb hK.1 hP 1 1 rfl rfl (vi (bkc (x := 1) (c := 1) (by decide)) (by decide)) dX10_write_31 ?_
      refine lv_topi (fun v_1007 ev_1007 => ?_)
      obtain rfl : v_1005 = v_1007 := (ev_1007.trans (ev_1005.symm)).symm
      refine lv_iconst (v := 1) hx hb dX10_write_32 (by decide) ?_
      refine lv_isub hx hb dX10_write_33 ?_
      refine lv_topi (fun v_1008 ev_1008 => ?_)
      have qv_1008 := ba_sub ev_1008 nc_1006.1 (bkc (x := 1) (c := 1) (by decide)) (by decide)
      have bv_1008 : (-1 : Int) ≤ v_1008.toInt ∧ v_1008.toInt ≤ 59 := bq_sub qv_1008 nc_1006.1 (bkc (x := 1) (c := 1) (by decide)) _ _ (by decide)
      have qv_1008 : v_1008.toInt = v_1005.toInt - (1) := qv_1008
      refine lv_i2l hx hb dX10_write_34 rfl ?_
      refine cSim (As := [.long (a2).toInt64, .long 0, .long (v_1008).toInt64]) (rest := []) ⟨hx, hb, hml, hown, hw0⟩ hA hK hP hD hS [] (sX10_in l G y _ ((a2).toInt64) 0 ((v_1008).toInt64) ) rfl ⟨(callB_of 3 hw0 (gA m_516) rfl rfl rfl (hw0 _ m_41) (hw0 _ m_345) cb_X10_in ⟨Nat.le_of_ble_eq_true rfl, Nat.le_of_ble_eq_true rfl⟩), (hw0 _ m_346)⟩ rfl hl.1 (Nat.le_of_ble_eq_true rfl) dX10_write_35 ⟨Nat.le_of_ble_eq_true rfl, Nat.le_of_ble_eq_true rfl⟩ (fun r_1009 w_1009 H locs hw_1009 hP hD hS => ?_)
      rcases hw_1009 with ⟨h_1010, rfl, rfl⟩ | ⟨h_1011, rfl, rfl⟩
      · skip
        have h_1012 : a2.toInt < (0 : Int) ∨ (v_1008.toInt : Int) < a2.toInt := in_n h_1010 (Int32.toInt_toInt64 _) (by decide) (Int32.toInt_toInt64 _)
        obtain ⟨hP, hD⟩ : vPD G A H [(ce_X10 ob ob_thrown ob_world ob_images ob_hasImage ob_tape ob_taped ob_five ob_size ob_at ob_from ob_token ob_value ob_faultKind ob_faultPlace ob_fresh ob_parts ob_houses ob_houseMany ob_worthOf ob_byCall ob_over ob_bestSet ob_bestOver ob_bestWorth ob_row ob_tenDebts ob_tenMany ob_fewestBy ob_covered ob_queue ob_cameBy ob_parent ob_met ob_calls ob_callMany ob_calledOn ob_saved ob_many ob_width ob_numbers ob_moving), (ce_i4 y ob_many fob_many), (ce_i4 y ob_width fob_width), (ce_l240 y ob_numbers fob_numbers)] := ⟨hP, hD⟩
        refine lv_if_ne (tgt := 44) hx hb dX10_write_38 (by decide) (fun c9 => absurd (by decide) c9) (fun _ => ?_)
        refine lv_bipush (v := (-7)) hx hb dX10_write_41 (by decide) ?_
        exact W.iret (v := (-7)) hx hb hr (fun t ht hW => ⟨⟨(-7), _, rfl, Or.inr (Or.inl (⟨by have h90 : Int32.toInt (-7) = -7 := (by decide); have h91 : Int32.toInt 1 = 1 := (by decide); omega, rfl, rfl⟩)), by rw [ht]; exact hP, hD⟩, hS.F ht⟩) hS.2.2 dX10_write_43
      · skip
        have h_1013 : (0 : Int) ≤ a2.toInt ∧ a2.toInt ≤ (v_1008.toInt : Int) := in_y h_1011 (Int32.toInt_toInt64 _) (by decide) (Int32.toInt_toInt64 _)
        have h_1014_0 := (btop a2)
        have h_1014_1 := True.intro
        have h_1014_2 := bv_1008
        have h_1014 : (0 : Int) ≤ a2.toInt ∧ a2.toInt ≤ 59 := by omega
        have h_1015 : (0 : Int) ≤ v_1008.toInt ∧ v_1008.toInt ≤ 59 := by have h9 := bv_1008; have h8 := h_1014; omega
        obtain ⟨hP, hD⟩ : vPD G A H [(ce_X10 ob ob_thrown ob_world ob_images ob_hasImage ob_tape ob_taped ob_five ob_size ob_at ob_from ob_token ob_value ob_faultKind ob_faultPlace ob_fresh ob_parts ob_houses ob_houseMany ob_worthOf ob_byCall ob_over ob_bestSet ob_bestOver ob_bestWorth ob_row ob_tenDebts ob_tenMany ob_fewestBy ob_covered ob_queue ob_cameBy ob_parent ob_met ob_calls ob_callMany ob_calledOn ob_saved ob_many ob_width ob_numbers ob_moving), (ce_i4 y ob_many fob_many), (ce_i4 y ob_width fob_width), (ce_l240 y ob_numbers fob_numbers)] := ⟨hP, hD⟩
        refine lv_if_ne (tgt := 44) hx hb dX10_write_38 (by decide) (fun _ => ?_) (fun c9 => absurd c9 (by decide))
        refine lv_aload_n hx hb dX10_write_44 rfl (lv_at hl 0 rfl) ?_
        refine va_get (D := G) (ci := 10) (v := .ref ob_numbers) (C := RX10) (T := TX10) (N := 41) hx hb hw0 inA_wsX100 hown hK.1 hP 0 rfl rfl 39 (by decide) (hw0 _ m_435) (fun _ h9 => h9) rfl dX10_write_45 ?_
        refine lv_bipush (v := 60) hx hb dX10_write_48 (by decide) ?_
        refine lv_iload_n hx hb dX10_write_50 rfl (lv_at hl 1 rfl) ?_
        refine lv_imul hx hb dX10_write_51 ?_
        refine lv_topi (fun v_1016 ev_1016 => ?_)
        obtain rfl : 60 = v_1016 := (ev_1016.trans (by decide)).symm
        refine lv_iload_n hx hb dX10_write_52 rfl (lv_at hl 2 rfl) ?_
        refine lv_iadd hx hb dX10_write_53 ?_
        refine lv_topi (fun v_1017 ev_1017 => ?_)
        have qv_1017 := ba_add ev_1017 (bkc (x := 60) (c := 60) (by decide)) h_1014 (by decide)
        have bv_1017 : (60 : Int) ≤ v_1017.toInt ∧ v_1017.toInt ≤ 119 := bq_add qv_1017 (bkc (x := 60) (c := 60) (by decide)) h_1014 _ _ (by decide)
        have qv_1017 : v_1017.toInt = (60) + a2.toInt := qv_1017
        refine lv_lload_n hx hb dX10_write_54 rfl (lv_at hl 3 rfl) ?_
        refine lv_aload_n hx hb dX10_write_55 rfl (lv_at hl 0 rfl) ?_
        refine va_get (D := G) (ci := 10) (v := .ref ob_width) (C := RX10) (T := TX10) (N := 41) hx hb hw0 inA_wsX100 hown hK.1 hP 0 rfl rfl 38 (by decide) (hw0 _ m_527) (fun _ h9 => h9) rfl dX10_write_56 ?_
        refine lv_iload_n hx hb dX10_write_59 rfl (lv_at hl 1 rfl) ?_
        refine va_iald hx hb hK.1 hP 2 1 rfl rfl (vi (bkc (x := 1) (c := 1) (by decide)) (by decide)) dX10_write_60 ?_
        refine lv_topi (fun v_1018 ev_1018 => ?_)
        have bv_1018 : (0 : Int) ≤ v_1018.toInt ∧ v_1018.toInt ≤ 3 := rd_b ev_1018 p_fob_width
        have yv_1018 : v_1018.toInt = (fob_width 1).toInt := congrArg Int32.toInt ev_1018
        refine cSlm (As := [.long a3, .int v_1018]) (rest := [.int v_1017, .ref ob_numbers]) ⟨hx, hb, hml, hown, hw0⟩ hA hK hP hD hS [] (sX10_cut l G y _ a3 v_1018 bv_1018) rfl ⟨(callB_of 2 hw0 (gA m_412) rfl rfl rfl (hw0 _ m_41) (hw0 _ m_699) cb_X10_cut ⟨Nat.le_of_ble_eq_true rfl, Nat.le_of_ble_eq_true rfl⟩), (hw0 _ m_700)⟩ rfl hl.1 (Nat.le_of_ble_eq_true rfl) dX10_write_61 ⟨Nat.le_of_ble_eq_true rfl, Nat.le_of_ble_eq_true rfl⟩ (fun r_1019 w_1019 H locs hw_1019 hP hD hS => ?_)
        obtain ⟨v_1020, er_1019, rfl⟩ := hw_1019
        subst r_1019
        obtain ⟨hP, hD⟩ : vPD G A H [(ce_X10 ob ob_thrown ob_world ob_images ob_hasImage ob_tape ob_taped ob_five ob_size ob_at ob_from ob_token ob_value ob_faultKind ob_faultPlace ob_fresh ob_parts ob_houses ob_houseMany ob_worthOf ob_byCall ob_over ob_bestSet ob_bestOver ob_bestWorth ob_row ob_tenDebts ob_tenMany ob_fewestBy ob_covered ob_queue ob_cameBy ob_parent ob_met ob_calls ob_callMany ob_calledOn ob_saved ob_many ob_width ob_numbers ob_moving), (ce_i4 y ob_many fob_many), (ce_i4 y ob_width fob_width), (ce_l240 y ob_numbers fob_numbers)] := ⟨hP, hD⟩
        refine va_last hx hb hK.1 hP hD hS 3 2 rfl rfl (vi bv_1017 (by decide)) dX10_write_64 (fun H locs hP hD hS => ?_)
        generalize hf_1021 : (vp_updL fob_numbers (v_1017 : Int32).toNatClampNeg v_1020) = f_1021 at hP hD
        obtain ⟨hP, hD⟩ : vPD G A H [(ce_X10 ob ob_thrown ob_world ob_images ob_hasImage ob_tape ob_taped ob_five ob_size ob_at ob_from ob_token ob_value ob_faultKind ob_faultPlace ob_fresh ob_parts ob_houses ob_houseMany ob_worthOf ob_byCall ob_over ob_bestSet ob_bestOver ob_bestWorth ob_row ob_tenDebts ob_tenMany ob_fewestBy ob_covered ob_queue ob_cameBy ob_parent ob_met ob_calls ob_callMany ob_calledOn ob_saved ob_many ob_width ob_numbers ob_moving), (ce_i4 y ob_many fob_many), (ce_i4 y ob_width fob_width), (ce_l240 y ob_numbers f_1021)] := ⟨hP, hD⟩
        refine lv_iconst (v := 0) hx hb dX10_write_65 (by decide) ?_
        exact W.iret (v := 0) hx hb hr (fun t ht hW => ⟨⟨0, _, rfl, Or.inr (Or.inr (⟨f_1021, h_1014, by have h90 : Int32.toInt 0 = 0 := (by decide); have h91 : Int32.toInt 1 = 1 := (by decide); omega, rfl, rfl⟩)), by rw [ht]; exact hP, hD⟩, hS.F ht⟩) hS.2.2 dX10_write_66
    · skip
      have nc_1006 := nb_eq (-1) (-1) c_1006 bv_1005 (bkc (x := (-1)) (c := -1) (by decide)) (by decide)
      refine lv_bipush (v := (-6)) hx hb dX10_write_20 (by decide) ?_
      exact W.iret (v := (-6)) hx hb hr (fun t ht hW => ⟨⟨(-6), _, rfl, Or.inl (⟨by have h90 : Int32.toInt (-6) = -6 := (by decide); have h91 : Int32.toInt 1 = 1 := (by decide); omega, rfl, rfl⟩), by rw [ht]; exact hP, hD⟩, hS.F ht⟩) hS.2.2 dX10_write_22

set_option maxHeartbeats 4000000 in
set_option maxRecDepth 100000 in
theorem frowM2 (l : Launch) (G : va_G) (y : Nat → ClassId) (sz : Nat) (ob : Nat) (a2 : Int32) (a3 : Int32) (ob_thrown : Int32) (ob_world : Nat) (ob_images : Nat) (ob_hasImage : Nat) (ob_tape : Nat) (ob_taped : Int32) (ob_five : Nat) (ob_size : Int32) (ob_at : Int32) (ob_from : Int32) (ob_token : Int32) (ob_value : Int32) (ob_faultKind : Int32) (ob_faultPlace : Int32) (ob_fresh : Nat) (ob_parts : Nat) (ob_houses : Nat) (ob_houseMany : Int32) (ob_worthOf : Nat) (ob_byCall : Nat) (ob_over : Nat) (ob_bestSet : Int32) (ob_bestOver : Int32) (ob_bestWorth : Int32) (ob_row : Nat) (ob_tenDebts : Nat) (ob_tenMany : Int32) (ob_fewestBy : Nat) (ob_covered : Nat) (ob_queue : Nat) (ob_cameBy : Nat) (ob_parent : Nat) (ob_met : Nat) (ob_calls : Nat) (ob_callMany : Int32) (ob_calledOn : Nat) (ob_saved : Nat) (ob_many : Nat) (ob_width : Nat) (ob_numbers : Nat) (ob_moving : Nat) (fob_many : Nat → Int32) (fob_width : Nat → Int32) (fob_numbers : Nat → Int64) (p_ob_taped : (0 : Int) ≤ ob_taped.toInt ∧ ob_taped.toInt ≤ 1400) (p_ob_size : (0 : Int) ≤ ob_size.toInt ∧ ob_size.toInt ≤ 1400) (p_ob_at : (0 : Int) ≤ ob_at.toInt ∧ ob_at.toInt ≤ 1400) (p_ob_from : (0 : Int) ≤ ob_from.toInt ∧ ob_from.toInt ≤ 1400) (p_ob_token : (0 : Int) ≤ ob_token.toInt ∧ ob_token.toInt ≤ 4) (p_ob_value : (0 : Int) ≤ ob_value.toInt ∧ ob_value.toInt ≤ 9999) (p_ob_faultKind : (0 : Int) ≤ ob_faultKind.toInt ∧ ob_faultKind.toInt ≤ 3) (p_ob_houseMany : (0 : Int) ≤ ob_houseMany.toInt ∧ ob_houseMany.toInt ≤ 10) (p_ob_bestSet : (0 : Int) ≤ ob_bestSet.toInt ∧ ob_bestSet.toInt ≤ 1023) (p_ob_bestOver : (-1 : Int) ≤ ob_bestOver.toInt ∧ ob_bestOver.toInt ≤ 180) (p_ob_tenMany : (0 : Int) ≤ ob_tenMany.toInt ∧ ob_tenMany.toInt ≤ 10) (p_ob_callMany : (0 : Int) ≤ ob_callMany.toInt ∧ ob_callMany.toInt ≤ 16) (p_fob_many : ∀ i, (-1 : Int) ≤ (fob_many i).toInt ∧ (fob_many i).toInt ≤ 60) (p_fob_width : ∀ i, (0 : Int) ≤ (fob_width i).toInt ∧ (fob_width i).toInt ≤ 3) : Met l yX10_row (Cond.code yX10_row cX10_row 5 (some .int) :: wAll) ({ frames := 2, cells := 0, slots := 0, locals := 45 }) (va_Pc [.ref ob, .int 2, .int a2, .int a3] (kp G y sz [(ce_X10 ob ob_thrown ob_world ob_images ob_hasImage ob_tape ob_taped ob_five ob_size ob_at ob_from ob_token ob_value ob_faultKind ob_faultPlace ob_fresh ob_parts ob_houses ob_houseMany ob_worthOf ob_byCall ob_over ob_bestSet ob_bestOver ob_bestWorth ob_row ob_tenDebts ob_tenMany ob_fewestBy ob_covered ob_queue ob_cameBy ob_parent ob_met ob_calls ob_callMany ob_calledOn ob_saved ob_many ob_width ob_numbers ob_moving), (ce_i4 y ob_many fob_many), (ce_i4 y ob_width fob_width), (ce_l240 y ob_numbers fob_numbers)])) (va_Qi (fun (r : Int32) (w : va_W) => ((a2.toInt < 0 ∨ 3 < a2.toInt ∨ 60 < a3.toInt) ∧ r = (-2) ∧ w = [(ce_X10 ob ob_thrown ob_world ob_images ob_hasImage ob_tape ob_taped ob_five ob_size ob_at ob_from ob_token ob_value ob_faultKind ob_faultPlace ob_fresh ob_parts ob_houses ob_houseMany ob_worthOf ob_byCall ob_over ob_bestSet ob_bestOver ob_bestWorth ob_row ob_tenDebts ob_tenMany ob_fewestBy ob_covered ob_queue ob_cameBy ob_parent ob_met ob_calls ob_callMany ob_calledOn ob_saved ob_many ob_width ob_numbers ob_moving), (ce_i4 y ob_many fob_many), (ce_i4 y ob_width fob_width), (ce_l240 y ob_numbers fob_numbers)]) ∨ (((0 : Int) ≤ a2.toInt ∧ a2.toInt ≤ 3) ∧ (0 ≤ a2.toInt ∧ a2.toInt ≤ 3 ∧ a3.toInt < 0) ∧ r = (-3) ∧ w = [(ce_X10 ob ob_thrown ob_world ob_images ob_hasImage ob_tape ob_taped ob_five ob_size ob_at ob_from ob_token ob_value ob_faultKind ob_faultPlace ob_fresh ob_parts ob_houses ob_houseMany ob_worthOf ob_byCall ob_over ob_bestSet ob_bestOver ob_bestWorth ob_row ob_tenDebts ob_tenMany ob_fewestBy ob_covered ob_queue ob_cameBy ob_parent ob_met ob_calls ob_callMany ob_calledOn ob_saved ob_many ob_width ob_numbers ob_moving), (ce_i4 y ob_many fob_many), (ce_i4 y ob_width fob_width), (ce_l240 y ob_numbers fob_numbers)]) ∨ (∃ (f_195 : Nat → Int32) (f_196 : Nat → Int32) (f_197 : Nat → Int64), (∀ i, (-1 : Int) ≤ (f_195 i).toInt ∧ (f_195 i).toInt ≤ 60) ∧ (∀ i, (0 : Int) ≤ (f_196 i).toInt ∧ (f_196 i).toInt ≤ 3) ∧ ((0 : Int) ≤ a2.toInt ∧ a2.toInt ≤ 3) ∧ ((0 : Int) ≤ a3.toInt ∧ a3.toInt ≤ 60) ∧ (0 ≤ a2.toInt ∧ a2.toInt ≤ 3 ∧ 0 ≤ a3.toInt ∧ a3.toInt ≤ 60) ∧ ((f_195 0).toInt = (fob_many 0).toInt) ∧ ((f_196 0).toInt = (fob_width 0).toInt) ∧ ((f_195 1).toInt = (fob_many 1).toInt) ∧ ((f_196 1).toInt = (fob_width 1).toInt) ∧ ((f_195 2).toInt = a3.toInt) ∧ ((f_196 2).toInt = a2.toInt) ∧ ((f_195 3).toInt = (fob_many 3).toInt) ∧ ((f_196 3).toInt = (fob_width 3).toInt) ∧ r = 0 ∧ w = [(ce_X10 ob ob_thrown ob_world ob_images ob_hasImage ob_tape ob_taped ob_five ob_size ob_at ob_from ob_token ob_value ob_faultKind ob_faultPlace ob_fresh ob_parts ob_houses ob_houseMany ob_worthOf ob_byCall ob_over ob_bestSet ob_bestOver ob_bestWorth ob_row ob_tenDebts ob_tenMany ob_fewestBy ob_covered ob_queue ob_cameBy ob_parent ob_met ob_calls ob_callMany ob_calledOn ob_saved ob_many ob_width ob_numbers ob_moving), (ce_i4 y ob_many f_195), (ce_i4 y ob_width f_196), (ce_l240 y ob_numbers f_197)])) (kq G (va_A [(ce_X10 ob ob_thrown ob_world ob_images ob_hasImage ob_tape ob_taped ob_five ob_size ob_at ob_from ob_token ob_value ob_faultKind ob_faultPlace ob_fresh ob_parts ob_houses ob_houseMany ob_worthOf ob_byCall ob_over ob_bestSet ob_bestOver ob_bestWorth ob_row ob_tenDebts ob_tenMany ob_fewestBy ob_covered ob_queue ob_cameBy ob_parent ob_met ob_calls ob_callMany ob_calledOn ob_saved ob_many ob_width ob_numbers ob_moving), (ce_i4 y ob_many fob_many), (ce_i4 y ob_width fob_width), (ce_l240 y ob_numbers fob_numbers)] sz)) (va_A [(ce_X10 ob ob_thrown ob_world ob_images ob_hasImage ob_tape ob_taped ob_five ob_size ob_at ob_from ob_token ob_value ob_faultKind ob_faultPlace ob_fresh ob_parts ob_houses ob_houseMany ob_worthOf ob_byCall ob_over ob_bestSet ob_bestOver ob_bestWorth ob_row ob_tenDebts ob_tenMany ob_fewestBy ob_covered ob_queue ob_cameBy ob_parent ob_met ob_calls ob_callMany ob_calledOn ob_saved ob_many ob_width ob_numbers ob_moving), (ce_i4 y ob_many fob_many), (ce_i4 y ob_width fob_width), (ce_l240 y ob_numbers fob_numbers)] sz)) 0 0 (va_A [(ce_X10 ob ob_thrown ob_world ob_images ob_hasImage ob_tape ob_taped ob_five ob_size ob_at ob_from ob_token ob_value ob_faultKind ob_faultPlace ob_fresh ob_parts ob_houses ob_houseMany ob_worthOf ob_byCall ob_over ob_bestSet ob_bestOver ob_bestWorth ob_row ob_tenDebts ob_tenMany ob_fewestBy ob_covered ob_queue ob_cameBy ob_parent ob_met ob_calls ob_callMany ob_calledOn ob_saved ob_many ob_width ob_numbers ob_moving), (ce_i4 y ob_many fob_many), (ce_i4 y ob_width fob_width), (ce_l240 y ob_numbers fob_numbers)] sz) := by
  refine Met.ofW (cc := cX10_row) (maxL := 5) (ret := (some .int)) (by decide) rfl ?_
  intro p e s m args below meth c s₁ B hml hv
  obtain ⟨rfl, hsz, hP, hK, hD0⟩ := hv
  have hx := B.exec
  have hb := B.bytes
  have hr := B.returns
  have hw0 : ∀ w ∈ wAll, w.before _ s = true := fun w h => atoms_spec (ws := Cond.code yX10_row cX10_row 5 (some .int) :: wAll) B.pre w (List.mem_cons_of_mem _ h)
  have hown : s.vm.findClass RX10 = some m.cls := findClass_of_methodNamed B.named
  subst hsz
  have hD := hD0.self (sz := s.heap.size)
  generalize hAe : va_A [(ce_X10 ob ob_thrown ob_world ob_images ob_hasImage ob_tape ob_taped ob_five ob_size ob_at ob_from ob_token ob_value ob_faultKind ob_faultPlace ob_fresh ob_parts ob_houses ob_houseMany ob_worthOf ob_byCall ob_over ob_bestSet ob_bestOver ob_bestWorth ob_row ob_tenDebts ob_tenMany ob_fewestBy ob_covered ob_queue ob_cameBy ob_parent ob_met ob_calls ob_callMany ob_calledOn ob_saved ob_many ob_width ob_numbers ob_moving), (ce_i4 y ob_many fob_many), (ce_i4 y ob_width fob_width), (ce_l240 y ob_numbers fob_numbers)] s.heap.size = A at hD ⊢
  have hA : ∀ q : Nat, s.heap.size ≤ q → A q := fun q h => by rw [← hAe]; exact Or.inr h
  have hS : va_S A s.heap s.heap [] := va_S.rf
  have hP : va_P G vwCl [(ce_X10 ob ob_thrown ob_world ob_images ob_hasImage ob_tape ob_taped ob_five ob_size ob_at ob_from ob_token ob_value ob_faultKind ob_faultPlace ob_fresh ob_parts ob_houses ob_houseMany ob_worthOf ob_byCall ob_over ob_bestSet ob_bestOver ob_bestWorth ob_row ob_tenDebts ob_tenMany ob_fewestBy ob_covered ob_queue ob_cameBy ob_parent ob_met ob_calls ob_callMany ob_calledOn ob_saved ob_many ob_width ob_numbers ob_moving), (ce_i4 y ob_many fob_many), (ce_i4 y ob_width fob_width), (ce_l240 y ob_numbers fob_numbers)] s.heap := hP
  have hl := lv_entry ([.ref ob, .int 2, .int a2, .int a3]) (n := 5) (Nat.le_of_ble_eq_true rfl)
  rw [lg_entry_eq]
  generalize (lg_sl ([.ref ob, .int 2, .int a2, .int a3]) ++ List.replicate (5 - (lg_sl ([.ref ob, .int 2, .int a2, .int a3])).length) Slot.unset).toArray = ls at hl ⊢
  have hl : lv_has ls 5 [(0, .ref ob), (1, .int 2), (2, .int a2), (3, .int a3)] := hl
  refine lv_iload_n hx hb dX10_row_0 rfl (lv_at hl 1 rfl) ?_
  refine cSim (As := [.int 2]) (rest := []) ⟨hx, hb, hml, hown, hw0⟩ hA hK hP hD hS [] (fisSlotM l G y _ 2 ) rfl ⟨(callB_of 1 hw0 (gA m_543) rfl rfl rfl (hw0 _ m_41) (hw0 _ m_433) cb_X10_isSlot ⟨Nat.le_of_ble_eq_true rfl, Nat.le_of_ble_eq_true rfl⟩), (hw0 _ m_434)⟩ rfl hl.1 (Nat.le_of_ble_eq_true rfl) dX10_row_1 ⟨Nat.le_of_ble_eq_true rfl, Nat.le_of_ble_eq_true rfl⟩ (fun r_1001 w_1001 H locs hw_1001 hP hD hS => ?_)
  rcases hw_1001 with ⟨h_1002, rfl, rfl⟩ | ⟨h_1003, h_1004, rfl, rfl⟩
  · skip
    exact False.elim (by have h9 : Int32.toInt 2 = 2 := (by decide); omega)
  · skip
    obtain ⟨hP, hD⟩ : vPD G A H [(ce_X10 ob ob_thrown ob_world ob_images ob_hasImage ob_tape ob_taped ob_five ob_size ob_at ob_from ob_token ob_value ob_faultKind ob_faultPlace ob_fresh ob_parts ob_houses ob_houseMany ob_worthOf ob_byCall ob_over ob_bestSet ob_bestOver ob_bestWorth ob_row ob_tenDebts ob_tenMany ob_fewestBy ob_covered ob_queue ob_cameBy ob_parent ob_met ob_calls ob_callMany ob_calledOn ob_saved ob_many ob_width ob_numbers ob_moving), (ce_i4 y ob_many fob_many), (ce_i4 y ob_width fob_width), (ce_l240 y ob_numbers fob_numbers)] := ⟨hP, hD⟩
    refine lv_if_eq (tgt := 25) hx hb dX10_row_4 (by decide) (fun c9 => absurd c9 (by decide)) (fun _ => ?_)
    refine lv_iload_n hx hb dX10_row_7 rfl (lv_at hl 2 rfl) ?_
    refine lv_i2l hx hb dX10_row_8 rfl ?_
    refine lv_lconst (v := 0) hx hb dX10_row_9 (by decide) ?_
    refine lv_ldc2 (own := RX10) (v := 3) hx hb hown (hw0 _ m_398) dX10_row_10 ?_
    refine cSim (As := [.long (a2).toInt64, .long 0, .long 3]) (rest := []) ⟨hx, hb, hml, hown, hw0⟩ hA hK hP hD hS [] (sX10_in l G y _ ((a2).toInt64) 0 3 ) rfl ⟨(callB_of 3 hw0 (gA m_516) rfl rfl rfl (hw0 _ m_41) (hw0 _ m_345) cb_X10_in ⟨Nat.le_of_ble_eq_true rfl, Nat.le_of_ble_eq_true rfl⟩), (hw0 _ m_346)⟩ rfl hl.1 (Nat.le_of_ble_eq_true rfl) dX10_row_13 ⟨Nat.le_of_ble_eq_true rfl, Nat.le_of_ble_eq_true rfl⟩ (fun r_1005 w_1005 H locs hw_1005 hP hD hS => ?_)
    rcases hw_1005 with ⟨h_1006, rfl, rfl⟩ | ⟨h_1007, rfl, rfl⟩
    · skip
      have h_1008 : a2.toInt < (0 : Int) ∨ (3 : Int) < a2.toInt := in_n h_1006 (Int32.toInt_toInt64 _) (by decide) (by decide)
      obtain ⟨hP, hD⟩ : vPD G A H [(ce_X10 ob ob_thrown ob_world ob_images ob_hasImage ob_tape ob_taped ob_five ob_size ob_at ob_from ob_token ob_value ob_faultKind ob_faultPlace ob_fresh ob_parts ob_houses ob_houseMany ob_worthOf ob_byCall ob_over ob_bestSet ob_bestOver ob_bestWorth ob_row ob_tenDebts ob_tenMany ob_fewestBy ob_covered ob_queue ob_cameBy ob_parent ob_met ob_calls ob_callMany ob_calledOn ob_saved ob_many ob_width ob_numbers ob_moving), (ce_i4 y ob_many fob_many), (ce_i4 y ob_width fob_width), (ce_l240 y ob_numbers fob_numbers)] := ⟨hP, hD⟩
      refine lv_if_eq (tgt := 25) hx hb dX10_row_16 (by decide) (fun _ => ?_) (fun c9 => absurd (by decide) c9)
      refine lv_bipush (v := (-2)) hx hb dX10_row_25 (by decide) ?_
      exact W.iret (v := (-2)) hx hb hr (fun t ht hW => ⟨⟨(-2), _, rfl, Or.inl (⟨by have h90 : Int32.toInt (-2) = -2 := (by decide); have h91 : Int32.toInt 2 = 2 := (by decide); omega, rfl, rfl⟩), by rw [ht]; exact hP, hD⟩, hS.F ht⟩) hS.2.2 dX10_row_27
    · skip
      have h_1009 : (0 : Int) ≤ a2.toInt ∧ a2.toInt ≤ (3 : Int) := in_y h_1007 (Int32.toInt_toInt64 _) (by decide) (by decide)
      have h_1010_0 := (btop a2)
      have h_1010_1 := True.intro
      have h_1010_2 := True.intro
      have h_1010 : (0 : Int) ≤ a2.toInt ∧ a2.toInt ≤ 3 := by omega
      obtain ⟨hP, hD⟩ : vPD G A H [(ce_X10 ob ob_thrown ob_world ob_images ob_hasImage ob_tape ob_taped ob_five ob_size ob_at ob_from ob_token ob_value ob_faultKind ob_faultPlace ob_fresh ob_parts ob_houses ob_houseMany ob_worthOf ob_byCall ob_over ob_bestSet ob_bestOver ob_bestWorth ob_row ob_tenDebts ob_tenMany ob_fewestBy ob_covered ob_queue ob_cameBy ob_parent ob_met ob_calls ob_callMany ob_calledOn ob_saved ob_many ob_width ob_numbers ob_moving), (ce_i4 y ob_many fob_many), (ce_i4 y ob_width fob_width), (ce_l240 y ob_numbers fob_numbers)] := ⟨hP, hD⟩
      refine lv_if_eq (tgt := 25) hx hb dX10_row_16 (by decide) (fun c9 => absurd c9 (by decide)) (fun _ => ?_)
      refine lv_iload_n hx hb dX10_row_19 rfl (lv_at hl 3 rfl) ?_
      refine lv_bipush (v := 60) hx hb dX10_row_20 (by decide) ?_
      refine lv_icmp_le (tgt := 28) hx hb dX10_row_22 (by decide) (fun c_1011 => ?_) (fun c_1011 => ?_)
      · skip
        have nc_1011 := nb_le (60) (60) c_1011 (btop a3) (bkc (x := 60) (c := 60) (by decide)) (by decide)
        refine lv_iload_n hx hb dX10_row_28 rfl (lv_at hl 3 rfl) ?_
        refine lv_if_ge (tgt := 35) hx hb dX10_row_29 (by decide) (fun c_1012 => ?_) (fun c_1012 => ?_)
        · skip
          have nc_1012 := nb_le (0) (0) c_1012 (bkc (x := 0) (c := 0) (by decide)) nc_1011.1 (by decide)
          refine lv_aload_n hx hb dX10_row_35 rfl (lv_at hl 0 rfl) ?_
          refine va_get (D := G) (ci := 10) (v := .ref ob_many) (C := RX10) (T := TX10) (N := 41) hx hb hw0 inA_wsX100 hown hK.1 hP 0 rfl rfl 37 (by decide) (hw0 _ m_406) (fun _ h9 => h9) rfl dX10_row_36 ?_
          refine lv_iload_n hx hb dX10_row_39 rfl (lv_at hl 1 rfl) ?_
          refine lv_iload_n hx hb dX10_row_40 rfl (lv_at hl 3 rfl) ?_
          refine va_iast hx hb hK.1 hP hD hS 1 1 rfl rfl (vi (bkc (x := 2) (c := 2) (by decide)) (by decide)) dX10_row_41 (fun H locs hP hD hS => ?_)
          generalize hf_1013 : (upd fob_many (2 : Int32).toNatClampNeg a3) = f_1013 at hP hD
          have bf_1013 : ∀ i, (-1 : Int) ≤ (f_1013 i).toInt ∧ (f_1013 i).toInt ≤ 60 := hf_1013 ▸ up_b p_fob_many (bw (-1) (60) nc_1012.2.1 (by decide))
          have zf_1013_0 : (f_1013 0).toInt = (fob_many 0).toInt := hf_1013 ▸ pin_ne (ix_not (bkc (x := 2) (c := 2) (by decide)) (by decide))
          have zf_1013_1 : (f_1013 1).toInt = (fob_many 1).toInt := hf_1013 ▸ pin_ne (ix_not (bkc (x := 2) (c := 2) (by decide)) (by decide))
          have zf_1013_2 : (f_1013 2).toInt = (a3 : Int32).toInt := hf_1013 ▸ pin_eq (by decide)
          have zf_1013_3 : (f_1013 3).toInt = (fob_many 3).toInt := hf_1013 ▸ pin_ne (ix_not (bkc (x := 2) (c := 2) (by decide)) (by decide))
          obtain ⟨hP, hD⟩ : vPD G A H [(ce_X10 ob ob_thrown ob_world ob_images ob_hasImage ob_tape ob_taped ob_five ob_size ob_at ob_from ob_token ob_value ob_faultKind ob_faultPlace ob_fresh ob_parts ob_houses ob_houseMany ob_worthOf ob_byCall ob_over ob_bestSet ob_bestOver ob_bestWorth ob_row ob_tenDebts ob_tenMany ob_fewestBy ob_covered ob_queue ob_cameBy ob_parent ob_met ob_calls ob_callMany ob_calledOn ob_saved ob_many ob_width ob_numbers ob_moving), (ce_i4 y ob_many f_1013), (ce_i4 y ob_width fob_width), (ce_l240 y ob_numbers fob_numbers)] := ⟨hP, hD⟩
          refine lv_aload_n hx hb dX10_row_42 rfl (lv_at hl 0 rfl) ?_
          refine va_get (D := G) (ci := 10) (v := .ref ob_width) (C := RX10) (T := TX10) (N := 41) hx hb hw0 inA_wsX100 hown hK.1 hP 0 rfl rfl 38 (by decide) (hw0 _ m_527) (fun _ h9 => h9) rfl dX10_row_43 ?_
          refine lv_iload_n hx hb dX10_row_46 rfl (lv_at hl 1 rfl) ?_
          refine lv_iload_n hx hb dX10_row_47 rfl (lv_at hl 2 rfl) ?_
          refine va_iast hx hb hK.1 hP hD hS 2 1 rfl rfl (vi (bkc (x := 2) (c := 2) (by decide)) (by decide)) dX10_row_48 (fun H locs hP hD hS => ?_)
          generalize hf_1014 : (upd fob_width (2 : Int32).toNatClampNeg a2) = f_1014 at hP hD
          have bf_1014 : ∀ i, (0 : Int) ≤ (f_1014 i).toInt ∧ (f_1014 i).toInt ≤ 3 := hf_1014 ▸ up_b p_fob_width h_1010
          have zf_1014_0 : (f_1014 0).toInt = (fob_width 0).toInt := hf_1014 ▸ pin_ne (ix_not (bkc (x := 2) (c := 2) (by decide)) (by decide))
          have zf_1014_1 : (f_1014 1).toInt = (fob_width 1).toInt := hf_1014 ▸ pin_ne (ix_not (bkc (x := 2) (c := 2) (by decide)) (by decide))
          have zf_1014_2 : (f_1014 2).toInt = (a2 : Int32).toInt := hf_1014 ▸ pin_eq (by decide)
          have zf_1014_3 : (f_1014 3).toInt = (fob_width 3).toInt := hf_1014 ▸ pin_ne (ix_not (bkc (x := 2) (c := 2) (by decide)) (by decide))
          obtain ⟨hP, hD⟩ : vPD G A H [(ce_X10 ob ob_thrown ob_world ob_images ob_hasImage ob_tape ob_taped ob_five ob_size ob_at ob_from ob_token ob_value ob_faultKind ob_faultPlace ob_fresh ob_parts ob_houses ob_houseMany ob_worthOf ob_byCall ob_over ob_bestSet ob_bestOver ob_bestWorth ob_row ob_tenDebts ob_tenMany ob_fewestBy ob_covered ob_queue ob_cameBy ob_parent ob_met ob_calls ob_callMany ob_calledOn ob_saved ob_many ob_width ob_numbers ob_moving), (ce_i4 y ob_many f_1013), (ce_i4 y ob_width f_1014), (ce_l240 y ob_numbers fob_numbers)] := ⟨hP, hD⟩
          refine lv_iconst (v := 0) hx hb dX10_row_49 (by decide) ?_
          refine lv_istore (lv' := [(4, .int 0), (0, .ref ob), (1, .int 2), (2, .int a2), (3, .int a3)]) hx hb dX10_row_50 hl (by decide) rfl (fun ls hl => ?_)
          refine loopX (fun n H locs ls st => ∃ (v_1086 : Int32) (f_1087 : Nat → Int64), (60 - v_1086.toInt).toNat = n ∧ ((0 : Int) ≤ v_1086.toInt ∧ v_1086.toInt ≤ 60) ∧ st = [] ∧ vPD G A H [(ce_X10 ob ob_thrown ob_world ob_images ob_hasImage ob_tape ob_taped ob_five ob_size ob_at ob_from ob_token ob_value ob_faultKind ob_faultPlace ob_fresh ob_parts ob_houses ob_houseMany ob_worthOf ob_byCall ob_over ob_bestSet ob_bestOver ob_bestWorth ob_row ob_tenDebts ob_tenMany ob_fewestBy ob_covered ob_queue ob_cameBy ob_parent ob_met ob_calls ob_callMany ob_calledOn ob_saved ob_many ob_width ob_numbers ob_moving), (ce_i4 y ob_many f_1013), (ce_i4 y ob_width f_1014), (ce_l240 y ob_numbers f_1087)] ∧ va_S A s.heap H locs ∧ lv_has ls 5 [(4, .int v_1086), (0, .ref ob), (1, .int 2)]) ?_ (n := (60 - (0 : Int32).toInt).toNat) ⟨0, fob_numbers, rfl, (bw (0) (60) (bkc (x := 0) (c := 0) (by decide)) (by decide)), rfl, ⟨hP, hD⟩, hS, lv_sub hl [0, 1, 2] rfl⟩
          rintro n ih_1092 H locs ls st ⟨v_1086, f_1087, hn_1092, bv_1086, rfl, ⟨hP, hD⟩, hS, hl⟩
          refine lv_iload hx hb dX10_row_52 (lv_at hl 0 rfl) ?_
          refine lv_bipush (v := 60) hx hb dX10_row_54 (by decide) ?_
          refine lv_icmp_ge (tgt := 78) hx hb dX10_row_56 (by decide) (fun c_1093 => ?_) (fun c_1093 => ?_)
          · skip
            have nc_1093 := nb_le (60) (60) c_1093 (bkc (x := 60) (c := 60) (by decide)) bv_1086 (by decide)
            refine lv_iconst (v := 0) hx hb dX10_row_78 (by decide) ?_
            exact W.iret (v := 0) hx hb hr (fun t ht hW => ⟨⟨0, _, rfl, Or.inr (Or.inr (⟨f_1013, f_1014, f_1087, bf_1013, bf_1014, h_1010, nc_1012.2.1, by have h90 : Int32.toInt 0 = 0 := (by decide); have h91 : Int32.toInt 2 = 2 := (by decide); omega, by have h90 : Int32.toInt 0 = 0 := (by decide); have h91 : Int32.toInt 2 = 2 := (by decide); omega, by have h90 : Int32.toInt 0 = 0 := (by decide); have h91 : Int32.toInt 2 = 2 := (by decide); omega, by have h90 : Int32.toInt 0 = 0 := (by decide); have h91 : Int32.toInt 2 = 2 := (by decide); omega, by have h90 : Int32.toInt 0 = 0 := (by decide); have h91 : Int32.toInt 2 = 2 := (by decide); omega, by have h90 : Int32.toInt 0 = 0 := (by decide); have h91 : Int32.toInt 2 = 2 := (by decide); omega, by have h90 : Int32.toInt 0 = 0 := (by decide); have h91 : Int32.toInt 2 = 2 := (by decide); omega, by have h90 : Int32.toInt 0 = 0 := (by decide); have h91 : Int32.toInt 2 = 2 := (by decide); omega, by have h90 : Int32.toInt 0 = 0 := (by decide); have h91 : Int32.toInt 2 = 2 := (by decide); omega, rfl, rfl⟩)), by rw [ht]; exact hP, hD⟩, hS.F ht⟩) hS.2.2 dX10_row_79
          · skip
            have nc_1093 := nb_nle (59) (60) c_1093 bv_1086 (bkc (x := 60) (c := 60) (by decide)) (by decide)
            refine lv_aload_n hx hb dX10_row_59 rfl (lv_at hl 1 rfl) ?_
            refine va_get (D := G) (ci := 10) (v := .ref ob_numbers) (C := RX10) (T := TX10) (N := 41) hx hb hw0 inA_wsX100 hown hK.1 hP 0 rfl rfl 39 (by decide) (hw0 _ m_435) (fun _ h9 => h9) rfl dX10_row_60 ?_
            refine lv_bipush (v := 60) hx hb dX10_row_63 (by decide) ?_
            refine lv_iload_n hx hb dX10_row_65 rfl (lv_at hl 2 rfl) ?_
            refine lv_imul hx hb dX10_row_66 ?_
            refine lv_topi (fun v_1094 ev_1094 => ?_)
            obtain rfl : 120 = v_1094 := (ev_1094.trans (by decide)).symm
            refine lv_iload hx hb dX10_row_67 (lv_at hl 0 rfl) ?_
            refine lv_iadd hx hb dX10_row_69 ?_
            refine lv_topi (fun v_1095 ev_1095 => ?_)
            have qv_1095 := ba_add ev_1095 (bkc (x := 120) (c := 120) (by decide)) nc_1093.1 (by decide)
            have bv_1095 : (120 : Int) ≤ v_1095.toInt ∧ v_1095.toInt ≤ 179 := bq_add qv_1095 (bkc (x := 120) (c := 120) (by decide)) nc_1093.1 _ _ (by decide)
            have qv_1095 : v_1095.toInt = (120) + v_1086.toInt := qv_1095
            refine lv_lconst (v := 0) hx hb dX10_row_70 (by decide) ?_
            refine va_last hx hb hK.1 hP hD hS 3 2 rfl rfl (vi bv_1095 (by decide)) dX10_row_71 (fun H locs hP hD hS => ?_)
            generalize hf_1096 : (vp_updL f_1087 (v_1095 : Int32).toNatClampNeg 0) = f_1096 at hP hD
            obtain ⟨hP, hD⟩ : vPD G A H [(ce_X10 ob ob_thrown ob_world ob_images ob_hasImage ob_tape ob_taped ob_five ob_size ob_at ob_from ob_token ob_value ob_faultKind ob_faultPlace ob_fresh ob_parts ob_houses ob_houseMany ob_worthOf ob_byCall ob_over ob_bestSet ob_bestOver ob_bestWorth ob_row ob_tenDebts ob_tenMany ob_fewestBy ob_covered ob_queue ob_cameBy ob_parent ob_met ob_calls ob_callMany ob_calledOn ob_saved ob_many ob_width ob_numbers ob_moving), (ce_i4 y ob_many f_1013), (ce_i4 y ob_width f_1014), (ce_l240 y ob_numbers f_1096)] := ⟨hP, hD⟩
            obtain ⟨v_1097, ev_1097⟩ : ∃ z : Int32, z = v_1086 + 1 := ⟨_, rfl⟩
            have qv_1097 := ba_add ev_1097 nc_1093.1 (bkc (x := 1) (c := 1) (by decide)) (by decide)
            have bv_1097 : (1 : Int) ≤ v_1097.toInt ∧ v_1097.toInt ≤ 60 := bq_add qv_1097 nc_1093.1 (bkc (x := 1) (c := 1) (by decide)) _ _ (by decide)
            have qv_1097 : v_1097.toInt = v_1086.toInt + (1) := qv_1097
            refine lv_iinc (v := v_1097) (lv' := [(4, .int v_1097), (0, .ref ob), (1, .int 2)]) hx hb dX10_row_72 hl (k := 0) rfl (ev_1097.symm) (by decide) rfl (fun ls hl => ?_)
            refine lv_goto (tgt := 52) hx hb dX10_row_75 (by decide) ?_
            exact ih_1092 _ (ml_inc (hi := 60) hn_1092 qv_1097 (by decide) ((bw (0) (60) bv_1097 (by decide))).2) _ _ _ _ ⟨v_1097, f_1096, rfl, (bw (0) (60) bv_1097 (by decide)), rfl, ⟨hP, hD⟩, hS, lv_sub hl [0, 1, 2] rfl⟩
        · skip
          have nc_1012 := nb_nle (-1) (0) c_1012 nc_1011.1 (bkc (x := 0) (c := 0) (by decide)) (by decide)
          refine lv_bipush (v := (-3)) hx hb dX10_row_32 (by decide) ?_
          exact W.iret (v := (-3)) hx hb hr (fun t ht hW => ⟨⟨(-3), _, rfl, Or.inr (Or.inl (⟨h_1010, by have h90 : Int32.toInt (-3) = -3 := (by decide); have h91 : Int32.toInt 2 = 2 := (by decide); omega, rfl, rfl⟩)), by rw [ht]; exact hP, hD⟩, hS.F ht⟩) hS.2.2 dX10_row_34
      · skip
        have nc_1011 := nb_nle (60) (61) c_1011 (bkc (x := 60) (c := 60) (by decide)) (btop a3) (by decide)
        refine lv_bipush (v := (-2)) hx hb dX10_row_25 (by decide) ?_
        exact W.iret (v := (-2)) hx hb hr (fun t ht hW => ⟨⟨(-2), _, rfl, Or.inl (⟨by have h90 : Int32.toInt (-2) = -2 := (by decide); have h91 : Int32.toInt 2 = 2 := (by decide); omega, rfl, rfl⟩), by rw [ht]; exact hP, hD⟩, hS.F ht⟩) hS.2.2 dX10_row_27

set_option maxHeartbeats 4000000 in
set_option maxRecDepth 100000 in
theorem fwriteM2 (l : Launch) (G : va_G) (y : Nat → ClassId) (sz : Nat) (ob : Nat) (a2 : Int32) (a3 : Int64) (ob_thrown : Int32) (ob_world : Nat) (ob_images : Nat) (ob_hasImage : Nat) (ob_tape : Nat) (ob_taped : Int32) (ob_five : Nat) (ob_size : Int32) (ob_at : Int32) (ob_from : Int32) (ob_token : Int32) (ob_value : Int32) (ob_faultKind : Int32) (ob_faultPlace : Int32) (ob_fresh : Nat) (ob_parts : Nat) (ob_houses : Nat) (ob_houseMany : Int32) (ob_worthOf : Nat) (ob_byCall : Nat) (ob_over : Nat) (ob_bestSet : Int32) (ob_bestOver : Int32) (ob_bestWorth : Int32) (ob_row : Nat) (ob_tenDebts : Nat) (ob_tenMany : Int32) (ob_fewestBy : Nat) (ob_covered : Nat) (ob_queue : Nat) (ob_cameBy : Nat) (ob_parent : Nat) (ob_met : Nat) (ob_calls : Nat) (ob_callMany : Int32) (ob_calledOn : Nat) (ob_saved : Nat) (ob_many : Nat) (ob_width : Nat) (ob_numbers : Nat) (ob_moving : Nat) (fob_many : Nat → Int32) (fob_width : Nat → Int32) (fob_numbers : Nat → Int64) (p_ob_taped : (0 : Int) ≤ ob_taped.toInt ∧ ob_taped.toInt ≤ 1400) (p_ob_size : (0 : Int) ≤ ob_size.toInt ∧ ob_size.toInt ≤ 1400) (p_ob_at : (0 : Int) ≤ ob_at.toInt ∧ ob_at.toInt ≤ 1400) (p_ob_from : (0 : Int) ≤ ob_from.toInt ∧ ob_from.toInt ≤ 1400) (p_ob_token : (0 : Int) ≤ ob_token.toInt ∧ ob_token.toInt ≤ 4) (p_ob_value : (0 : Int) ≤ ob_value.toInt ∧ ob_value.toInt ≤ 9999) (p_ob_faultKind : (0 : Int) ≤ ob_faultKind.toInt ∧ ob_faultKind.toInt ≤ 3) (p_ob_houseMany : (0 : Int) ≤ ob_houseMany.toInt ∧ ob_houseMany.toInt ≤ 10) (p_ob_bestSet : (0 : Int) ≤ ob_bestSet.toInt ∧ ob_bestSet.toInt ≤ 1023) (p_ob_bestOver : (-1 : Int) ≤ ob_bestOver.toInt ∧ ob_bestOver.toInt ≤ 180) (p_ob_tenMany : (0 : Int) ≤ ob_tenMany.toInt ∧ ob_tenMany.toInt ≤ 10) (p_ob_callMany : (0 : Int) ≤ ob_callMany.toInt ∧ ob_callMany.toInt ≤ 16) (p_fob_many : ∀ i, (-1 : Int) ≤ (fob_many i).toInt ∧ (fob_many i).toInt ≤ 60) (p_fob_width : ∀ i, (0 : Int) ≤ (fob_width i).toInt ∧ (fob_width i).toInt ≤ 3) : Met l yX10_write (Cond.code yX10_write cX10_write 5 (some .int) :: wAll) ({ frames := 2, cells := 0, slots := 0, locals := 45 }) (va_Pc [.ref ob, .int 2, .int a2, .long a3] (kp G y sz [(ce_X10 ob ob_thrown ob_world ob_images ob_hasImage ob_tape ob_taped ob_five ob_size ob_at ob_from ob_token ob_value ob_faultKind ob_faultPlace ob_fresh ob_parts ob_houses ob_houseMany ob_worthOf ob_byCall ob_over ob_bestSet ob_bestOver ob_bestWorth ob_row ob_tenDebts ob_tenMany ob_fewestBy ob_covered ob_queue ob_cameBy ob_parent ob_met ob_calls ob_callMany ob_calledOn ob_saved ob_many ob_width ob_numbers ob_moving), (ce_i4 y ob_many fob_many), (ce_i4 y ob_width fob_width), (ce_l240 y ob_numbers fob_numbers)])) (va_Qi (fun (r : Int32) (w : va_W) => (((fob_many 2).toInt = -1) ∧ r = (-6) ∧ w = [(ce_X10 ob ob_thrown ob_world ob_images ob_hasImage ob_tape ob_taped ob_five ob_size ob_at ob_from ob_token ob_value ob_faultKind ob_faultPlace ob_fresh ob_parts ob_houses ob_houseMany ob_worthOf ob_byCall ob_over ob_bestSet ob_bestOver ob_bestWorth ob_row ob_tenDebts ob_tenMany ob_fewestBy ob_covered ob_queue ob_cameBy ob_parent ob_met ob_calls ob_callMany ob_calledOn ob_saved ob_many ob_width ob_numbers ob_moving), (ce_i4 y ob_many fob_many), (ce_i4 y ob_width fob_width), (ce_l240 y ob_numbers fob_numbers)]) ∨ ((¬ (fob_many 2).toInt = -1 ∧ (a2.toInt < 0 ∨ (fob_many 2).toInt ≤ a2.toInt)) ∧ r = (-7) ∧ w = [(ce_X10 ob ob_thrown ob_world ob_images ob_hasImage ob_tape ob_taped ob_five ob_size ob_at ob_from ob_token ob_value ob_faultKind ob_faultPlace ob_fresh ob_parts ob_houses ob_houseMany ob_worthOf ob_byCall ob_over ob_bestSet ob_bestOver ob_bestWorth ob_row ob_tenDebts ob_tenMany ob_fewestBy ob_covered ob_queue ob_cameBy ob_parent ob_met ob_calls ob_callMany ob_calledOn ob_saved ob_many ob_width ob_numbers ob_moving), (ce_i4 y ob_many fob_many), (ce_i4 y ob_width fob_width), (ce_l240 y ob_numbers fob_numbers)]) ∨ (∃ (f_43 : Nat → Int64), ((0 : Int) ≤ a2.toInt ∧ a2.toInt ≤ 59) ∧ (¬ (fob_many 2).toInt = -1 ∧ 0 ≤ a2.toInt ∧ a2.toInt < (fob_many 2).toInt) ∧ r = 0 ∧ w = [(ce_X10 ob ob_thrown ob_world ob_images ob_hasImage ob_tape ob_taped ob_five ob_size ob_at ob_from ob_token ob_value ob_faultKind ob_faultPlace ob_fresh ob_parts ob_houses ob_houseMany ob_worthOf ob_byCall ob_over ob_bestSet ob_bestOver ob_bestWorth ob_row ob_tenDebts ob_tenMany ob_fewestBy ob_covered ob_queue ob_cameBy ob_parent ob_met ob_calls ob_callMany ob_calledOn ob_saved ob_many ob_width ob_numbers ob_moving), (ce_i4 y ob_many fob_many), (ce_i4 y ob_width fob_width), (ce_l240 y ob_numbers f_43)])) (kq G (va_A [(ce_X10 ob ob_thrown ob_world ob_images ob_hasImage ob_tape ob_taped ob_five ob_size ob_at ob_from ob_token ob_value ob_faultKind ob_faultPlace ob_fresh ob_parts ob_houses ob_houseMany ob_worthOf ob_byCall ob_over ob_bestSet ob_bestOver ob_bestWorth ob_row ob_tenDebts ob_tenMany ob_fewestBy ob_covered ob_queue ob_cameBy ob_parent ob_met ob_calls ob_callMany ob_calledOn ob_saved ob_many ob_width ob_numbers ob_moving), (ce_i4 y ob_many fob_many), (ce_i4 y ob_width fob_width), (ce_l240 y ob_numbers fob_numbers)] sz)) (va_A [(ce_X10 ob ob_thrown ob_world ob_images ob_hasImage ob_tape ob_taped ob_five ob_size ob_at ob_from ob_token ob_value ob_faultKind ob_faultPlace ob_fresh ob_parts ob_houses ob_houseMany ob_worthOf ob_byCall ob_over ob_bestSet ob_bestOver ob_bestWorth ob_row ob_tenDebts ob_tenMany ob_fewestBy ob_covered ob_queue ob_cameBy ob_parent ob_met ob_calls ob_callMany ob_calledOn ob_saved ob_many ob_width ob_numbers ob_moving), (ce_i4 y ob_many fob_many), (ce_i4 y ob_width fob_width), (ce_l240 y ob_numbers fob_numbers)] sz)) 0 0 (va_A [(ce_X10 ob ob_thrown ob_world ob_images ob_hasImage ob_tape ob_taped ob_five ob_size ob_at ob_from ob_token ob_value ob_faultKind ob_faultPlace ob_fresh ob_parts ob_houses ob_houseMany ob_worthOf ob_byCall ob_over ob_bestSet ob_bestOver ob_bestWorth ob_row ob_tenDebts ob_tenMany ob_fewestBy ob_covered ob_queue ob_cameBy ob_parent ob_met ob_calls ob_callMany ob_calledOn ob_saved ob_many ob_width ob_numbers ob_moving), (ce_i4 y ob_many fob_many), (ce_i4 y ob_width fob_width), (ce_l240 y ob_numbers fob_numbers)] sz) := by
  refine Met.ofW (cc := cX10_write) (maxL := 5) (ret := (some .int)) (by decide) rfl ?_
  intro p e s m args below meth c s₁ B hml hv
  obtain ⟨rfl, hsz, hP, hK, hD0⟩ := hv
  have hx := B.exec
  have hb := B.bytes
  have hr := B.returns
  have hw0 : ∀ w ∈ wAll, w.before _ s = true := fun w h => atoms_spec (ws := Cond.code yX10_write cX10_write 5 (some .int) :: wAll) B.pre w (List.mem_cons_of_mem _ h)
  have hown : s.vm.findClass RX10 = some m.cls := findClass_of_methodNamed B.named
  subst hsz
  have hD := hD0.self (sz := s.heap.size)
  generalize hAe : va_A [(ce_X10 ob ob_thrown ob_world ob_images ob_hasImage ob_tape ob_taped ob_five ob_size ob_at ob_from ob_token ob_value ob_faultKind ob_faultPlace ob_fresh ob_parts ob_houses ob_houseMany ob_worthOf ob_byCall ob_over ob_bestSet ob_bestOver ob_bestWorth ob_row ob_tenDebts ob_tenMany ob_fewestBy ob_covered ob_queue ob_cameBy ob_parent ob_met ob_calls ob_callMany ob_calledOn ob_saved ob_many ob_width ob_numbers ob_moving), (ce_i4 y ob_many fob_many), (ce_i4 y ob_width fob_width), (ce_l240 y ob_numbers fob_numbers)] s.heap.size = A at hD ⊢
  have hA : ∀ q : Nat, s.heap.size ≤ q → A q := fun q h => by rw [← hAe]; exact Or.inr h
  have hS : va_S A s.heap s.heap [] := va_S.rf
  have hP : va_P G vwCl [(ce_X10 ob ob_thrown ob_world ob_images ob_hasImage ob_tape ob_taped ob_five ob_size ob_at ob_from ob_token ob_value ob_faultKind ob_faultPlace ob_fresh ob_parts ob_houses ob_houseMany ob_worthOf ob_byCall ob_over ob_bestSet ob_bestOver ob_bestWorth ob_row ob_tenDebts ob_tenMany ob_fewestBy ob_covered ob_queue ob_cameBy ob_parent ob_met ob_calls ob_callMany ob_calledOn ob_saved ob_many ob_width ob_numbers ob_moving), (ce_i4 y ob_many fob_many), (ce_i4 y ob_width fob_width), (ce_l240 y ob_numbers fob_numbers)] s.heap := hP
  have hl := lv_entry ([.ref ob, .int 2, .int a2, .long a3]) (n := 5) (Nat.le_of_ble_eq_true rfl)
  rw [lg_entry_eq]
  generalize (lg_sl ([.ref ob, .int 2, .int a2, .long a3]) ++ List.replicate (5 - (lg_sl ([.ref ob, .int 2, .int a2, .long a3])).length) Slot.unset).toArray = ls at hl ⊢
  have hl : lv_has ls 5 [(0, .ref ob), (1, .int 2), (2, .int a2), (3, .long a3)] := hl
  refine lv_iload_n hx hb dX10_write_0 rfl (lv_at hl 1 rfl) ?_
  refine cSim (As := [.int 2]) (rest := []) ⟨hx, hb, hml, hown, hw0⟩ hA hK hP hD hS [] (fisSlotM l G y _ 2 ) rfl ⟨(callB_of 1 hw0 (gA m_543) rfl rfl rfl (hw0 _ m_41) (hw0 _ m_433) cb_X10_isSlot ⟨Nat.le_of_ble_eq_true rfl, Nat.le_of_ble_eq_true rfl⟩), (hw0 _ m_434)⟩ rfl hl.1 (Nat.le_of_ble_eq_true rfl) dX10_write_1 ⟨Nat.le_of_ble_eq_true rfl, Nat.le_of_ble_eq_true rfl⟩ (fun r_1001 w_1001 H locs hw_1001 hP hD hS => ?_)
  rcases hw_1001 with ⟨h_1002, rfl, rfl⟩ | ⟨h_1003, h_1004, rfl, rfl⟩
  · skip
    exact False.elim (by have h9 : Int32.toInt 2 = 2 := (by decide); omega)
  · skip
    obtain ⟨hP, hD⟩ : vPD G A H [(ce_X10 ob ob_thrown ob_world ob_images ob_hasImage ob_tape ob_taped ob_five ob_size ob_at ob_from ob_token ob_value ob_faultKind ob_faultPlace ob_fresh ob_parts ob_houses ob_houseMany ob_worthOf ob_byCall ob_over ob_bestSet ob_bestOver ob_bestWorth ob_row ob_tenDebts ob_tenMany ob_fewestBy ob_covered ob_queue ob_cameBy ob_parent ob_met ob_calls ob_callMany ob_calledOn ob_saved ob_many ob_width ob_numbers ob_moving), (ce_i4 y ob_many fob_many), (ce_i4 y ob_width fob_width), (ce_l240 y ob_numbers fob_numbers)] := ⟨hP, hD⟩
    refine lv_if_ne (tgt := 10) hx hb dX10_write_4 (by decide) (fun _ => ?_) (fun c9 => absurd c9 (by decide))
    refine lv_aload_n hx hb dX10_write_10 rfl (lv_at hl 0 rfl) ?_
    refine va_get (D := G) (ci := 10) (v := .ref ob_many) (C := RX10) (T := TX10) (N := 41) hx hb hw0 inA_wsX100 hown hK.1 hP 0 rfl rfl 37 (by decide) (hw0 _ m_406) (fun _ h9 => h9) rfl dX10_write_11 ?_
    refine lv_iload_n hx hb dX10_write_14 rfl (lv_at hl 1 rfl) ?_
    refine va_iald hx hb hK.1 hP 1 1 rfl rfl (vi (bkc (x := 2) (c := 2) (by decide)) (by decide)) dX10_write_15 ?_
    refine lv_topi (fun v_1005 ev_1005 => ?_)
    have bv_1005 : (-1 : Int) ≤ v_1005.toInt ∧ v_1005.toInt ≤ 60 := rd_b ev_1005 p_fob_many
    have yv_1005 : v_1005.toInt = (fob_many 2).toInt := congrArg Int32.toInt ev_1005
    refine lv_iconst (v := (-1)) hx hb dX10_write_16 (by decide) ?_
    refine lv_icmp_ne (tgt := 23) hx hb dX10_write_17 (by decide) (fun c_1006 => ?_) (fun c_1006 => ?_)
    · skip
      have nc_1006 := nb_ne (0) (60) c_1006 bv_1005 (k := -1) (by decide) (by decide)
      refine lv_iload_n hx hb dX10_write_23 rfl (lv_at hl 2 rfl) ?_
      refine lv_i2l hx hb dX10_write_24 rfl ?_
      refine lv_lconst (v := 0) hx hb dX10_write_25 (by decide) ?_
      refine lv_aload_n hx hb dX10_write_26 rfl (lv_at hl 0 rfl) ?_
      refine va_get (D := G) (ci := 10) (v := .ref ob_many) (C := RX10) (T := TX10) (N := 41) hx hb hw0 inA_wsX100 hown hK.1 hP 0 rfl rfl 37 (by decide) (hw0 _ m_406) (fun _ h9 => h9) rfl dX10_write_27 ?_
      refine lv_iload_n hx hb dX10_write_30 rfl (lv_at hl 1 rfl) ?_
      refine va_iald hx hb hK.1 hP 1 1 rfl rfl (vi (bkc (x := 2) (c := 2) (by decide)) (by decide)) dX10_write_31 ?_
      refine lv_topi (fun v_1007 ev_1007 => ?_)
      obtain rfl : v_1005 = v_1007 := (ev_1007.trans (ev_1005.symm)).symm
      refine lv_iconst (v := 1) hx hb dX10_write_32 (by decide) ?_
      refine lv_isub hx hb dX10_write_33 ?_
      refine lv_topi (fun v_1008 ev_1008 => ?_)
      have qv_1008 := ba_sub ev_1008 nc_1006.1 (bkc (x := 1) (c := 1) (by decide)) (by decide)
      have bv_1008 : (-1 : Int) ≤ v_1008.toInt ∧ v_1008.toInt ≤ 59 := bq_sub qv_1008 nc_1006.1 (bkc (x := 1) (c := 1) (by decide)) _ _ (by decide)
      have qv_1008 : v_1008.toInt = v_1005.toInt - (1) := qv_1008
      refine lv_i2l hx hb dX10_write_34 rfl ?_
      refine cSim (As := [.long (a2).toInt64, .long 0, .long (v_1008).toInt64]) (rest := []) ⟨hx, hb, hml, hown, hw0⟩ hA hK hP hD hS [] (sX10_in l G y _ ((a2).toInt64) 0 ((v_1008).toInt64) ) rfl ⟨(callB_of 3 hw0 (gA m_516) rfl rfl rfl (hw0 _ m_41) (hw0 _ m_345) cb_X10_in ⟨Nat.le_of_ble_eq_true rfl, Nat.le_of_ble_eq_true rfl⟩), (hw0 _ m_346)⟩ rfl hl.1 (Nat.le_of_ble_eq_true rfl) dX10_write_35 ⟨Nat.le_of_ble_eq_true rfl, Nat.le_of_ble_eq_true rfl⟩ (fun r_1009 w_1009 H locs hw_1009 hP hD hS => ?_)
      rcases hw_1009 with ⟨h_1010, rfl, rfl⟩ | ⟨h_1011, rfl, rfl⟩
      · skip
        have h_1012 : a2.toInt < (0 : Int) ∨ (v_1008.toInt : Int) < a2.toInt := in_n h_1010 (Int32.toInt_toInt64 _) (by decide) (Int32.toInt_toInt64 _)
        obtain ⟨hP, hD⟩ : vPD G A H [(ce_X10 ob ob_thrown ob_world ob_images ob_hasImage ob_tape ob_taped ob_five ob_size ob_at ob_from ob_token ob_value ob_faultKind ob_faultPlace ob_fresh ob_parts ob_houses ob_houseMany ob_worthOf ob_byCall ob_over ob_bestSet ob_bestOver ob_bestWorth ob_row ob_tenDebts ob_tenMany ob_fewestBy ob_covered ob_queue ob_cameBy ob_parent ob_met ob_calls ob_callMany ob_calledOn ob_saved ob_many ob_width ob_numbers ob_moving), (ce_i4 y ob_many fob_many), (ce_i4 y ob_width fob_width), (ce_l240 y ob_numbers fob_numbers)] := ⟨hP, hD⟩
        refine lv_if_ne (tgt := 44) hx hb dX10_write_38 (by decide) (fun c9 => absurd (by decide) c9) (fun _ => ?_)
        refine lv_bipush (v := (-7)) hx hb dX10_write_41 (by decide) ?_
        exact W.iret (v := (-7)) hx hb hr (fun t ht hW => ⟨⟨(-7), _, rfl, Or.inr (Or.inl (⟨by have h90 : Int32.toInt (-7) = -7 := (by decide); have h91 : Int32.toInt 2 = 2 := (by decide); omega, rfl, rfl⟩)), by rw [ht]; exact hP, hD⟩, hS.F ht⟩) hS.2.2 dX10_write_43
      · skip
        have h_1013 : (0 : Int) ≤ a2.toInt ∧ a2.toInt ≤ (v_1008.toInt : Int) := in_y h_1011 (Int32.toInt_toInt64 _) (by decide) (Int32.toInt_toInt64 _)
        have h_1014_0 := (btop a2)
        have h_1014_1 := True.intro
        have h_1014_2 := bv_1008
        have h_1014 : (0 : Int) ≤ a2.toInt ∧ a2.toInt ≤ 59 := by omega
        have h_1015 : (0 : Int) ≤ v_1008.toInt ∧ v_1008.toInt ≤ 59 := by have h9 := bv_1008; have h8 := h_1014; omega
        obtain ⟨hP, hD⟩ : vPD G A H [(ce_X10 ob ob_thrown ob_world ob_images ob_hasImage ob_tape ob_taped ob_five ob_size ob_at ob_from ob_token ob_value ob_faultKind ob_faultPlace ob_fresh ob_parts ob_houses ob_houseMany ob_worthOf ob_byCall ob_over ob_bestSet ob_bestOver ob_bestWorth ob_row ob_tenDebts ob_tenMany ob_fewestBy ob_covered ob_queue ob_cameBy ob_parent ob_met ob_calls ob_callMany ob_calledOn ob_saved ob_many ob_width ob_numbers ob_moving), (ce_i4 y ob_many fob_many), (ce_i4 y ob_width fob_width), (ce_l240 y ob_numbers fob_numbers)] := ⟨hP, hD⟩
        refine lv_if_ne (tgt := 44) hx hb dX10_write_38 (by decide) (fun _ => ?_) (fun c9 => absurd c9 (by decide))
        refine lv_aload_n hx hb dX10_write_44 rfl (lv_at hl 0 rfl) ?_
        refine va_get (D := G) (ci := 10) (v := .ref ob_numbers) (C := RX10) (T := TX10) (N := 41) hx hb hw0 inA_wsX100 hown hK.1 hP 0 rfl rfl 39 (by decide) (hw0 _ m_435) (fun _ h9 => h9) rfl dX10_write_45 ?_
        refine lv_bipush (v := 60) hx hb dX10_write_48 (by decide) ?_
        refine lv_iload_n hx hb dX10_write_50 rfl (lv_at hl 1 rfl) ?_
        refine lv_imul hx hb dX10_write_51 ?_
        refine lv_topi (fun v_1016 ev_1016 => ?_)
        obtain rfl : 120 = v_1016 := (ev_1016.trans (by decide)).symm
        refine lv_iload_n hx hb dX10_write_52 rfl (lv_at hl 2 rfl) ?_
        refine lv_iadd hx hb dX10_write_53 ?_
        refine lv_topi (fun v_1017 ev_1017 => ?_)
        have qv_1017 := ba_add ev_1017 (bkc (x := 120) (c := 120) (by decide)) h_1014 (by decide)
        have bv_1017 : (120 : Int) ≤ v_1017.toInt ∧ v_1017.toInt ≤ 179 := bq_add qv_1017 (bkc (x := 120) (c := 120) (by decide)) h_1014 _ _ (by decide)
        have qv_1017 : v_1017.toInt = (120) + a2.toInt := qv_1017
        refine lv_lload_n hx hb dX10_write_54 rfl (lv_at hl 3 rfl) ?_
        refine lv_aload_n hx hb dX10_write_55 rfl (lv_at hl 0 rfl) ?_
        refine va_get (D := G) (ci := 10) (v := .ref ob_width) (C := RX10) (T := TX10) (N := 41) hx hb hw0 inA_wsX100 hown hK.1 hP 0 rfl rfl 38 (by decide) (hw0 _ m_527) (fun _ h9 => h9) rfl dX10_write_56 ?_
        refine lv_iload_n hx hb dX10_write_59 rfl (lv_at hl 1 rfl) ?_
        refine va_iald hx hb hK.1 hP 2 1 rfl rfl (vi (bkc (x := 2) (c := 2) (by decide)) (by decide)) dX10_write_60 ?_
        refine lv_topi (fun v_1018 ev_1018 => ?_)
        have bv_1018 : (0 : Int) ≤ v_1018.toInt ∧ v_1018.toInt ≤ 3 := rd_b ev_1018 p_fob_width
        have yv_1018 : v_1018.toInt = (fob_width 2).toInt := congrArg Int32.toInt ev_1018
        refine cSlm (As := [.long a3, .int v_1018]) (rest := [.int v_1017, .ref ob_numbers]) ⟨hx, hb, hml, hown, hw0⟩ hA hK hP hD hS [] (sX10_cut l G y _ a3 v_1018 bv_1018) rfl ⟨(callB_of 2 hw0 (gA m_412) rfl rfl rfl (hw0 _ m_41) (hw0 _ m_699) cb_X10_cut ⟨Nat.le_of_ble_eq_true rfl, Nat.le_of_ble_eq_true rfl⟩), (hw0 _ m_700)⟩ rfl hl.1 (Nat.le_of_ble_eq_true rfl) dX10_write_61 ⟨Nat.le_of_ble_eq_true rfl, Nat.le_of_ble_eq_true rfl⟩ (fun r_1019 w_1019 H locs hw_1019 hP hD hS => ?_)
        obtain ⟨v_1020, er_1019, rfl⟩ := hw_1019
        subst r_1019
        obtain ⟨hP, hD⟩ : vPD G A H [(ce_X10 ob ob_thrown ob_world ob_images ob_hasImage ob_tape ob_taped ob_five ob_size ob_at ob_from ob_token ob_value ob_faultKind ob_faultPlace ob_fresh ob_parts ob_houses ob_houseMany ob_worthOf ob_byCall ob_over ob_bestSet ob_bestOver ob_bestWorth ob_row ob_tenDebts ob_tenMany ob_fewestBy ob_covered ob_queue ob_cameBy ob_parent ob_met ob_calls ob_callMany ob_calledOn ob_saved ob_many ob_width ob_numbers ob_moving), (ce_i4 y ob_many fob_many), (ce_i4 y ob_width fob_width), (ce_l240 y ob_numbers fob_numbers)] := ⟨hP, hD⟩
        refine va_last hx hb hK.1 hP hD hS 3 2 rfl rfl (vi bv_1017 (by decide)) dX10_write_64 (fun H locs hP hD hS => ?_)
        generalize hf_1021 : (vp_updL fob_numbers (v_1017 : Int32).toNatClampNeg v_1020) = f_1021 at hP hD
        obtain ⟨hP, hD⟩ : vPD G A H [(ce_X10 ob ob_thrown ob_world ob_images ob_hasImage ob_tape ob_taped ob_five ob_size ob_at ob_from ob_token ob_value ob_faultKind ob_faultPlace ob_fresh ob_parts ob_houses ob_houseMany ob_worthOf ob_byCall ob_over ob_bestSet ob_bestOver ob_bestWorth ob_row ob_tenDebts ob_tenMany ob_fewestBy ob_covered ob_queue ob_cameBy ob_parent ob_met ob_calls ob_callMany ob_calledOn ob_saved ob_many ob_width ob_numbers ob_moving), (ce_i4 y ob_many fob_many), (ce_i4 y ob_width fob_width), (ce_l240 y ob_numbers f_1021)] := ⟨hP, hD⟩
        refine lv_iconst (v := 0) hx hb dX10_write_65 (by decide) ?_
        exact W.iret (v := 0) hx hb hr (fun t ht hW => ⟨⟨0, _, rfl, Or.inr (Or.inr (⟨f_1021, h_1014, by have h90 : Int32.toInt 0 = 0 := (by decide); have h91 : Int32.toInt 2 = 2 := (by decide); omega, rfl, rfl⟩)), by rw [ht]; exact hP, hD⟩, hS.F ht⟩) hS.2.2 dX10_write_66
    · skip
      have nc_1006 := nb_eq (-1) (-1) c_1006 bv_1005 (bkc (x := (-1)) (c := -1) (by decide)) (by decide)
      refine lv_bipush (v := (-6)) hx hb dX10_write_20 (by decide) ?_
      exact W.iret (v := (-6)) hx hb hr (fun t ht hW => ⟨⟨(-6), _, rfl, Or.inl (⟨by have h90 : Int32.toInt (-6) = -6 := (by decide); have h91 : Int32.toInt 2 = 2 := (by decide); omega, rfl, rfl⟩), by rw [ht]; exact hP, hD⟩, hS.F ht⟩) hS.2.2 dX10_write_22

set_option maxHeartbeats 4000000 in
set_option maxRecDepth 100000 in
theorem frowM3 (l : Launch) (G : va_G) (y : Nat → ClassId) (sz : Nat) (ob : Nat) (a2 : Int32) (a3 : Int32) (ob_thrown : Int32) (ob_world : Nat) (ob_images : Nat) (ob_hasImage : Nat) (ob_tape : Nat) (ob_taped : Int32) (ob_five : Nat) (ob_size : Int32) (ob_at : Int32) (ob_from : Int32) (ob_token : Int32) (ob_value : Int32) (ob_faultKind : Int32) (ob_faultPlace : Int32) (ob_fresh : Nat) (ob_parts : Nat) (ob_houses : Nat) (ob_houseMany : Int32) (ob_worthOf : Nat) (ob_byCall : Nat) (ob_over : Nat) (ob_bestSet : Int32) (ob_bestOver : Int32) (ob_bestWorth : Int32) (ob_row : Nat) (ob_tenDebts : Nat) (ob_tenMany : Int32) (ob_fewestBy : Nat) (ob_covered : Nat) (ob_queue : Nat) (ob_cameBy : Nat) (ob_parent : Nat) (ob_met : Nat) (ob_calls : Nat) (ob_callMany : Int32) (ob_calledOn : Nat) (ob_saved : Nat) (ob_many : Nat) (ob_width : Nat) (ob_numbers : Nat) (ob_moving : Nat) (fob_many : Nat → Int32) (fob_width : Nat → Int32) (fob_numbers : Nat → Int64) (p_ob_taped : (0 : Int) ≤ ob_taped.toInt ∧ ob_taped.toInt ≤ 1400) (p_ob_size : (0 : Int) ≤ ob_size.toInt ∧ ob_size.toInt ≤ 1400) (p_ob_at : (0 : Int) ≤ ob_at.toInt ∧ ob_at.toInt ≤ 1400) (p_ob_from : (0 : Int) ≤ ob_from.toInt ∧ ob_from.toInt ≤ 1400) (p_ob_token : (0 : Int) ≤ ob_token.toInt ∧ ob_token.toInt ≤ 4) (p_ob_value : (0 : Int) ≤ ob_value.toInt ∧ ob_value.toInt ≤ 9999) (p_ob_faultKind : (0 : Int) ≤ ob_faultKind.toInt ∧ ob_faultKind.toInt ≤ 3) (p_ob_houseMany : (0 : Int) ≤ ob_houseMany.toInt ∧ ob_houseMany.toInt ≤ 10) (p_ob_bestSet : (0 : Int) ≤ ob_bestSet.toInt ∧ ob_bestSet.toInt ≤ 1023) (p_ob_bestOver : (-1 : Int) ≤ ob_bestOver.toInt ∧ ob_bestOver.toInt ≤ 180) (p_ob_tenMany : (0 : Int) ≤ ob_tenMany.toInt ∧ ob_tenMany.toInt ≤ 10) (p_ob_callMany : (0 : Int) ≤ ob_callMany.toInt ∧ ob_callMany.toInt ≤ 16) (p_fob_many : ∀ i, (-1 : Int) ≤ (fob_many i).toInt ∧ (fob_many i).toInt ≤ 60) (p_fob_width : ∀ i, (0 : Int) ≤ (fob_width i).toInt ∧ (fob_width i).toInt ≤ 3) : Met l yX10_row (Cond.code yX10_row cX10_row 5 (some .int) :: wAll) ({ frames := 2, cells := 0, slots := 0, locals := 45 }) (va_Pc [.ref ob, .int 3, .int a2, .int a3] (kp G y sz [(ce_X10 ob ob_thrown ob_world ob_images ob_hasImage ob_tape ob_taped ob_five ob_size ob_at ob_from ob_token ob_value ob_faultKind ob_faultPlace ob_fresh ob_parts ob_houses ob_houseMany ob_worthOf ob_byCall ob_over ob_bestSet ob_bestOver ob_bestWorth ob_row ob_tenDebts ob_tenMany ob_fewestBy ob_covered ob_queue ob_cameBy ob_parent ob_met ob_calls ob_callMany ob_calledOn ob_saved ob_many ob_width ob_numbers ob_moving), (ce_i4 y ob_many fob_many), (ce_i4 y ob_width fob_width), (ce_l240 y ob_numbers fob_numbers)])) (va_Qi (fun (r : Int32) (w : va_W) => ((a2.toInt < 0 ∨ 3 < a2.toInt ∨ 60 < a3.toInt) ∧ r = (-2) ∧ w = [(ce_X10 ob ob_thrown ob_world ob_images ob_hasImage ob_tape ob_taped ob_five ob_size ob_at ob_from ob_token ob_value ob_faultKind ob_faultPlace ob_fresh ob_parts ob_houses ob_houseMany ob_worthOf ob_byCall ob_over ob_bestSet ob_bestOver ob_bestWorth ob_row ob_tenDebts ob_tenMany ob_fewestBy ob_covered ob_queue ob_cameBy ob_parent ob_met ob_calls ob_callMany ob_calledOn ob_saved ob_many ob_width ob_numbers ob_moving), (ce_i4 y ob_many fob_many), (ce_i4 y ob_width fob_width), (ce_l240 y ob_numbers fob_numbers)]) ∨ (((0 : Int) ≤ a2.toInt ∧ a2.toInt ≤ 3) ∧ (0 ≤ a2.toInt ∧ a2.toInt ≤ 3 ∧ a3.toInt < 0) ∧ r = (-3) ∧ w = [(ce_X10 ob ob_thrown ob_world ob_images ob_hasImage ob_tape ob_taped ob_five ob_size ob_at ob_from ob_token ob_value ob_faultKind ob_faultPlace ob_fresh ob_parts ob_houses ob_houseMany ob_worthOf ob_byCall ob_over ob_bestSet ob_bestOver ob_bestWorth ob_row ob_tenDebts ob_tenMany ob_fewestBy ob_covered ob_queue ob_cameBy ob_parent ob_met ob_calls ob_callMany ob_calledOn ob_saved ob_many ob_width ob_numbers ob_moving), (ce_i4 y ob_many fob_many), (ce_i4 y ob_width fob_width), (ce_l240 y ob_numbers fob_numbers)]) ∨ (∃ (f_195 : Nat → Int32) (f_196 : Nat → Int32) (f_197 : Nat → Int64), (∀ i, (-1 : Int) ≤ (f_195 i).toInt ∧ (f_195 i).toInt ≤ 60) ∧ (∀ i, (0 : Int) ≤ (f_196 i).toInt ∧ (f_196 i).toInt ≤ 3) ∧ ((0 : Int) ≤ a2.toInt ∧ a2.toInt ≤ 3) ∧ ((0 : Int) ≤ a3.toInt ∧ a3.toInt ≤ 60) ∧ (0 ≤ a2.toInt ∧ a2.toInt ≤ 3 ∧ 0 ≤ a3.toInt ∧ a3.toInt ≤ 60) ∧ ((f_195 0).toInt = (fob_many 0).toInt) ∧ ((f_196 0).toInt = (fob_width 0).toInt) ∧ ((f_195 1).toInt = (fob_many 1).toInt) ∧ ((f_196 1).toInt = (fob_width 1).toInt) ∧ ((f_195 2).toInt = (fob_many 2).toInt) ∧ ((f_196 2).toInt = (fob_width 2).toInt) ∧ ((f_195 3).toInt = a3.toInt) ∧ ((f_196 3).toInt = a2.toInt) ∧ r = 0 ∧ w = [(ce_X10 ob ob_thrown ob_world ob_images ob_hasImage ob_tape ob_taped ob_five ob_size ob_at ob_from ob_token ob_value ob_faultKind ob_faultPlace ob_fresh ob_parts ob_houses ob_houseMany ob_worthOf ob_byCall ob_over ob_bestSet ob_bestOver ob_bestWorth ob_row ob_tenDebts ob_tenMany ob_fewestBy ob_covered ob_queue ob_cameBy ob_parent ob_met ob_calls ob_callMany ob_calledOn ob_saved ob_many ob_width ob_numbers ob_moving), (ce_i4 y ob_many f_195), (ce_i4 y ob_width f_196), (ce_l240 y ob_numbers f_197)])) (kq G (va_A [(ce_X10 ob ob_thrown ob_world ob_images ob_hasImage ob_tape ob_taped ob_five ob_size ob_at ob_from ob_token ob_value ob_faultKind ob_faultPlace ob_fresh ob_parts ob_houses ob_houseMany ob_worthOf ob_byCall ob_over ob_bestSet ob_bestOver ob_bestWorth ob_row ob_tenDebts ob_tenMany ob_fewestBy ob_covered ob_queue ob_cameBy ob_parent ob_met ob_calls ob_callMany ob_calledOn ob_saved ob_many ob_width ob_numbers ob_moving), (ce_i4 y ob_many fob_many), (ce_i4 y ob_width fob_width), (ce_l240 y ob_numbers fob_numbers)] sz)) (va_A [(ce_X10 ob ob_thrown ob_world ob_images ob_hasImage ob_tape ob_taped ob_five ob_size ob_at ob_from ob_token ob_value ob_faultKind ob_faultPlace ob_fresh ob_parts ob_houses ob_houseMany ob_worthOf ob_byCall ob_over ob_bestSet ob_bestOver ob_bestWorth ob_row ob_tenDebts ob_tenMany ob_fewestBy ob_covered ob_queue ob_cameBy ob_parent ob_met ob_calls ob_callMany ob_calledOn ob_saved ob_many ob_width ob_numbers ob_moving), (ce_i4 y ob_many fob_many), (ce_i4 y ob_width fob_width), (ce_l240 y ob_numbers fob_numbers)] sz)) 0 0 (va_A [(ce_X10 ob ob_thrown ob_world ob_images ob_hasImage ob_tape ob_taped ob_five ob_size ob_at ob_from ob_token ob_value ob_faultKind ob_faultPlace ob_fresh ob_parts ob_houses ob_houseMany ob_worthOf ob_byCall ob_over ob_bestSet ob_bestOver ob_bestWorth ob_row ob_tenDebts ob_tenMany ob_fewestBy ob_covered ob_queue ob_cameBy ob_parent ob_met ob_calls ob_callMany ob_calledOn ob_saved ob_many ob_width ob_numbers ob_moving), (ce_i4 y ob_many fob_many), (ce_i4 y ob_width fob_width), (ce_l240 y ob_numbers fob_numbers)] sz) := by
  refine Met.ofW (cc := cX10_row) (maxL := 5) (ret := (some .int)) (by decide) rfl ?_
  intro p e s m args below meth c s₁ B hml hv
  obtain ⟨rfl, hsz, hP, hK, hD0⟩ := hv
  have hx := B.exec
  have hb := B.bytes
  have hr := B.returns
  have hw0 : ∀ w ∈ wAll, w.before _ s = true := fun w h => atoms_spec (ws := Cond.code yX10_row cX10_row 5 (some .int) :: wAll) B.pre w (List.mem_cons_of_mem _ h)
  have hown : s.vm.findClass RX10 = some m.cls := findClass_of_methodNamed B.named
  subst hsz
  have hD := hD0.self (sz := s.heap.size)
  generalize hAe : va_A [(ce_X10 ob ob_thrown ob_world ob_images ob_hasImage ob_tape ob_taped ob_five ob_size ob_at ob_from ob_token ob_value ob_faultKind ob_faultPlace ob_fresh ob_parts ob_houses ob_houseMany ob_worthOf ob_byCall ob_over ob_bestSet ob_bestOver ob_bestWorth ob_row ob_tenDebts ob_tenMany ob_fewestBy ob_covered ob_queue ob_cameBy ob_parent ob_met ob_calls ob_callMany ob_calledOn ob_saved ob_many ob_width ob_numbers ob_moving), (ce_i4 y ob_many fob_many), (ce_i4 y ob_width fob_width), (ce_l240 y ob_numbers fob_numbers)] s.heap.size = A at hD ⊢
  have hA : ∀ q : Nat, s.heap.size ≤ q → A q := fun q h => by rw [← hAe]; exact Or.inr h
  have hS : va_S A s.heap s.heap [] := va_S.rf
  have hP : va_P G vwCl [(ce_X10 ob ob_thrown ob_world ob_images ob_hasImage ob_tape ob_taped ob_five ob_size ob_at ob_from ob_token ob_value ob_faultKind ob_faultPlace ob_fresh ob_parts ob_houses ob_houseMany ob_worthOf ob_byCall ob_over ob_bestSet ob_bestOver ob_bestWorth ob_row ob_tenDebts ob_tenMany ob_fewestBy ob_covered ob_queue ob_cameBy ob_parent ob_met ob_calls ob_callMany ob_calledOn ob_saved ob_many ob_width ob_numbers ob_moving), (ce_i4 y ob_many fob_many), (ce_i4 y ob_width fob_width), (ce_l240 y ob_numbers fob_numbers)] s.heap := hP
  have hl := lv_entry ([.ref ob, .int 3, .int a2, .int a3]) (n := 5) (Nat.le_of_ble_eq_true rfl)
  rw [lg_entry_eq]
  generalize (lg_sl ([.ref ob, .int 3, .int a2, .int a3]) ++ List.replicate (5 - (lg_sl ([.ref ob, .int 3, .int a2, .int a3])).length) Slot.unset).toArray = ls at hl ⊢
  have hl : lv_has ls 5 [(0, .ref ob), (1, .int 3), (2, .int a2), (3, .int a3)] := hl
  refine lv_iload_n hx hb dX10_row_0 rfl (lv_at hl 1 rfl) ?_
  refine cSim (As := [.int 3]) (rest := []) ⟨hx, hb, hml, hown, hw0⟩ hA hK hP hD hS [] (fisSlotM l G y _ 3 ) rfl ⟨(callB_of 1 hw0 (gA m_543) rfl rfl rfl (hw0 _ m_41) (hw0 _ m_433) cb_X10_isSlot ⟨Nat.le_of_ble_eq_true rfl, Nat.le_of_ble_eq_true rfl⟩), (hw0 _ m_434)⟩ rfl hl.1 (Nat.le_of_ble_eq_true rfl) dX10_row_1 ⟨Nat.le_of_ble_eq_true rfl, Nat.le_of_ble_eq_true rfl⟩ (fun r_1001 w_1001 H locs hw_1001 hP hD hS => ?_)
  rcases hw_1001 with ⟨h_1002, rfl, rfl⟩ | ⟨h_1003, h_1004, rfl, rfl⟩
  · skip
    exact False.elim (by have h9 : Int32.toInt 3 = 3 := (by decide); omega)
  · skip
    obtain ⟨hP, hD⟩ : vPD G A H [(ce_X10 ob ob_thrown ob_world ob_images ob_hasImage ob_tape ob_taped ob_five ob_size ob_at ob_from ob_token ob_value ob_faultKind ob_faultPlace ob_fresh ob_parts ob_houses ob_houseMany ob_worthOf ob_byCall ob_over ob_bestSet ob_bestOver ob_bestWorth ob_row ob_tenDebts ob_tenMany ob_fewestBy ob_covered ob_queue ob_cameBy ob_parent ob_met ob_calls ob_callMany ob_calledOn ob_saved ob_many ob_width ob_numbers ob_moving), (ce_i4 y ob_many fob_many), (ce_i4 y ob_width fob_width), (ce_l240 y ob_numbers fob_numbers)] := ⟨hP, hD⟩
    refine lv_if_eq (tgt := 25) hx hb dX10_row_4 (by decide) (fun c9 => absurd c9 (by decide)) (fun _ => ?_)
    refine lv_iload_n hx hb dX10_row_7 rfl (lv_at hl 2 rfl) ?_
    refine lv_i2l hx hb dX10_row_8 rfl ?_
    refine lv_lconst (v := 0) hx hb dX10_row_9 (by decide) ?_
    refine lv_ldc2 (own := RX10) (v := 3) hx hb hown (hw0 _ m_398) dX10_row_10 ?_
    refine cSim (As := [.long (a2).toInt64, .long 0, .long 3]) (rest := []) ⟨hx, hb, hml, hown, hw0⟩ hA hK hP hD hS [] (sX10_in l G y _ ((a2).toInt64) 0 3 ) rfl ⟨(callB_of 3 hw0 (gA m_516) rfl rfl rfl (hw0 _ m_41) (hw0 _ m_345) cb_X10_in ⟨Nat.le_of_ble_eq_true rfl, Nat.le_of_ble_eq_true rfl⟩), (hw0 _ m_346)⟩ rfl hl.1 (Nat.le_of_ble_eq_true rfl) dX10_row_13 ⟨Nat.le_of_ble_eq_true rfl, Nat.le_of_ble_eq_true rfl⟩ (fun r_1005 w_1005 H locs hw_1005 hP hD hS => ?_)
    rcases hw_1005 with ⟨h_1006, rfl, rfl⟩ | ⟨h_1007, rfl, rfl⟩
    · skip
      have h_1008 : a2.toInt < (0 : Int) ∨ (3 : Int) < a2.toInt := in_n h_1006 (Int32.toInt_toInt64 _) (by decide) (by decide)
      obtain ⟨hP, hD⟩ : vPD G A H [(ce_X10 ob ob_thrown ob_world ob_images ob_hasImage ob_tape ob_taped ob_five ob_size ob_at ob_from ob_token ob_value ob_faultKind ob_faultPlace ob_fresh ob_parts ob_houses ob_houseMany ob_worthOf ob_byCall ob_over ob_bestSet ob_bestOver ob_bestWorth ob_row ob_tenDebts ob_tenMany ob_fewestBy ob_covered ob_queue ob_cameBy ob_parent ob_met ob_calls ob_callMany ob_calledOn ob_saved ob_many ob_width ob_numbers ob_moving), (ce_i4 y ob_many fob_many), (ce_i4 y ob_width fob_width), (ce_l240 y ob_numbers fob_numbers)] := ⟨hP, hD⟩
      refine lv_if_eq (tgt := 25) hx hb dX10_row_16 (by decide) (fun _ => ?_) (fun c9 => absurd (by decide) c9)
      refine lv_bipush (v := (-2)) hx hb dX10_row_25 (by decide) ?_
      exact W.iret (v := (-2)) hx hb hr (fun t ht hW => ⟨⟨(-2), _, rfl, Or.inl (⟨by have h90 : Int32.toInt (-2) = -2 := (by decide); have h91 : Int32.toInt 3 = 3 := (by decide); omega, rfl, rfl⟩), by rw [ht]; exact hP, hD⟩, hS.F ht⟩) hS.2.2 dX10_row_27
    · skip
      have h_1009 : (0 : Int) ≤ a2.toInt ∧ a2.toInt ≤ (3 : Int) := in_y h_1007 (Int32.toInt_toInt64 _) (by decide) (by decide)
      have h_1010_0 := (btop a2)
      have h_1010_1 := True.intro
      have h_1010_2 := True.intro
      have h_1010 : (0 : Int) ≤ a2.toInt ∧ a2.toInt ≤ 3 := by omega
      obtain ⟨hP, hD⟩ : vPD G A H [(ce_X10 ob ob_thrown ob_world ob_images ob_hasImage ob_tape ob_taped ob_five ob_size ob_at ob_from ob_token ob_value ob_faultKind ob_faultPlace ob_fresh ob_parts ob_houses ob_houseMany ob_worthOf ob_byCall ob_over ob_bestSet ob_bestOver ob_bestWorth ob_row ob_tenDebts ob_tenMany ob_fewestBy ob_covered ob_queue ob_cameBy ob_parent ob_met ob_calls ob_callMany ob_calledOn ob_saved ob_many ob_width ob_numbers ob_moving), (ce_i4 y ob_many fob_many), (ce_i4 y ob_width fob_width), (ce_l240 y ob_numbers fob_numbers)] := ⟨hP, hD⟩
      refine lv_if_eq (tgt := 25) hx hb dX10_row_16 (by decide) (fun c9 => absurd c9 (by decide)) (fun _ => ?_)
      refine lv_iload_n hx hb dX10_row_19 rfl (lv_at hl 3 rfl) ?_
      refine lv_bipush (v := 60) hx hb dX10_row_20 (by decide) ?_
      refine lv_icmp_le (tgt := 28) hx hb dX10_row_22 (by decide) (fun c_1011 => ?_) (fun c_1011 => ?_)
      · skip
        have nc_1011 := nb_le (60) (60) c_1011 (btop a3) (bkc (x := 60) (c := 60) (by decide)) (by decide)
        refine lv_iload_n hx hb dX10_row_28 rfl (lv_at hl 3 rfl) ?_
        refine lv_if_ge (tgt := 35) hx hb dX10_row_29 (by decide) (fun c_1012 => ?_) (fun c_1012 => ?_)
        · skip
          have nc_1012 := nb_le (0) (0) c_1012 (bkc (x := 0) (c := 0) (by decide)) nc_1011.1 (by decide)
          refine lv_aload_n hx hb dX10_row_35 rfl (lv_at hl 0 rfl) ?_
          refine va_get (D := G) (ci := 10) (v := .ref ob_many) (C := RX10) (T := TX10) (N := 41) hx hb hw0 inA_wsX100 hown hK.1 hP 0 rfl rfl 37 (by decide) (hw0 _ m_406) (fun _ h9 => h9) rfl dX10_row_36 ?_
          refine lv_iload_n hx hb dX10_row_39 rfl (lv_at hl 1 rfl) ?_
          refine lv_iload_n hx hb dX10_row_40 rfl (lv_at hl 3 rfl) ?_
          refine va_iast hx hb hK.1 hP hD hS 1 1 rfl rfl (vi (bkc (x := 3) (c := 3) (by decide)) (by decide)) dX10_row_41 (fun H locs hP hD hS => ?_)
          generalize hf_1013 : (upd fob_many (3 : Int32).toNatClampNeg a3) = f_1013 at hP hD
          have bf_1013 : ∀ i, (-1 : Int) ≤ (f_1013 i).toInt ∧ (f_1013 i).toInt ≤ 60 := hf_1013 ▸ up_b p_fob_many (bw (-1) (60) nc_1012.2.1 (by decide))
          have zf_1013_0 : (f_1013 0).toInt = (fob_many 0).toInt := hf_1013 ▸ pin_ne (ix_not (bkc (x := 3) (c := 3) (by decide)) (by decide))
          have zf_1013_1 : (f_1013 1).toInt = (fob_many 1).toInt := hf_1013 ▸ pin_ne (ix_not (bkc (x := 3) (c := 3) (by decide)) (by decide))
          have zf_1013_2 : (f_1013 2).toInt = (fob_many 2).toInt := hf_1013 ▸ pin_ne (ix_not (bkc (x := 3) (c := 3) (by decide)) (by decide))
          have zf_1013_3 : (f_1013 3).toInt = (a3 : Int32).toInt := hf_1013 ▸ pin_eq (by decide)
          obtain ⟨hP, hD⟩ : vPD G A H [(ce_X10 ob ob_thrown ob_world ob_images ob_hasImage ob_tape ob_taped ob_five ob_size ob_at ob_from ob_token ob_value ob_faultKind ob_faultPlace ob_fresh ob_parts ob_houses ob_houseMany ob_worthOf ob_byCall ob_over ob_bestSet ob_bestOver ob_bestWorth ob_row ob_tenDebts ob_tenMany ob_fewestBy ob_covered ob_queue ob_cameBy ob_parent ob_met ob_calls ob_callMany ob_calledOn ob_saved ob_many ob_width ob_numbers ob_moving), (ce_i4 y ob_many f_1013), (ce_i4 y ob_width fob_width), (ce_l240 y ob_numbers fob_numbers)] := ⟨hP, hD⟩
          refine lv_aload_n hx hb dX10_row_42 rfl (lv_at hl 0 rfl) ?_
          refine va_get (D := G) (ci := 10) (v := .ref ob_width) (C := RX10) (T := TX10) (N := 41) hx hb hw0 inA_wsX100 hown hK.1 hP 0 rfl rfl 38 (by decide) (hw0 _ m_527) (fun _ h9 => h9) rfl dX10_row_43 ?_
          refine lv_iload_n hx hb dX10_row_46 rfl (lv_at hl 1 rfl) ?_
          refine lv_iload_n hx hb dX10_row_47 rfl (lv_at hl 2 rfl) ?_
          refine va_iast hx hb hK.1 hP hD hS 2 1 rfl rfl (vi (bkc (x := 3) (c := 3) (by decide)) (by decide)) dX10_row_48 (fun H locs hP hD hS => ?_)
          generalize hf_1014 : (upd fob_width (3 : Int32).toNatClampNeg a2) = f_1014 at hP hD
          have bf_1014 : ∀ i, (0 : Int) ≤ (f_1014 i).toInt ∧ (f_1014 i).toInt ≤ 3 := hf_1014 ▸ up_b p_fob_width h_1010
          have zf_1014_0 : (f_1014 0).toInt = (fob_width 0).toInt := hf_1014 ▸ pin_ne (ix_not (bkc (x := 3) (c := 3) (by decide)) (by decide))
          have zf_1014_1 : (f_1014 1).toInt = (fob_width 1).toInt := hf_1014 ▸ pin_ne (ix_not (bkc (x := 3) (c := 3) (by decide)) (by decide))
          have zf_1014_2 : (f_1014 2).toInt = (fob_width 2).toInt := hf_1014 ▸ pin_ne (ix_not (bkc (x := 3) (c := 3) (by decide)) (by decide))
          have zf_1014_3 : (f_1014 3).toInt = (a2 : Int32).toInt := hf_1014 ▸ pin_eq (by decide)
          obtain ⟨hP, hD⟩ : vPD G A H [(ce_X10 ob ob_thrown ob_world ob_images ob_hasImage ob_tape ob_taped ob_five ob_size ob_at ob_from ob_token ob_value ob_faultKind ob_faultPlace ob_fresh ob_parts ob_houses ob_houseMany ob_worthOf ob_byCall ob_over ob_bestSet ob_bestOver ob_bestWorth ob_row ob_tenDebts ob_tenMany ob_fewestBy ob_covered ob_queue ob_cameBy ob_parent ob_met ob_calls ob_callMany ob_calledOn ob_saved ob_many ob_width ob_numbers ob_moving), (ce_i4 y ob_many f_1013), (ce_i4 y ob_width f_1014), (ce_l240 y ob_numbers fob_numbers)] := ⟨hP, hD⟩
          refine lv_iconst (v := 0) hx hb dX10_row_49 (by decide) ?_
          refine lv_istore (lv' := [(4, .int 0), (0, .ref ob), (1, .int 3), (2, .int a2), (3, .int a3)]) hx hb dX10_row_50 hl (by decide) rfl (fun ls hl => ?_)
          refine loopX (fun n H locs ls st => ∃ (v_1086 : Int32) (f_1087 : Nat → Int64), (60 - v_1086.toInt).toNat = n ∧ ((0 : Int) ≤ v_1086.toInt ∧ v_1086.toInt ≤ 60) ∧ st = [] ∧ vPD G A H [(ce_X10 ob ob_thrown ob_world ob_images ob_hasImage ob_tape ob_taped ob_five ob_size ob_at ob_from ob_token ob_value ob_faultKind ob_faultPlace ob_fresh ob_parts ob_houses ob_houseMany ob_worthOf ob_byCall ob_over ob_bestSet ob_bestOver ob_bestWorth ob_row ob_tenDebts ob_tenMany ob_fewestBy ob_covered ob_queue ob_cameBy ob_parent ob_met ob_calls ob_callMany ob_calledOn ob_saved ob_many ob_width ob_numbers ob_moving), (ce_i4 y ob_many f_1013), (ce_i4 y ob_width f_1014), (ce_l240 y ob_numbers f_1087)] ∧ va_S A s.heap H locs ∧ lv_has ls 5 [(4, .int v_1086), (0, .ref ob), (1, .int 3)]) ?_ (n := (60 - (0 : Int32).toInt).toNat) ⟨0, fob_numbers, rfl, (bw (0) (60) (bkc (x := 0) (c := 0) (by decide)) (by decide)), rfl, ⟨hP, hD⟩, hS, lv_sub hl [0, 1, 2] rfl⟩
          rintro n ih_1092 H locs ls st ⟨v_1086, f_1087, hn_1092, bv_1086, rfl, ⟨hP, hD⟩, hS, hl⟩
          refine lv_iload hx hb dX10_row_52 (lv_at hl 0 rfl) ?_
          refine lv_bipush (v := 60) hx hb dX10_row_54 (by decide) ?_
          refine lv_icmp_ge (tgt := 78) hx hb dX10_row_56 (by decide) (fun c_1093 => ?_) (fun c_1093 => ?_)
          · skip
            have nc_1093 := nb_le (60) (60) c_1093 (bkc (x := 60) (c := 60) (by decide)) bv_1086 (by decide)
            refine lv_iconst (v := 0) hx hb dX10_row_78 (by decide) ?_
            exact W.iret (v := 0) hx hb hr (fun t ht hW => ⟨⟨0, _, rfl, Or.inr (Or.inr (⟨f_1013, f_1014, f_1087, bf_1013, bf_1014, h_1010, nc_1012.2.1, by have h90 : Int32.toInt 0 = 0 := (by decide); have h91 : Int32.toInt 3 = 3 := (by decide); omega, by have h90 : Int32.toInt 0 = 0 := (by decide); have h91 : Int32.toInt 3 = 3 := (by decide); omega, by have h90 : Int32.toInt 0 = 0 := (by decide); have h91 : Int32.toInt 3 = 3 := (by decide); omega, by have h90 : Int32.toInt 0 = 0 := (by decide); have h91 : Int32.toInt 3 = 3 := (by decide); omega, by have h90 : Int32.toInt 0 = 0 := (by decide); have h91 : Int32.toInt 3 = 3 := (by decide); omega, by have h90 : Int32.toInt 0 = 0 := (by decide); have h91 : Int32.toInt 3 = 3 := (by decide); omega, by have h90 : Int32.toInt 0 = 0 := (by decide); have h91 : Int32.toInt 3 = 3 := (by decide); omega, by have h90 : Int32.toInt 0 = 0 := (by decide); have h91 : Int32.toInt 3 = 3 := (by decide); omega, by have h90 : Int32.toInt 0 = 0 := (by decide); have h91 : Int32.toInt 3 = 3 := (by decide); omega, rfl, rfl⟩)), by rw [ht]; exact hP, hD⟩, hS.F ht⟩) hS.2.2 dX10_row_79
          · skip
            have nc_1093 := nb_nle (59) (60) c_1093 bv_1086 (bkc (x := 60) (c := 60) (by decide)) (by decide)
            refine lv_aload_n hx hb dX10_row_59 rfl (lv_at hl 1 rfl) ?_
            refine va_get (D := G) (ci := 10) (v := .ref ob_numbers) (C := RX10) (T := TX10) (N := 41) hx hb hw0 inA_wsX100 hown hK.1 hP 0 rfl rfl 39 (by decide) (hw0 _ m_435) (fun _ h9 => h9) rfl dX10_row_60 ?_
            refine lv_bipush (v := 60) hx hb dX10_row_63 (by decide) ?_
            refine lv_iload_n hx hb dX10_row_65 rfl (lv_at hl 2 rfl) ?_
            refine lv_imul hx hb dX10_row_66 ?_
            refine lv_topi (fun v_1094 ev_1094 => ?_)
            obtain rfl : 180 = v_1094 := (ev_1094.trans (by decide)).symm
            refine lv_iload hx hb dX10_row_67 (lv_at hl 0 rfl) ?_
            refine lv_iadd hx hb dX10_row_69 ?_
            refine lv_topi (fun v_1095 ev_1095 => ?_)
            have qv_1095 := ba_add ev_1095 (bkc (x := 180) (c := 180) (by decide)) nc_1093.1 (by decide)
            have bv_1095 : (180 : Int) ≤ v_1095.toInt ∧ v_1095.toInt ≤ 239 := bq_add qv_1095 (bkc (x := 180) (c := 180) (by decide)) nc_1093.1 _ _ (by decide)
            have qv_1095 : v_1095.toInt = (180) + v_1086.toInt := qv_1095
            refine lv_lconst (v := 0) hx hb dX10_row_70 (by decide) ?_
            refine va_last hx hb hK.1 hP hD hS 3 2 rfl rfl (vi bv_1095 (by decide)) dX10_row_71 (fun H locs hP hD hS => ?_)
            generalize hf_1096 : (vp_updL f_1087 (v_1095 : Int32).toNatClampNeg 0) = f_1096 at hP hD
            obtain ⟨hP, hD⟩ : vPD G A H [(ce_X10 ob ob_thrown ob_world ob_images ob_hasImage ob_tape ob_taped ob_five ob_size ob_at ob_from ob_token ob_value ob_faultKind ob_faultPlace ob_fresh ob_parts ob_houses ob_houseMany ob_worthOf ob_byCall ob_over ob_bestSet ob_bestOver ob_bestWorth ob_row ob_tenDebts ob_tenMany ob_fewestBy ob_covered ob_queue ob_cameBy ob_parent ob_met ob_calls ob_callMany ob_calledOn ob_saved ob_many ob_width ob_numbers ob_moving), (ce_i4 y ob_many f_1013), (ce_i4 y ob_width f_1014), (ce_l240 y ob_numbers f_1096)] := ⟨hP, hD⟩
            obtain ⟨v_1097, ev_1097⟩ : ∃ z : Int32, z = v_1086 + 1 := ⟨_, rfl⟩
            have qv_1097 := ba_add ev_1097 nc_1093.1 (bkc (x := 1) (c := 1) (by decide)) (by decide)
            have bv_1097 : (1 : Int) ≤ v_1097.toInt ∧ v_1097.toInt ≤ 60 := bq_add qv_1097 nc_1093.1 (bkc (x := 1) (c := 1) (by decide)) _ _ (by decide)
            have qv_1097 : v_1097.toInt = v_1086.toInt + (1) := qv_1097
            refine lv_iinc (v := v_1097) (lv' := [(4, .int v_1097), (0, .ref ob), (1, .int 3)]) hx hb dX10_row_72 hl (k := 0) rfl (ev_1097.symm) (by decide) rfl (fun ls hl => ?_)
            refine lv_goto (tgt := 52) hx hb dX10_row_75 (by decide) ?_
            exact ih_1092 _ (ml_inc (hi := 60) hn_1092 qv_1097 (by decide) ((bw (0) (60) bv_1097 (by decide))).2) _ _ _ _ ⟨v_1097, f_1096, rfl, (bw (0) (60) bv_1097 (by decide)), rfl, ⟨hP, hD⟩, hS, lv_sub hl [0, 1, 2] rfl⟩
        · skip
          have nc_1012 := nb_nle (-1) (0) c_1012 nc_1011.1 (bkc (x := 0) (c := 0) (by decide)) (by decide)
          refine lv_bipush (v := (-3)) hx hb dX10_row_32 (by decide) ?_
          exact W.iret (v := (-3)) hx hb hr (fun t ht hW => ⟨⟨(-3), _, rfl, Or.inr (Or.inl (⟨h_1010, by have h90 : Int32.toInt (-3) = -3 := (by decide); have h91 : Int32.toInt 3 = 3 := (by decide); omega, rfl, rfl⟩)), by rw [ht]; exact hP, hD⟩, hS.F ht⟩) hS.2.2 dX10_row_34
      · skip
        have nc_1011 := nb_nle (60) (61) c_1011 (bkc (x := 60) (c := 60) (by decide)) (btop a3) (by decide)
        refine lv_bipush (v := (-2)) hx hb dX10_row_25 (by decide) ?_
        exact W.iret (v := (-2)) hx hb hr (fun t ht hW => ⟨⟨(-2), _, rfl, Or.inl (⟨by have h90 : Int32.toInt (-2) = -2 := (by decide); have h91 : Int32.toInt 3 = 3 := (by decide); omega, rfl, rfl⟩), by rw [ht]; exact hP, hD⟩, hS.F ht⟩) hS.2.2 dX10_row_27

set_option maxHeartbeats 4000000 in
set_option maxRecDepth 100000 in
theorem fwriteM3 (l : Launch) (G : va_G) (y : Nat → ClassId) (sz : Nat) (ob : Nat) (a2 : Int32) (a3 : Int64) (ob_thrown : Int32) (ob_world : Nat) (ob_images : Nat) (ob_hasImage : Nat) (ob_tape : Nat) (ob_taped : Int32) (ob_five : Nat) (ob_size : Int32) (ob_at : Int32) (ob_from : Int32) (ob_token : Int32) (ob_value : Int32) (ob_faultKind : Int32) (ob_faultPlace : Int32) (ob_fresh : Nat) (ob_parts : Nat) (ob_houses : Nat) (ob_houseMany : Int32) (ob_worthOf : Nat) (ob_byCall : Nat) (ob_over : Nat) (ob_bestSet : Int32) (ob_bestOver : Int32) (ob_bestWorth : Int32) (ob_row : Nat) (ob_tenDebts : Nat) (ob_tenMany : Int32) (ob_fewestBy : Nat) (ob_covered : Nat) (ob_queue : Nat) (ob_cameBy : Nat) (ob_parent : Nat) (ob_met : Nat) (ob_calls : Nat) (ob_callMany : Int32) (ob_calledOn : Nat) (ob_saved : Nat) (ob_many : Nat) (ob_width : Nat) (ob_numbers : Nat) (ob_moving : Nat) (fob_many : Nat → Int32) (fob_width : Nat → Int32) (fob_numbers : Nat → Int64) (p_ob_taped : (0 : Int) ≤ ob_taped.toInt ∧ ob_taped.toInt ≤ 1400) (p_ob_size : (0 : Int) ≤ ob_size.toInt ∧ ob_size.toInt ≤ 1400) (p_ob_at : (0 : Int) ≤ ob_at.toInt ∧ ob_at.toInt ≤ 1400) (p_ob_from : (0 : Int) ≤ ob_from.toInt ∧ ob_from.toInt ≤ 1400) (p_ob_token : (0 : Int) ≤ ob_token.toInt ∧ ob_token.toInt ≤ 4) (p_ob_value : (0 : Int) ≤ ob_value.toInt ∧ ob_value.toInt ≤ 9999) (p_ob_faultKind : (0 : Int) ≤ ob_faultKind.toInt ∧ ob_faultKind.toInt ≤ 3) (p_ob_houseMany : (0 : Int) ≤ ob_houseMany.toInt ∧ ob_houseMany.toInt ≤ 10) (p_ob_bestSet : (0 : Int) ≤ ob_bestSet.toInt ∧ ob_bestSet.toInt ≤ 1023) (p_ob_bestOver : (-1 : Int) ≤ ob_bestOver.toInt ∧ ob_bestOver.toInt ≤ 180) (p_ob_tenMany : (0 : Int) ≤ ob_tenMany.toInt ∧ ob_tenMany.toInt ≤ 10) (p_ob_callMany : (0 : Int) ≤ ob_callMany.toInt ∧ ob_callMany.toInt ≤ 16) (p_fob_many : ∀ i, (-1 : Int) ≤ (fob_many i).toInt ∧ (fob_many i).toInt ≤ 60) (p_fob_width : ∀ i, (0 : Int) ≤ (fob_width i).toInt ∧ (fob_width i).toInt ≤ 3) : Met l yX10_write (Cond.code yX10_write cX10_write 5 (some .int) :: wAll) ({ frames := 2, cells := 0, slots := 0, locals := 45 }) (va_Pc [.ref ob, .int 3, .int a2, .long a3] (kp G y sz [(ce_X10 ob ob_thrown ob_world ob_images ob_hasImage ob_tape ob_taped ob_five ob_size ob_at ob_from ob_token ob_value ob_faultKind ob_faultPlace ob_fresh ob_parts ob_houses ob_houseMany ob_worthOf ob_byCall ob_over ob_bestSet ob_bestOver ob_bestWorth ob_row ob_tenDebts ob_tenMany ob_fewestBy ob_covered ob_queue ob_cameBy ob_parent ob_met ob_calls ob_callMany ob_calledOn ob_saved ob_many ob_width ob_numbers ob_moving), (ce_i4 y ob_many fob_many), (ce_i4 y ob_width fob_width), (ce_l240 y ob_numbers fob_numbers)])) (va_Qi (fun (r : Int32) (w : va_W) => (((fob_many 3).toInt = -1) ∧ r = (-6) ∧ w = [(ce_X10 ob ob_thrown ob_world ob_images ob_hasImage ob_tape ob_taped ob_five ob_size ob_at ob_from ob_token ob_value ob_faultKind ob_faultPlace ob_fresh ob_parts ob_houses ob_houseMany ob_worthOf ob_byCall ob_over ob_bestSet ob_bestOver ob_bestWorth ob_row ob_tenDebts ob_tenMany ob_fewestBy ob_covered ob_queue ob_cameBy ob_parent ob_met ob_calls ob_callMany ob_calledOn ob_saved ob_many ob_width ob_numbers ob_moving), (ce_i4 y ob_many fob_many), (ce_i4 y ob_width fob_width), (ce_l240 y ob_numbers fob_numbers)]) ∨ ((¬ (fob_many 3).toInt = -1 ∧ (a2.toInt < 0 ∨ (fob_many 3).toInt ≤ a2.toInt)) ∧ r = (-7) ∧ w = [(ce_X10 ob ob_thrown ob_world ob_images ob_hasImage ob_tape ob_taped ob_five ob_size ob_at ob_from ob_token ob_value ob_faultKind ob_faultPlace ob_fresh ob_parts ob_houses ob_houseMany ob_worthOf ob_byCall ob_over ob_bestSet ob_bestOver ob_bestWorth ob_row ob_tenDebts ob_tenMany ob_fewestBy ob_covered ob_queue ob_cameBy ob_parent ob_met ob_calls ob_callMany ob_calledOn ob_saved ob_many ob_width ob_numbers ob_moving), (ce_i4 y ob_many fob_many), (ce_i4 y ob_width fob_width), (ce_l240 y ob_numbers fob_numbers)]) ∨ (∃ (f_43 : Nat → Int64), ((0 : Int) ≤ a2.toInt ∧ a2.toInt ≤ 59) ∧ (¬ (fob_many 3).toInt = -1 ∧ 0 ≤ a2.toInt ∧ a2.toInt < (fob_many 3).toInt) ∧ r = 0 ∧ w = [(ce_X10 ob ob_thrown ob_world ob_images ob_hasImage ob_tape ob_taped ob_five ob_size ob_at ob_from ob_token ob_value ob_faultKind ob_faultPlace ob_fresh ob_parts ob_houses ob_houseMany ob_worthOf ob_byCall ob_over ob_bestSet ob_bestOver ob_bestWorth ob_row ob_tenDebts ob_tenMany ob_fewestBy ob_covered ob_queue ob_cameBy ob_parent ob_met ob_calls ob_callMany ob_calledOn ob_saved ob_many ob_width ob_numbers ob_moving), (ce_i4 y ob_many fob_many), (ce_i4 y ob_width fob_width), (ce_l240 y ob_numbers f_43)])) (kq G (va_A [(ce_X10 ob ob_thrown ob_world ob_images ob_hasImage ob_tape ob_taped ob_five ob_size ob_at ob_from ob_token ob_value ob_faultKind ob_faultPlace ob_fresh ob_parts ob_houses ob_houseMany ob_worthOf ob_byCall ob_over ob_bestSet ob_bestOver ob_bestWorth ob_row ob_tenDebts ob_tenMany ob_fewestBy ob_covered ob_queue ob_cameBy ob_parent ob_met ob_calls ob_callMany ob_calledOn ob_saved ob_many ob_width ob_numbers ob_moving), (ce_i4 y ob_many fob_many), (ce_i4 y ob_width fob_width), (ce_l240 y ob_numbers fob_numbers)] sz)) (va_A [(ce_X10 ob ob_thrown ob_world ob_images ob_hasImage ob_tape ob_taped ob_five ob_size ob_at ob_from ob_token ob_value ob_faultKind ob_faultPlace ob_fresh ob_parts ob_houses ob_houseMany ob_worthOf ob_byCall ob_over ob_bestSet ob_bestOver ob_bestWorth ob_row ob_tenDebts ob_tenMany ob_fewestBy ob_covered ob_queue ob_cameBy ob_parent ob_met ob_calls ob_callMany ob_calledOn ob_saved ob_many ob_width ob_numbers ob_moving), (ce_i4 y ob_many fob_many), (ce_i4 y ob_width fob_width), (ce_l240 y ob_numbers fob_numbers)] sz)) 0 0 (va_A [(ce_X10 ob ob_thrown ob_world ob_images ob_hasImage ob_tape ob_taped ob_five ob_size ob_at ob_from ob_token ob_value ob_faultKind ob_faultPlace ob_fresh ob_parts ob_houses ob_houseMany ob_worthOf ob_byCall ob_over ob_bestSet ob_bestOver ob_bestWorth ob_row ob_tenDebts ob_tenMany ob_fewestBy ob_covered ob_queue ob_cameBy ob_parent ob_met ob_calls ob_callMany ob_calledOn ob_saved ob_many ob_width ob_numbers ob_moving), (ce_i4 y ob_many fob_many), (ce_i4 y ob_width fob_width), (ce_l240 y ob_numbers fob_numbers)] sz) := by
  refine Met.ofW (cc := cX10_write) (maxL := 5) (ret := (some .int)) (by decide) rfl ?_
  intro p e s m args below meth c s₁ B hml hv
  obtain ⟨rfl, hsz, hP, hK, hD0⟩ := hv
  have hx := B.exec
  have hb := B.bytes
  have hr := B.returns
  have hw0 : ∀ w ∈ wAll, w.before _ s = true := fun w h => atoms_spec (ws := Cond.code yX10_write cX10_write 5 (some .int) :: wAll) B.pre w (List.mem_cons_of_mem _ h)
  have hown : s.vm.findClass RX10 = some m.cls := findClass_of_methodNamed B.named
  subst hsz
  have hD := hD0.self (sz := s.heap.size)
  generalize hAe : va_A [(ce_X10 ob ob_thrown ob_world ob_images ob_hasImage ob_tape ob_taped ob_five ob_size ob_at ob_from ob_token ob_value ob_faultKind ob_faultPlace ob_fresh ob_parts ob_houses ob_houseMany ob_worthOf ob_byCall ob_over ob_bestSet ob_bestOver ob_bestWorth ob_row ob_tenDebts ob_tenMany ob_fewestBy ob_covered ob_queue ob_cameBy ob_parent ob_met ob_calls ob_callMany ob_calledOn ob_saved ob_many ob_width ob_numbers ob_moving), (ce_i4 y ob_many fob_many), (ce_i4 y ob_width fob_width), (ce_l240 y ob_numbers fob_numbers)] s.heap.size = A at hD ⊢
  have hA : ∀ q : Nat, s.heap.size ≤ q → A q := fun q h => by rw [← hAe]; exact Or.inr h
  have hS : va_S A s.heap s.heap [] := va_S.rf
  have hP : va_P G vwCl [(ce_X10 ob ob_thrown ob_world ob_images ob_hasImage ob_tape ob_taped ob_five ob_size ob_at ob_from ob_token ob_value ob_faultKind ob_faultPlace ob_fresh ob_parts ob_houses ob_houseMany ob_worthOf ob_byCall ob_over ob_bestSet ob_bestOver ob_bestWorth ob_row ob_tenDebts ob_tenMany ob_fewestBy ob_covered ob_queue ob_cameBy ob_parent ob_met ob_calls ob_callMany ob_calledOn ob_saved ob_many ob_width ob_numbers ob_moving), (ce_i4 y ob_many fob_many), (ce_i4 y ob_width fob_width), (ce_l240 y ob_numbers fob_numbers)] s.heap := hP
  have hl := lv_entry ([.ref ob, .int 3, .int a2, .long a3]) (n := 5) (Nat.le_of_ble_eq_true rfl)
  rw [lg_entry_eq]
  generalize (lg_sl ([.ref ob, .int 3, .int a2, .long a3]) ++ List.replicate (5 - (lg_sl ([.ref ob, .int 3, .int a2, .long a3])).length) Slot.unset).toArray = ls at hl ⊢
  have hl : lv_has ls 5 [(0, .ref ob), (1, .int 3), (2, .int a2), (3, .long a3)] := hl
  refine lv_iload_n hx hb dX10_write_0 rfl (lv_at hl 1 rfl) ?_
  refine cSim (As := [.int 3]) (rest := []) ⟨hx, hb, hml, hown, hw0⟩ hA hK hP hD hS [] (fisSlotM l G y _ 3 ) rfl ⟨(callB_of 1 hw0 (gA m_543) rfl rfl rfl (hw0 _ m_41) (hw0 _ m_433) cb_X10_isSlot ⟨Nat.le_of_ble_eq_true rfl, Nat.le_of_ble_eq_true rfl⟩), (hw0 _ m_434)⟩ rfl hl.1 (Nat.le_of_ble_eq_true rfl) dX10_write_1 ⟨Nat.le_of_ble_eq_true rfl, Nat.le_of_ble_eq_true rfl⟩ (fun r_1001 w_1001 H locs hw_1001 hP hD hS => ?_)
  rcases hw_1001 with ⟨h_1002, rfl, rfl⟩ | ⟨h_1003, h_1004, rfl, rfl⟩
  · skip
    exact False.elim (by have h9 : Int32.toInt 3 = 3 := (by decide); omega)
  · skip
    obtain ⟨hP, hD⟩ : vPD G A H [(ce_X10 ob ob_thrown ob_world ob_images ob_hasImage ob_tape ob_taped ob_five ob_size ob_at ob_from ob_token ob_value ob_faultKind ob_faultPlace ob_fresh ob_parts ob_houses ob_houseMany ob_worthOf ob_byCall ob_over ob_bestSet ob_bestOver ob_bestWorth ob_row ob_tenDebts ob_tenMany ob_fewestBy ob_covered ob_queue ob_cameBy ob_parent ob_met ob_calls ob_callMany ob_calledOn ob_saved ob_many ob_width ob_numbers ob_moving), (ce_i4 y ob_many fob_many), (ce_i4 y ob_width fob_width), (ce_l240 y ob_numbers fob_numbers)] := ⟨hP, hD⟩
    refine lv_if_ne (tgt := 10) hx hb dX10_write_4 (by decide) (fun _ => ?_) (fun c9 => absurd c9 (by decide))
    refine lv_aload_n hx hb dX10_write_10 rfl (lv_at hl 0 rfl) ?_
    refine va_get (D := G) (ci := 10) (v := .ref ob_many) (C := RX10) (T := TX10) (N := 41) hx hb hw0 inA_wsX100 hown hK.1 hP 0 rfl rfl 37 (by decide) (hw0 _ m_406) (fun _ h9 => h9) rfl dX10_write_11 ?_
    refine lv_iload_n hx hb dX10_write_14 rfl (lv_at hl 1 rfl) ?_
    refine va_iald hx hb hK.1 hP 1 1 rfl rfl (vi (bkc (x := 3) (c := 3) (by decide)) (by decide)) dX10_write_15 ?_
    refine lv_topi (fun v_1005 ev_1005 => ?_)
    have bv_1005 : (-1 : Int) ≤ v_1005.toInt ∧ v_1005.toInt ≤ 60 := rd_b ev_1005 p_fob_many
    have yv_1005 : v_1005.toInt = (fob_many 3).toInt := congrArg Int32.toInt ev_1005
    refine lv_iconst (v := (-1)) hx hb dX10_write_16 (by decide) ?_
    refine lv_icmp_ne (tgt := 23) hx hb dX10_write_17 (by decide) (fun c_1006 => ?_) (fun c_1006 => ?_)
    · skip
      have nc_1006 := nb_ne (0) (60) c_1006 bv_1005 (k := -1) (by decide) (by decide)
      refine lv_iload_n hx hb dX10_write_23 rfl (lv_at hl 2 rfl) ?_
      refine lv_i2l hx hb dX10_write_24 rfl ?_
      refine lv_lconst (v := 0) hx hb dX10_write_25 (by decide) ?_
      refine lv_aload_n hx hb dX10_write_26 rfl (lv_at hl 0 rfl) ?_
      refine va_get (D := G) (ci := 10) (v := .ref ob_many) (C := RX10) (T := TX10) (N := 41) hx hb hw0 inA_wsX100 hown hK.1 hP 0 rfl rfl 37 (by decide) (hw0 _ m_406) (fun _ h9 => h9) rfl dX10_write_27 ?_
      refine lv_iload_n hx hb dX10_write_30 rfl (lv_at hl 1 rfl) ?_
      refine va_iald hx hb hK.1 hP 1 1 rfl rfl (vi (bkc (x := 3) (c := 3) (by decide)) (by decide)) dX10_write_31 ?_
      refine lv_topi (fun v_1007 ev_1007 => ?_)
      obtain rfl : v_1005 = v_1007 := (ev_1007.trans (ev_1005.symm)).symm
      refine lv_iconst (v := 1) hx hb dX10_write_32 (by decide) ?_
      refine lv_isub hx hb dX10_write_33 ?_
      refine lv_topi (fun v_1008 ev_1008 => ?_)
      have qv_1008 := ba_sub ev_1008 nc_1006.1 (bkc (x := 1) (c := 1) (by decide)) (by decide)
      have bv_1008 : (-1 : Int) ≤ v_1008.toInt ∧ v_1008.toInt ≤ 59 := bq_sub qv_1008 nc_1006.1 (bkc (x := 1) (c := 1) (by decide)) _ _ (by decide)
      have qv_1008 : v_1008.toInt = v_1005.toInt - (1) := qv_1008
      refine lv_i2l hx hb dX10_write_34 rfl ?_
      refine cSim (As := [.long (a2).toInt64, .long 0, .long (v_1008).toInt64]) (rest := []) ⟨hx, hb, hml, hown, hw0⟩ hA hK hP hD hS [] (sX10_in l G y _ ((a2).toInt64) 0 ((v_1008).toInt64) ) rfl ⟨(callB_of 3 hw0 (gA m_516) rfl rfl rfl (hw0 _ m_41) (hw0 _ m_345) cb_X10_in ⟨Nat.le_of_ble_eq_true rfl, Nat.le_of_ble_eq_true rfl⟩), (hw0 _ m_346)⟩ rfl hl.1 (Nat.le_of_ble_eq_true rfl) dX10_write_35 ⟨Nat.le_of_ble_eq_true rfl, Nat.le_of_ble_eq_true rfl⟩ (fun r_1009 w_1009 H locs hw_1009 hP hD hS => ?_)
      rcases hw_1009 with ⟨h_1010, rfl, rfl⟩ | ⟨h_1011, rfl, rfl⟩
      · skip
        have h_1012 : a2.toInt < (0 : Int) ∨ (v_1008.toInt : Int) < a2.toInt := in_n h_1010 (Int32.toInt_toInt64 _) (by decide) (Int32.toInt_toInt64 _)
        obtain ⟨hP, hD⟩ : vPD G A H [(ce_X10 ob ob_thrown ob_world ob_images ob_hasImage ob_tape ob_taped ob_five ob_size ob_at ob_from ob_token ob_value ob_faultKind ob_faultPlace ob_fresh ob_parts ob_houses ob_houseMany ob_worthOf ob_byCall ob_over ob_bestSet ob_bestOver ob_bestWorth ob_row ob_tenDebts ob_tenMany ob_fewestBy ob_covered ob_queue ob_cameBy ob_parent ob_met ob_calls ob_callMany ob_calledOn ob_saved ob_many ob_width ob_numbers ob_moving), (ce_i4 y ob_many fob_many), (ce_i4 y ob_width fob_width), (ce_l240 y ob_numbers fob_numbers)] := ⟨hP, hD⟩
        refine lv_if_ne (tgt := 44) hx hb dX10_write_38 (by decide) (fun c9 => absurd (by decide) c9) (fun _ => ?_)
        refine lv_bipush (v := (-7)) hx hb dX10_write_41 (by decide) ?_
        exact W.iret (v := (-7)) hx hb hr (fun t ht hW => ⟨⟨(-7), _, rfl, Or.inr (Or.inl (⟨by have h90 : Int32.toInt (-7) = -7 := (by decide); have h91 : Int32.toInt 3 = 3 := (by decide); omega, rfl, rfl⟩)), by rw [ht]; exact hP, hD⟩, hS.F ht⟩) hS.2.2 dX10_write_43
      · skip
        have h_1013 : (0 : Int) ≤ a2.toInt ∧ a2.toInt ≤ (v_1008.toInt : Int) := in_y h_1011 (Int32.toInt_toInt64 _) (by decide) (Int32.toInt_toInt64 _)
        have h_1014_0 := (btop a2)
        have h_1014_1 := True.intro
        have h_1014_2 := bv_1008
        have h_1014 : (0 : Int) ≤ a2.toInt ∧ a2.toInt ≤ 59 := by omega
        have h_1015 : (0 : Int) ≤ v_1008.toInt ∧ v_1008.toInt ≤ 59 := by have h9 := bv_1008; have h8 := h_1014; omega
        obtain ⟨hP, hD⟩ : vPD G A H [(ce_X10 ob ob_thrown ob_world ob_images ob_hasImage ob_tape ob_taped ob_five ob_size ob_at ob_from ob_token ob_value ob_faultKind ob_faultPlace ob_fresh ob_parts ob_houses ob_houseMany ob_worthOf ob_byCall ob_over ob_bestSet ob_bestOver ob_bestWorth ob_row ob_tenDebts ob_tenMany ob_fewestBy ob_covered ob_queue ob_cameBy ob_parent ob_met ob_calls ob_callMany ob_calledOn ob_saved ob_many ob_width ob_numbers ob_moving), (ce_i4 y ob_many fob_many), (ce_i4 y ob_width fob_width), (ce_l240 y ob_numbers fob_numbers)] := ⟨hP, hD⟩
        refine lv_if_ne (tgt := 44) hx hb dX10_write_38 (by decide) (fun _ => ?_) (fun c9 => absurd c9 (by decide))
        refine lv_aload_n hx hb dX10_write_44 rfl (lv_at hl 0 rfl) ?_
        refine va_get (D := G) (ci := 10) (v := .ref ob_numbers) (C := RX10) (T := TX10) (N := 41) hx hb hw0 inA_wsX100 hown hK.1 hP 0 rfl rfl 39 (by decide) (hw0 _ m_435) (fun _ h9 => h9) rfl dX10_write_45 ?_
        refine lv_bipush (v := 60) hx hb dX10_write_48 (by decide) ?_
        refine lv_iload_n hx hb dX10_write_50 rfl (lv_at hl 1 rfl) ?_
        refine lv_imul hx hb dX10_write_51 ?_
        refine lv_topi (fun v_1016 ev_1016 => ?_)
        obtain rfl : 180 = v_1016 := (ev_1016.trans (by decide)).symm
        refine lv_iload_n hx hb dX10_write_52 rfl (lv_at hl 2 rfl) ?_
        refine lv_iadd hx hb dX10_write_53 ?_
        refine lv_topi (fun v_1017 ev_1017 => ?_)
        have qv_1017 := ba_add ev_1017 (bkc (x := 180) (c := 180) (by decide)) h_1014 (by decide)
        have bv_1017 : (180 : Int) ≤ v_1017.toInt ∧ v_1017.toInt ≤ 239 := bq_add qv_1017 (bkc (x := 180) (c := 180) (by decide)) h_1014 _ _ (by decide)
        have qv_1017 : v_1017.toInt = (180) + a2.toInt := qv_1017
        refine lv_lload_n hx hb dX10_write_54 rfl (lv_at hl 3 rfl) ?_
        refine lv_aload_n hx hb dX10_write_55 rfl (lv_at hl 0 rfl) ?_
        refine va_get (D := G) (ci := 10) (v := .ref ob_width) (C := RX10) (T := TX10) (N := 41) hx hb hw0 inA_wsX100 hown hK.1 hP 0 rfl rfl 38 (by decide) (hw0 _ m_527) (fun _ h9 => h9) rfl dX10_write_56 ?_
        refine lv_iload_n hx hb dX10_write_59 rfl (lv_at hl 1 rfl) ?_
        refine va_iald hx hb hK.1 hP 2 1 rfl rfl (vi (bkc (x := 3) (c := 3) (by decide)) (by decide)) dX10_write_60 ?_
        refine lv_topi (fun v_1018 ev_1018 => ?_)
        have bv_1018 : (0 : Int) ≤ v_1018.toInt ∧ v_1018.toInt ≤ 3 := rd_b ev_1018 p_fob_width
        have yv_1018 : v_1018.toInt = (fob_width 3).toInt := congrArg Int32.toInt ev_1018
        refine cSlm (As := [.long a3, .int v_1018]) (rest := [.int v_1017, .ref ob_numbers]) ⟨hx, hb, hml, hown, hw0⟩ hA hK hP hD hS [] (sX10_cut l G y _ a3 v_1018 bv_1018) rfl ⟨(callB_of 2 hw0 (gA m_412) rfl rfl rfl (hw0 _ m_41) (hw0 _ m_699) cb_X10_cut ⟨Nat.le_of_ble_eq_true rfl, Nat.le_of_ble_eq_true rfl⟩), (hw0 _ m_700)⟩ rfl hl.1 (Nat.le_of_ble_eq_true rfl) dX10_write_61 ⟨Nat.le_of_ble_eq_true rfl, Nat.le_of_ble_eq_true rfl⟩ (fun r_1019 w_1019 H locs hw_1019 hP hD hS => ?_)
        obtain ⟨v_1020, er_1019, rfl⟩ := hw_1019
        subst r_1019
        obtain ⟨hP, hD⟩ : vPD G A H [(ce_X10 ob ob_thrown ob_world ob_images ob_hasImage ob_tape ob_taped ob_five ob_size ob_at ob_from ob_token ob_value ob_faultKind ob_faultPlace ob_fresh ob_parts ob_houses ob_houseMany ob_worthOf ob_byCall ob_over ob_bestSet ob_bestOver ob_bestWorth ob_row ob_tenDebts ob_tenMany ob_fewestBy ob_covered ob_queue ob_cameBy ob_parent ob_met ob_calls ob_callMany ob_calledOn ob_saved ob_many ob_width ob_numbers ob_moving), (ce_i4 y ob_many fob_many), (ce_i4 y ob_width fob_width), (ce_l240 y ob_numbers fob_numbers)] := ⟨hP, hD⟩
        refine va_last hx hb hK.1 hP hD hS 3 2 rfl rfl (vi bv_1017 (by decide)) dX10_write_64 (fun H locs hP hD hS => ?_)
        generalize hf_1021 : (vp_updL fob_numbers (v_1017 : Int32).toNatClampNeg v_1020) = f_1021 at hP hD
        obtain ⟨hP, hD⟩ : vPD G A H [(ce_X10 ob ob_thrown ob_world ob_images ob_hasImage ob_tape ob_taped ob_five ob_size ob_at ob_from ob_token ob_value ob_faultKind ob_faultPlace ob_fresh ob_parts ob_houses ob_houseMany ob_worthOf ob_byCall ob_over ob_bestSet ob_bestOver ob_bestWorth ob_row ob_tenDebts ob_tenMany ob_fewestBy ob_covered ob_queue ob_cameBy ob_parent ob_met ob_calls ob_callMany ob_calledOn ob_saved ob_many ob_width ob_numbers ob_moving), (ce_i4 y ob_many fob_many), (ce_i4 y ob_width fob_width), (ce_l240 y ob_numbers f_1021)] := ⟨hP, hD⟩
        refine lv_iconst (v := 0) hx hb dX10_write_65 (by decide) ?_
        exact W.iret (v := 0) hx hb hr (fun t ht hW => ⟨⟨0, _, rfl, Or.inr (Or.inr (⟨f_1021, h_1014, by have h90 : Int32.toInt 0 = 0 := (by decide); have h91 : Int32.toInt 3 = 3 := (by decide); omega, rfl, rfl⟩)), by rw [ht]; exact hP, hD⟩, hS.F ht⟩) hS.2.2 dX10_write_66
    · skip
      have nc_1006 := nb_eq (-1) (-1) c_1006 bv_1005 (bkc (x := (-1)) (c := -1) (by decide)) (by decide)
      refine lv_bipush (v := (-6)) hx hb dX10_write_20 (by decide) ?_
      exact W.iret (v := (-6)) hx hb hr (fun t ht hW => ⟨⟨(-6), _, rfl, Or.inl (⟨by have h90 : Int32.toInt (-6) = -6 := (by decide); have h91 : Int32.toInt 3 = 3 := (by decide); omega, rfl, rfl⟩), by rw [ht]; exact hP, hD⟩, hS.F ht⟩) hS.2.2 dX10_write_22

set_option maxHeartbeats 4000000 in
set_option maxRecDepth 100000 in
theorem srowMlo (l : Launch) (G : va_G) (y : Nat → ClassId) (sz : Nat) (ob : Nat) (a1 : Int32) (a2 : Int32) (a3 : Int32) (ob_thrown : Int32) (ob_world : Nat) (ob_images : Nat) (ob_hasImage : Nat) (ob_tape : Nat) (ob_taped : Int32) (ob_five : Nat) (ob_size : Int32) (ob_at : Int32) (ob_from : Int32) (ob_token : Int32) (ob_value : Int32) (ob_faultKind : Int32) (ob_faultPlace : Int32) (ob_fresh : Nat) (ob_parts : Nat) (ob_houses : Nat) (ob_houseMany : Int32) (ob_worthOf : Nat) (ob_byCall : Nat) (ob_over : Nat) (ob_bestSet : Int32) (ob_bestOver : Int32) (ob_bestWorth : Int32) (ob_row : Nat) (ob_tenDebts : Nat) (ob_tenMany : Int32) (ob_fewestBy : Nat) (ob_covered : Nat) (ob_queue : Nat) (ob_cameBy : Nat) (ob_parent : Nat) (ob_met : Nat) (ob_calls : Nat) (ob_callMany : Int32) (ob_calledOn : Nat) (ob_saved : Nat) (ob_many : Nat) (ob_width : Nat) (ob_numbers : Nat) (ob_moving : Nat) (p_ob_taped : (0 : Int) ≤ ob_taped.toInt ∧ ob_taped.toInt ≤ 1400) (p_ob_size : (0 : Int) ≤ ob_size.toInt ∧ ob_size.toInt ≤ 1400) (p_ob_at : (0 : Int) ≤ ob_at.toInt ∧ ob_at.toInt ≤ 1400) (p_ob_from : (0 : Int) ≤ ob_from.toInt ∧ ob_from.toInt ≤ 1400) (p_ob_token : (0 : Int) ≤ ob_token.toInt ∧ ob_token.toInt ≤ 4) (p_ob_value : (0 : Int) ≤ ob_value.toInt ∧ ob_value.toInt ≤ 9999) (p_ob_faultKind : (0 : Int) ≤ ob_faultKind.toInt ∧ ob_faultKind.toInt ≤ 3) (p_ob_houseMany : (0 : Int) ≤ ob_houseMany.toInt ∧ ob_houseMany.toInt ≤ 10) (p_ob_bestSet : (0 : Int) ≤ ob_bestSet.toInt ∧ ob_bestSet.toInt ≤ 1023) (p_ob_bestOver : (-1 : Int) ≤ ob_bestOver.toInt ∧ ob_bestOver.toInt ≤ 180) (p_ob_tenMany : (0 : Int) ≤ ob_tenMany.toInt ∧ ob_tenMany.toInt ≤ 10) (p_ob_callMany : (0 : Int) ≤ ob_callMany.toInt ∧ ob_callMany.toInt ≤ 16) (p_a1 : (-2147483648 : Int) ≤ a1.toInt ∧ a1.toInt ≤ -1) : Met l yX10_row (Cond.code yX10_row cX10_row 5 (some .int) :: wAll) ({ frames := 2, cells := 0, slots := 0, locals := 45 }) (va_Pc [.ref ob, .int a1, .int a2, .int a3] (kp G y sz [(ce_X10 ob ob_thrown ob_world ob_images ob_hasImage ob_tape ob_taped ob_five ob_size ob_at ob_from ob_token ob_value ob_faultKind ob_faultPlace ob_fresh ob_parts ob_houses ob_houseMany ob_worthOf ob_byCall ob_over ob_bestSet ob_bestOver ob_bestWorth ob_row ob_tenDebts ob_tenMany ob_fewestBy ob_covered ob_queue ob_cameBy ob_parent ob_met ob_calls ob_callMany ob_calledOn ob_saved ob_many ob_width ob_numbers ob_moving)])) (va_Qi (fun (r : Int32) (w : va_W) => (r = (-2) ∧ w = [(ce_X10 ob ob_thrown ob_world ob_images ob_hasImage ob_tape ob_taped ob_five ob_size ob_at ob_from ob_token ob_value ob_faultKind ob_faultPlace ob_fresh ob_parts ob_houses ob_houseMany ob_worthOf ob_byCall ob_over ob_bestSet ob_bestOver ob_bestWorth ob_row ob_tenDebts ob_tenMany ob_fewestBy ob_covered ob_queue ob_cameBy ob_parent ob_met ob_calls ob_callMany ob_calledOn ob_saved ob_many ob_width ob_numbers ob_moving)])) (kq G (va_A [(ce_X10 ob ob_thrown ob_world ob_images ob_hasImage ob_tape ob_taped ob_five ob_size ob_at ob_from ob_token ob_value ob_faultKind ob_faultPlace ob_fresh ob_parts ob_houses ob_houseMany ob_worthOf ob_byCall ob_over ob_bestSet ob_bestOver ob_bestWorth ob_row ob_tenDebts ob_tenMany ob_fewestBy ob_covered ob_queue ob_cameBy ob_parent ob_met ob_calls ob_callMany ob_calledOn ob_saved ob_many ob_width ob_numbers ob_moving)] sz)) (va_A [(ce_X10 ob ob_thrown ob_world ob_images ob_hasImage ob_tape ob_taped ob_five ob_size ob_at ob_from ob_token ob_value ob_faultKind ob_faultPlace ob_fresh ob_parts ob_houses ob_houseMany ob_worthOf ob_byCall ob_over ob_bestSet ob_bestOver ob_bestWorth ob_row ob_tenDebts ob_tenMany ob_fewestBy ob_covered ob_queue ob_cameBy ob_parent ob_met ob_calls ob_callMany ob_calledOn ob_saved ob_many ob_width ob_numbers ob_moving)] sz)) 0 0 (va_A [(ce_X10 ob ob_thrown ob_world ob_images ob_hasImage ob_tape ob_taped ob_five ob_size ob_at ob_from ob_token ob_value ob_faultKind ob_faultPlace ob_fresh ob_parts ob_houses ob_houseMany ob_worthOf ob_byCall ob_over ob_bestSet ob_bestOver ob_bestWorth ob_row ob_tenDebts ob_tenMany ob_fewestBy ob_covered ob_queue ob_cameBy ob_parent ob_met ob_calls ob_callMany ob_calledOn ob_saved ob_many ob_width ob_numbers ob_moving)] sz) := by
  refine Met.ofW (cc := cX10_row) (maxL := 5) (ret := (some .int)) (by decide) rfl ?_
  intro p e s m args below meth c s₁ B hml hv
  obtain ⟨rfl, hsz, hP, hK, hD0⟩ := hv
  have hx := B.exec
  have hb := B.bytes
  have hr := B.returns
  have hw0 : ∀ w ∈ wAll, w.before _ s = true := fun w h => atoms_spec (ws := Cond.code yX10_row cX10_row 5 (some .int) :: wAll) B.pre w (List.mem_cons_of_mem _ h)
  have hown : s.vm.findClass RX10 = some m.cls := findClass_of_methodNamed B.named
  subst hsz
  have hD := hD0.self (sz := s.heap.size)
  generalize hAe : va_A [(ce_X10 ob ob_thrown ob_world ob_images ob_hasImage ob_tape ob_taped ob_five ob_size ob_at ob_from ob_token ob_value ob_faultKind ob_faultPlace ob_fresh ob_parts ob_houses ob_houseMany ob_worthOf ob_byCall ob_over ob_bestSet ob_bestOver ob_bestWorth ob_row ob_tenDebts ob_tenMany ob_fewestBy ob_covered ob_queue ob_cameBy ob_parent ob_met ob_calls ob_callMany ob_calledOn ob_saved ob_many ob_width ob_numbers ob_moving)] s.heap.size = A at hD ⊢
  have hA : ∀ q : Nat, s.heap.size ≤ q → A q := fun q h => by rw [← hAe]; exact Or.inr h
  have hS : va_S A s.heap s.heap [] := va_S.rf
  have hP : va_P G vwCl [(ce_X10 ob ob_thrown ob_world ob_images ob_hasImage ob_tape ob_taped ob_five ob_size ob_at ob_from ob_token ob_value ob_faultKind ob_faultPlace ob_fresh ob_parts ob_houses ob_houseMany ob_worthOf ob_byCall ob_over ob_bestSet ob_bestOver ob_bestWorth ob_row ob_tenDebts ob_tenMany ob_fewestBy ob_covered ob_queue ob_cameBy ob_parent ob_met ob_calls ob_callMany ob_calledOn ob_saved ob_many ob_width ob_numbers ob_moving)] s.heap := hP
  have hl := lv_entry ([.ref ob, .int a1, .int a2, .int a3]) (n := 5) (Nat.le_of_ble_eq_true rfl)
  rw [lg_entry_eq]
  generalize (lg_sl ([.ref ob, .int a1, .int a2, .int a3]) ++ List.replicate (5 - (lg_sl ([.ref ob, .int a1, .int a2, .int a3])).length) Slot.unset).toArray = ls at hl ⊢
  have hl : lv_has ls 5 [(0, .ref ob), (1, .int a1), (2, .int a2), (3, .int a3)] := hl
  refine lv_iload_n hx hb dX10_row_0 rfl (lv_at hl 1 rfl) ?_
  refine cutW 25 (fun H locs ls st => st = [] ∧ vPD G A H [(ce_X10 ob ob_thrown ob_world ob_images ob_hasImage ob_tape ob_taped ob_five ob_size ob_at ob_from ob_token ob_value ob_faultKind ob_faultPlace ob_fresh ob_parts ob_houses ob_houseMany ob_worthOf ob_byCall ob_over ob_bestSet ob_bestOver ob_bestWorth ob_row ob_tenDebts ob_tenMany ob_fewestBy ob_covered ob_queue ob_cameBy ob_parent ob_met ob_calls ob_callMany ob_calledOn ob_saved ob_many ob_width ob_numbers ob_moving)] ∧ va_S A s.heap H locs ∧ lv_has ls 5 []) ?_ (fun J_25_1005 => ?_)
  · rintro H locs ls st ⟨rfl, ⟨hP, hD⟩, hS, hl⟩
    refine lv_bipush (v := (-2)) hx hb dX10_row_25 (by decide) ?_
    exact W.iret (v := (-2)) hx hb hr (fun t ht hW => ⟨⟨(-2), _, rfl, ⟨rfl, rfl⟩, by rw [ht]; exact hP, hD⟩, hS.F ht⟩) hS.2.2 dX10_row_27
  · skip
    refine cSim (As := [.int a1]) (rest := []) ⟨hx, hb, hml, hown, hw0⟩ hA hK hP hD hS [] (fisSlotM l G y _ a1 ) rfl ⟨(callB_of 1 hw0 (gA m_543) rfl rfl rfl (hw0 _ m_41) (hw0 _ m_433) cb_X10_isSlot ⟨Nat.le_of_ble_eq_true rfl, Nat.le_of_ble_eq_true rfl⟩), (hw0 _ m_434)⟩ rfl hl.1 (Nat.le_of_ble_eq_true rfl) dX10_row_1 ⟨Nat.le_of_ble_eq_true rfl, Nat.le_of_ble_eq_true rfl⟩ (fun r_1006 w_1006 H locs hw_1006 hP hD hS => ?_)
    rcases hw_1006 with ⟨h_1007, rfl, rfl⟩ | ⟨h_1008, h_1009, rfl, rfl⟩
    · skip
      obtain ⟨hP, hD⟩ : vPD G A H [(ce_X10 ob ob_thrown ob_world ob_images ob_hasImage ob_tape ob_taped ob_five ob_size ob_at ob_from ob_token ob_value ob_faultKind ob_faultPlace ob_fresh ob_parts ob_houses ob_houseMany ob_worthOf ob_byCall ob_over ob_bestSet ob_bestOver ob_bestWorth ob_row ob_tenDebts ob_tenMany ob_fewestBy ob_covered ob_queue ob_cameBy ob_parent ob_met ob_calls ob_callMany ob_calledOn ob_saved ob_many ob_width ob_numbers ob_moving)] := ⟨hP, hD⟩
      refine lv_if_eq (tgt := 25) hx hb dX10_row_4 (by decide) (fun _ => ?_) (fun c9 => absurd (by decide) c9)
      exact J_25_1005 _ _ _ _ ⟨rfl, ⟨hP, hD⟩, hS, lv_sub hl [] rfl⟩
    · skip
      have h_1010 := b_in p_a1 h_1008
      exact absurd (Int.le_trans (h_1010).1 (h_1010).2) (by decide)

set_option maxHeartbeats 4000000 in
set_option maxRecDepth 100000 in
theorem srowMhi (l : Launch) (G : va_G) (y : Nat → ClassId) (sz : Nat) (ob : Nat) (a1 : Int32) (a2 : Int32) (a3 : Int32) (ob_thrown : Int32) (ob_world : Nat) (ob_images : Nat) (ob_hasImage : Nat) (ob_tape : Nat) (ob_taped : Int32) (ob_five : Nat) (ob_size : Int32) (ob_at : Int32) (ob_from : Int32) (ob_token : Int32) (ob_value : Int32) (ob_faultKind : Int32) (ob_faultPlace : Int32) (ob_fresh : Nat) (ob_parts : Nat) (ob_houses : Nat) (ob_houseMany : Int32) (ob_worthOf : Nat) (ob_byCall : Nat) (ob_over : Nat) (ob_bestSet : Int32) (ob_bestOver : Int32) (ob_bestWorth : Int32) (ob_row : Nat) (ob_tenDebts : Nat) (ob_tenMany : Int32) (ob_fewestBy : Nat) (ob_covered : Nat) (ob_queue : Nat) (ob_cameBy : Nat) (ob_parent : Nat) (ob_met : Nat) (ob_calls : Nat) (ob_callMany : Int32) (ob_calledOn : Nat) (ob_saved : Nat) (ob_many : Nat) (ob_width : Nat) (ob_numbers : Nat) (ob_moving : Nat) (p_ob_taped : (0 : Int) ≤ ob_taped.toInt ∧ ob_taped.toInt ≤ 1400) (p_ob_size : (0 : Int) ≤ ob_size.toInt ∧ ob_size.toInt ≤ 1400) (p_ob_at : (0 : Int) ≤ ob_at.toInt ∧ ob_at.toInt ≤ 1400) (p_ob_from : (0 : Int) ≤ ob_from.toInt ∧ ob_from.toInt ≤ 1400) (p_ob_token : (0 : Int) ≤ ob_token.toInt ∧ ob_token.toInt ≤ 4) (p_ob_value : (0 : Int) ≤ ob_value.toInt ∧ ob_value.toInt ≤ 9999) (p_ob_faultKind : (0 : Int) ≤ ob_faultKind.toInt ∧ ob_faultKind.toInt ≤ 3) (p_ob_houseMany : (0 : Int) ≤ ob_houseMany.toInt ∧ ob_houseMany.toInt ≤ 10) (p_ob_bestSet : (0 : Int) ≤ ob_bestSet.toInt ∧ ob_bestSet.toInt ≤ 1023) (p_ob_bestOver : (-1 : Int) ≤ ob_bestOver.toInt ∧ ob_bestOver.toInt ≤ 180) (p_ob_tenMany : (0 : Int) ≤ ob_tenMany.toInt ∧ ob_tenMany.toInt ≤ 10) (p_ob_callMany : (0 : Int) ≤ ob_callMany.toInt ∧ ob_callMany.toInt ≤ 16) (p_a1 : (4 : Int) ≤ a1.toInt ∧ a1.toInt ≤ 2147483647) : Met l yX10_row (Cond.code yX10_row cX10_row 5 (some .int) :: wAll) ({ frames := 2, cells := 0, slots := 0, locals := 45 }) (va_Pc [.ref ob, .int a1, .int a2, .int a3] (kp G y sz [(ce_X10 ob ob_thrown ob_world ob_images ob_hasImage ob_tape ob_taped ob_five ob_size ob_at ob_from ob_token ob_value ob_faultKind ob_faultPlace ob_fresh ob_parts ob_houses ob_houseMany ob_worthOf ob_byCall ob_over ob_bestSet ob_bestOver ob_bestWorth ob_row ob_tenDebts ob_tenMany ob_fewestBy ob_covered ob_queue ob_cameBy ob_parent ob_met ob_calls ob_callMany ob_calledOn ob_saved ob_many ob_width ob_numbers ob_moving)])) (va_Qi (fun (r : Int32) (w : va_W) => (r = (-2) ∧ w = [(ce_X10 ob ob_thrown ob_world ob_images ob_hasImage ob_tape ob_taped ob_five ob_size ob_at ob_from ob_token ob_value ob_faultKind ob_faultPlace ob_fresh ob_parts ob_houses ob_houseMany ob_worthOf ob_byCall ob_over ob_bestSet ob_bestOver ob_bestWorth ob_row ob_tenDebts ob_tenMany ob_fewestBy ob_covered ob_queue ob_cameBy ob_parent ob_met ob_calls ob_callMany ob_calledOn ob_saved ob_many ob_width ob_numbers ob_moving)])) (kq G (va_A [(ce_X10 ob ob_thrown ob_world ob_images ob_hasImage ob_tape ob_taped ob_five ob_size ob_at ob_from ob_token ob_value ob_faultKind ob_faultPlace ob_fresh ob_parts ob_houses ob_houseMany ob_worthOf ob_byCall ob_over ob_bestSet ob_bestOver ob_bestWorth ob_row ob_tenDebts ob_tenMany ob_fewestBy ob_covered ob_queue ob_cameBy ob_parent ob_met ob_calls ob_callMany ob_calledOn ob_saved ob_many ob_width ob_numbers ob_moving)] sz)) (va_A [(ce_X10 ob ob_thrown ob_world ob_images ob_hasImage ob_tape ob_taped ob_five ob_size ob_at ob_from ob_token ob_value ob_faultKind ob_faultPlace ob_fresh ob_parts ob_houses ob_houseMany ob_worthOf ob_byCall ob_over ob_bestSet ob_bestOver ob_bestWorth ob_row ob_tenDebts ob_tenMany ob_fewestBy ob_covered ob_queue ob_cameBy ob_parent ob_met ob_calls ob_callMany ob_calledOn ob_saved ob_many ob_width ob_numbers ob_moving)] sz)) 0 0 (va_A [(ce_X10 ob ob_thrown ob_world ob_images ob_hasImage ob_tape ob_taped ob_five ob_size ob_at ob_from ob_token ob_value ob_faultKind ob_faultPlace ob_fresh ob_parts ob_houses ob_houseMany ob_worthOf ob_byCall ob_over ob_bestSet ob_bestOver ob_bestWorth ob_row ob_tenDebts ob_tenMany ob_fewestBy ob_covered ob_queue ob_cameBy ob_parent ob_met ob_calls ob_callMany ob_calledOn ob_saved ob_many ob_width ob_numbers ob_moving)] sz) := by
  refine Met.ofW (cc := cX10_row) (maxL := 5) (ret := (some .int)) (by decide) rfl ?_
  intro p e s m args below meth c s₁ B hml hv
  obtain ⟨rfl, hsz, hP, hK, hD0⟩ := hv
  have hx := B.exec
  have hb := B.bytes
  have hr := B.returns
  have hw0 : ∀ w ∈ wAll, w.before _ s = true := fun w h => atoms_spec (ws := Cond.code yX10_row cX10_row 5 (some .int) :: wAll) B.pre w (List.mem_cons_of_mem _ h)
  have hown : s.vm.findClass RX10 = some m.cls := findClass_of_methodNamed B.named
  subst hsz
  have hD := hD0.self (sz := s.heap.size)
  generalize hAe : va_A [(ce_X10 ob ob_thrown ob_world ob_images ob_hasImage ob_tape ob_taped ob_five ob_size ob_at ob_from ob_token ob_value ob_faultKind ob_faultPlace ob_fresh ob_parts ob_houses ob_houseMany ob_worthOf ob_byCall ob_over ob_bestSet ob_bestOver ob_bestWorth ob_row ob_tenDebts ob_tenMany ob_fewestBy ob_covered ob_queue ob_cameBy ob_parent ob_met ob_calls ob_callMany ob_calledOn ob_saved ob_many ob_width ob_numbers ob_moving)] s.heap.size = A at hD ⊢
  have hA : ∀ q : Nat, s.heap.size ≤ q → A q := fun q h => by rw [← hAe]; exact Or.inr h
  have hS : va_S A s.heap s.heap [] := va_S.rf
  have hP : va_P G vwCl [(ce_X10 ob ob_thrown ob_world ob_images ob_hasImage ob_tape ob_taped ob_five ob_size ob_at ob_from ob_token ob_value ob_faultKind ob_faultPlace ob_fresh ob_parts ob_houses ob_houseMany ob_worthOf ob_byCall ob_over ob_bestSet ob_bestOver ob_bestWorth ob_row ob_tenDebts ob_tenMany ob_fewestBy ob_covered ob_queue ob_cameBy ob_parent ob_met ob_calls ob_callMany ob_calledOn ob_saved ob_many ob_width ob_numbers ob_moving)] s.heap := hP
  have hl := lv_entry ([.ref ob, .int a1, .int a2, .int a3]) (n := 5) (Nat.le_of_ble_eq_true rfl)
  rw [lg_entry_eq]
  generalize (lg_sl ([.ref ob, .int a1, .int a2, .int a3]) ++ List.replicate (5 - (lg_sl ([.ref ob, .int a1, .int a2, .int a3])).length) Slot.unset).toArray = ls at hl ⊢
  have hl : lv_has ls 5 [(0, .ref ob), (1, .int a1), (2, .int a2), (3, .int a3)] := hl
  refine lv_iload_n hx hb dX10_row_0 rfl (lv_at hl 1 rfl) ?_
  refine cutW 25 (fun H locs ls st => st = [] ∧ vPD G A H [(ce_X10 ob ob_thrown ob_world ob_images ob_hasImage ob_tape ob_taped ob_five ob_size ob_at ob_from ob_token ob_value ob_faultKind ob_faultPlace ob_fresh ob_parts ob_houses ob_houseMany ob_worthOf ob_byCall ob_over ob_bestSet ob_bestOver ob_bestWorth ob_row ob_tenDebts ob_tenMany ob_fewestBy ob_covered ob_queue ob_cameBy ob_parent ob_met ob_calls ob_callMany ob_calledOn ob_saved ob_many ob_width ob_numbers ob_moving)] ∧ va_S A s.heap H locs ∧ lv_has ls 5 []) ?_ (fun J_25_1005 => ?_)
  · rintro H locs ls st ⟨rfl, ⟨hP, hD⟩, hS, hl⟩
    refine lv_bipush (v := (-2)) hx hb dX10_row_25 (by decide) ?_
    exact W.iret (v := (-2)) hx hb hr (fun t ht hW => ⟨⟨(-2), _, rfl, ⟨rfl, rfl⟩, by rw [ht]; exact hP, hD⟩, hS.F ht⟩) hS.2.2 dX10_row_27
  · skip
    refine cSim (As := [.int a1]) (rest := []) ⟨hx, hb, hml, hown, hw0⟩ hA hK hP hD hS [] (fisSlotM l G y _ a1 ) rfl ⟨(callB_of 1 hw0 (gA m_543) rfl rfl rfl (hw0 _ m_41) (hw0 _ m_433) cb_X10_isSlot ⟨Nat.le_of_ble_eq_true rfl, Nat.le_of_ble_eq_true rfl⟩), (hw0 _ m_434)⟩ rfl hl.1 (Nat.le_of_ble_eq_true rfl) dX10_row_1 ⟨Nat.le_of_ble_eq_true rfl, Nat.le_of_ble_eq_true rfl⟩ (fun r_1006 w_1006 H locs hw_1006 hP hD hS => ?_)
    rcases hw_1006 with ⟨h_1007, rfl, rfl⟩ | ⟨h_1008, h_1009, rfl, rfl⟩
    · skip
      obtain ⟨hP, hD⟩ : vPD G A H [(ce_X10 ob ob_thrown ob_world ob_images ob_hasImage ob_tape ob_taped ob_five ob_size ob_at ob_from ob_token ob_value ob_faultKind ob_faultPlace ob_fresh ob_parts ob_houses ob_houseMany ob_worthOf ob_byCall ob_over ob_bestSet ob_bestOver ob_bestWorth ob_row ob_tenDebts ob_tenMany ob_fewestBy ob_covered ob_queue ob_cameBy ob_parent ob_met ob_calls ob_callMany ob_calledOn ob_saved ob_many ob_width ob_numbers ob_moving)] := ⟨hP, hD⟩
      refine lv_if_eq (tgt := 25) hx hb dX10_row_4 (by decide) (fun _ => ?_) (fun c9 => absurd (by decide) c9)
      exact J_25_1005 _ _ _ _ ⟨rfl, ⟨hP, hD⟩, hS, lv_sub hl [] rfl⟩
    · skip
      have h_1010 := b_in p_a1 h_1008
      exact absurd (Int.le_trans (h_1010).1 (h_1010).2) (by decide)

set_option maxHeartbeats 4000000 in
set_option maxRecDepth 100000 in
theorem swriteMlo (l : Launch) (G : va_G) (y : Nat → ClassId) (sz : Nat) (ob : Nat) (a1 : Int32) (a2 : Int32) (a3 : Int64) (ob_thrown : Int32) (ob_world : Nat) (ob_images : Nat) (ob_hasImage : Nat) (ob_tape : Nat) (ob_taped : Int32) (ob_five : Nat) (ob_size : Int32) (ob_at : Int32) (ob_from : Int32) (ob_token : Int32) (ob_value : Int32) (ob_faultKind : Int32) (ob_faultPlace : Int32) (ob_fresh : Nat) (ob_parts : Nat) (ob_houses : Nat) (ob_houseMany : Int32) (ob_worthOf : Nat) (ob_byCall : Nat) (ob_over : Nat) (ob_bestSet : Int32) (ob_bestOver : Int32) (ob_bestWorth : Int32) (ob_row : Nat) (ob_tenDebts : Nat) (ob_tenMany : Int32) (ob_fewestBy : Nat) (ob_covered : Nat) (ob_queue : Nat) (ob_cameBy : Nat) (ob_parent : Nat) (ob_met : Nat) (ob_calls : Nat) (ob_callMany : Int32) (ob_calledOn : Nat) (ob_saved : Nat) (ob_many : Nat) (ob_width : Nat) (ob_numbers : Nat) (ob_moving : Nat) (p_ob_taped : (0 : Int) ≤ ob_taped.toInt ∧ ob_taped.toInt ≤ 1400) (p_ob_size : (0 : Int) ≤ ob_size.toInt ∧ ob_size.toInt ≤ 1400) (p_ob_at : (0 : Int) ≤ ob_at.toInt ∧ ob_at.toInt ≤ 1400) (p_ob_from : (0 : Int) ≤ ob_from.toInt ∧ ob_from.toInt ≤ 1400) (p_ob_token : (0 : Int) ≤ ob_token.toInt ∧ ob_token.toInt ≤ 4) (p_ob_value : (0 : Int) ≤ ob_value.toInt ∧ ob_value.toInt ≤ 9999) (p_ob_faultKind : (0 : Int) ≤ ob_faultKind.toInt ∧ ob_faultKind.toInt ≤ 3) (p_ob_houseMany : (0 : Int) ≤ ob_houseMany.toInt ∧ ob_houseMany.toInt ≤ 10) (p_ob_bestSet : (0 : Int) ≤ ob_bestSet.toInt ∧ ob_bestSet.toInt ≤ 1023) (p_ob_bestOver : (-1 : Int) ≤ ob_bestOver.toInt ∧ ob_bestOver.toInt ≤ 180) (p_ob_tenMany : (0 : Int) ≤ ob_tenMany.toInt ∧ ob_tenMany.toInt ≤ 10) (p_ob_callMany : (0 : Int) ≤ ob_callMany.toInt ∧ ob_callMany.toInt ≤ 16) (p_a1 : (-2147483648 : Int) ≤ a1.toInt ∧ a1.toInt ≤ -1) : Met l yX10_write (Cond.code yX10_write cX10_write 5 (some .int) :: wAll) ({ frames := 2, cells := 0, slots := 0, locals := 45 }) (va_Pc [.ref ob, .int a1, .int a2, .long a3] (kp G y sz [(ce_X10 ob ob_thrown ob_world ob_images ob_hasImage ob_tape ob_taped ob_five ob_size ob_at ob_from ob_token ob_value ob_faultKind ob_faultPlace ob_fresh ob_parts ob_houses ob_houseMany ob_worthOf ob_byCall ob_over ob_bestSet ob_bestOver ob_bestWorth ob_row ob_tenDebts ob_tenMany ob_fewestBy ob_covered ob_queue ob_cameBy ob_parent ob_met ob_calls ob_callMany ob_calledOn ob_saved ob_many ob_width ob_numbers ob_moving)])) (va_Qi (fun (r : Int32) (w : va_W) => (r = (-2) ∧ w = [(ce_X10 ob ob_thrown ob_world ob_images ob_hasImage ob_tape ob_taped ob_five ob_size ob_at ob_from ob_token ob_value ob_faultKind ob_faultPlace ob_fresh ob_parts ob_houses ob_houseMany ob_worthOf ob_byCall ob_over ob_bestSet ob_bestOver ob_bestWorth ob_row ob_tenDebts ob_tenMany ob_fewestBy ob_covered ob_queue ob_cameBy ob_parent ob_met ob_calls ob_callMany ob_calledOn ob_saved ob_many ob_width ob_numbers ob_moving)])) (kq G (va_A [(ce_X10 ob ob_thrown ob_world ob_images ob_hasImage ob_tape ob_taped ob_five ob_size ob_at ob_from ob_token ob_value ob_faultKind ob_faultPlace ob_fresh ob_parts ob_houses ob_houseMany ob_worthOf ob_byCall ob_over ob_bestSet ob_bestOver ob_bestWorth ob_row ob_tenDebts ob_tenMany ob_fewestBy ob_covered ob_queue ob_cameBy ob_parent ob_met ob_calls ob_callMany ob_calledOn ob_saved ob_many ob_width ob_numbers ob_moving)] sz)) (va_A [(ce_X10 ob ob_thrown ob_world ob_images ob_hasImage ob_tape ob_taped ob_five ob_size ob_at ob_from ob_token ob_value ob_faultKind ob_faultPlace ob_fresh ob_parts ob_houses ob_houseMany ob_worthOf ob_byCall ob_over ob_bestSet ob_bestOver ob_bestWorth ob_row ob_tenDebts ob_tenMany ob_fewestBy ob_covered ob_queue ob_cameBy ob_parent ob_met ob_calls ob_callMany ob_calledOn ob_saved ob_many ob_width ob_numbers ob_moving)] sz)) 0 0 (va_A [(ce_X10 ob ob_thrown ob_world ob_images ob_hasImage ob_tape ob_taped ob_five ob_size ob_at ob_from ob_token ob_value ob_faultKind ob_faultPlace ob_fresh ob_parts ob_houses ob_houseMany ob_worthOf ob_byCall ob_over ob_bestSet ob_bestOver ob_bestWorth ob_row ob_tenDebts ob_tenMany ob_fewestBy ob_covered ob_queue ob_cameBy ob_parent ob_met ob_calls ob_callMany ob_calledOn ob_saved ob_many ob_width ob_numbers ob_moving)] sz) := by
  refine Met.ofW (cc := cX10_write) (maxL := 5) (ret := (some .int)) (by decide) rfl ?_
  intro p e s m args below meth c s₁ B hml hv
  obtain ⟨rfl, hsz, hP, hK, hD0⟩ := hv
  have hx := B.exec
  have hb := B.bytes
  have hr := B.returns
  have hw0 : ∀ w ∈ wAll, w.before _ s = true := fun w h => atoms_spec (ws := Cond.code yX10_write cX10_write 5 (some .int) :: wAll) B.pre w (List.mem_cons_of_mem _ h)
  have hown : s.vm.findClass RX10 = some m.cls := findClass_of_methodNamed B.named
  subst hsz
  have hD := hD0.self (sz := s.heap.size)
  generalize hAe : va_A [(ce_X10 ob ob_thrown ob_world ob_images ob_hasImage ob_tape ob_taped ob_five ob_size ob_at ob_from ob_token ob_value ob_faultKind ob_faultPlace ob_fresh ob_parts ob_houses ob_houseMany ob_worthOf ob_byCall ob_over ob_bestSet ob_bestOver ob_bestWorth ob_row ob_tenDebts ob_tenMany ob_fewestBy ob_covered ob_queue ob_cameBy ob_parent ob_met ob_calls ob_callMany ob_calledOn ob_saved ob_many ob_width ob_numbers ob_moving)] s.heap.size = A at hD ⊢
  have hA : ∀ q : Nat, s.heap.size ≤ q → A q := fun q h => by rw [← hAe]; exact Or.inr h
  have hS : va_S A s.heap s.heap [] := va_S.rf
  have hP : va_P G vwCl [(ce_X10 ob ob_thrown ob_world ob_images ob_hasImage ob_tape ob_taped ob_five ob_size ob_at ob_from ob_token ob_value ob_faultKind ob_faultPlace ob_fresh ob_parts ob_houses ob_houseMany ob_worthOf ob_byCall ob_over ob_bestSet ob_bestOver ob_bestWorth ob_row ob_tenDebts ob_tenMany ob_fewestBy ob_covered ob_queue ob_cameBy ob_parent ob_met ob_calls ob_callMany ob_calledOn ob_saved ob_many ob_width ob_numbers ob_moving)] s.heap := hP
  have hl := lv_entry ([.ref ob, .int a1, .int a2, .long a3]) (n := 5) (Nat.le_of_ble_eq_true rfl)
  rw [lg_entry_eq]
  generalize (lg_sl ([.ref ob, .int a1, .int a2, .long a3]) ++ List.replicate (5 - (lg_sl ([.ref ob, .int a1, .int a2, .long a3])).length) Slot.unset).toArray = ls at hl ⊢
  have hl : lv_has ls 5 [(0, .ref ob), (1, .int a1), (2, .int a2), (3, .long a3)] := hl
  refine lv_iload_n hx hb dX10_write_0 rfl (lv_at hl 1 rfl) ?_
  refine cSim (As := [.int a1]) (rest := []) ⟨hx, hb, hml, hown, hw0⟩ hA hK hP hD hS [] (fisSlotM l G y _ a1 ) rfl ⟨(callB_of 1 hw0 (gA m_543) rfl rfl rfl (hw0 _ m_41) (hw0 _ m_433) cb_X10_isSlot ⟨Nat.le_of_ble_eq_true rfl, Nat.le_of_ble_eq_true rfl⟩), (hw0 _ m_434)⟩ rfl hl.1 (Nat.le_of_ble_eq_true rfl) dX10_write_1 ⟨Nat.le_of_ble_eq_true rfl, Nat.le_of_ble_eq_true rfl⟩ (fun r_1001 w_1001 H locs hw_1001 hP hD hS => ?_)
  rcases hw_1001 with ⟨h_1002, rfl, rfl⟩ | ⟨h_1003, h_1004, rfl, rfl⟩
  · skip
    obtain ⟨hP, hD⟩ : vPD G A H [(ce_X10 ob ob_thrown ob_world ob_images ob_hasImage ob_tape ob_taped ob_five ob_size ob_at ob_from ob_token ob_value ob_faultKind ob_faultPlace ob_fresh ob_parts ob_houses ob_houseMany ob_worthOf ob_byCall ob_over ob_bestSet ob_bestOver ob_bestWorth ob_row ob_tenDebts ob_tenMany ob_fewestBy ob_covered ob_queue ob_cameBy ob_parent ob_met ob_calls ob_callMany ob_calledOn ob_saved ob_many ob_width ob_numbers ob_moving)] := ⟨hP, hD⟩
    refine lv_if_ne (tgt := 10) hx hb dX10_write_4 (by decide) (fun c9 => absurd (by decide) c9) (fun _ => ?_)
    refine lv_bipush (v := (-2)) hx hb dX10_write_7 (by decide) ?_
    exact W.iret (v := (-2)) hx hb hr (fun t ht hW => ⟨⟨(-2), _, rfl, ⟨rfl, rfl⟩, by rw [ht]; exact hP, hD⟩, hS.F ht⟩) hS.2.2 dX10_write_9
  · skip
    have h_1005 := b_in p_a1 h_1003
    exact absurd (Int.le_trans (h_1005).1 (h_1005).2) (by decide)

set_option maxHeartbeats 4000000 in
set_option maxRecDepth 100000 in
theorem swriteMhi (l : Launch) (G : va_G) (y : Nat → ClassId) (sz : Nat) (ob : Nat) (a1 : Int32) (a2 : Int32) (a3 : Int64) (ob_thrown : Int32) (ob_world : Nat) (ob_images : Nat) (ob_hasImage : Nat) (ob_tape : Nat) (ob_taped : Int32) (ob_five : Nat) (ob_size : Int32) (ob_at : Int32) (ob_from : Int32) (ob_token : Int32) (ob_value : Int32) (ob_faultKind : Int32) (ob_faultPlace : Int32) (ob_fresh : Nat) (ob_parts : Nat) (ob_houses : Nat) (ob_houseMany : Int32) (ob_worthOf : Nat) (ob_byCall : Nat) (ob_over : Nat) (ob_bestSet : Int32) (ob_bestOver : Int32) (ob_bestWorth : Int32) (ob_row : Nat) (ob_tenDebts : Nat) (ob_tenMany : Int32) (ob_fewestBy : Nat) (ob_covered : Nat) (ob_queue : Nat) (ob_cameBy : Nat) (ob_parent : Nat) (ob_met : Nat) (ob_calls : Nat) (ob_callMany : Int32) (ob_calledOn : Nat) (ob_saved : Nat) (ob_many : Nat) (ob_width : Nat) (ob_numbers : Nat) (ob_moving : Nat) (p_ob_taped : (0 : Int) ≤ ob_taped.toInt ∧ ob_taped.toInt ≤ 1400) (p_ob_size : (0 : Int) ≤ ob_size.toInt ∧ ob_size.toInt ≤ 1400) (p_ob_at : (0 : Int) ≤ ob_at.toInt ∧ ob_at.toInt ≤ 1400) (p_ob_from : (0 : Int) ≤ ob_from.toInt ∧ ob_from.toInt ≤ 1400) (p_ob_token : (0 : Int) ≤ ob_token.toInt ∧ ob_token.toInt ≤ 4) (p_ob_value : (0 : Int) ≤ ob_value.toInt ∧ ob_value.toInt ≤ 9999) (p_ob_faultKind : (0 : Int) ≤ ob_faultKind.toInt ∧ ob_faultKind.toInt ≤ 3) (p_ob_houseMany : (0 : Int) ≤ ob_houseMany.toInt ∧ ob_houseMany.toInt ≤ 10) (p_ob_bestSet : (0 : Int) ≤ ob_bestSet.toInt ∧ ob_bestSet.toInt ≤ 1023) (p_ob_bestOver : (-1 : Int) ≤ ob_bestOver.toInt ∧ ob_bestOver.toInt ≤ 180) (p_ob_tenMany : (0 : Int) ≤ ob_tenMany.toInt ∧ ob_tenMany.toInt ≤ 10) (p_ob_callMany : (0 : Int) ≤ ob_callMany.toInt ∧ ob_callMany.toInt ≤ 16) (p_a1 : (4 : Int) ≤ a1.toInt ∧ a1.toInt ≤ 2147483647) : Met l yX10_write (Cond.code yX10_write cX10_write 5 (some .int) :: wAll) ({ frames := 2, cells := 0, slots := 0, locals := 45 }) (va_Pc [.ref ob, .int a1, .int a2, .long a3] (kp G y sz [(ce_X10 ob ob_thrown ob_world ob_images ob_hasImage ob_tape ob_taped ob_five ob_size ob_at ob_from ob_token ob_value ob_faultKind ob_faultPlace ob_fresh ob_parts ob_houses ob_houseMany ob_worthOf ob_byCall ob_over ob_bestSet ob_bestOver ob_bestWorth ob_row ob_tenDebts ob_tenMany ob_fewestBy ob_covered ob_queue ob_cameBy ob_parent ob_met ob_calls ob_callMany ob_calledOn ob_saved ob_many ob_width ob_numbers ob_moving)])) (va_Qi (fun (r : Int32) (w : va_W) => (r = (-2) ∧ w = [(ce_X10 ob ob_thrown ob_world ob_images ob_hasImage ob_tape ob_taped ob_five ob_size ob_at ob_from ob_token ob_value ob_faultKind ob_faultPlace ob_fresh ob_parts ob_houses ob_houseMany ob_worthOf ob_byCall ob_over ob_bestSet ob_bestOver ob_bestWorth ob_row ob_tenDebts ob_tenMany ob_fewestBy ob_covered ob_queue ob_cameBy ob_parent ob_met ob_calls ob_callMany ob_calledOn ob_saved ob_many ob_width ob_numbers ob_moving)])) (kq G (va_A [(ce_X10 ob ob_thrown ob_world ob_images ob_hasImage ob_tape ob_taped ob_five ob_size ob_at ob_from ob_token ob_value ob_faultKind ob_faultPlace ob_fresh ob_parts ob_houses ob_houseMany ob_worthOf ob_byCall ob_over ob_bestSet ob_bestOver ob_bestWorth ob_row ob_tenDebts ob_tenMany ob_fewestBy ob_covered ob_queue ob_cameBy ob_parent ob_met ob_calls ob_callMany ob_calledOn ob_saved ob_many ob_width ob_numbers ob_moving)] sz)) (va_A [(ce_X10 ob ob_thrown ob_world ob_images ob_hasImage ob_tape ob_taped ob_five ob_size ob_at ob_from ob_token ob_value ob_faultKind ob_faultPlace ob_fresh ob_parts ob_houses ob_houseMany ob_worthOf ob_byCall ob_over ob_bestSet ob_bestOver ob_bestWorth ob_row ob_tenDebts ob_tenMany ob_fewestBy ob_covered ob_queue ob_cameBy ob_parent ob_met ob_calls ob_callMany ob_calledOn ob_saved ob_many ob_width ob_numbers ob_moving)] sz)) 0 0 (va_A [(ce_X10 ob ob_thrown ob_world ob_images ob_hasImage ob_tape ob_taped ob_five ob_size ob_at ob_from ob_token ob_value ob_faultKind ob_faultPlace ob_fresh ob_parts ob_houses ob_houseMany ob_worthOf ob_byCall ob_over ob_bestSet ob_bestOver ob_bestWorth ob_row ob_tenDebts ob_tenMany ob_fewestBy ob_covered ob_queue ob_cameBy ob_parent ob_met ob_calls ob_callMany ob_calledOn ob_saved ob_many ob_width ob_numbers ob_moving)] sz) := by
  refine Met.ofW (cc := cX10_write) (maxL := 5) (ret := (some .int)) (by decide) rfl ?_
  intro p e s m args below meth c s₁ B hml hv
  obtain ⟨rfl, hsz, hP, hK, hD0⟩ := hv
  have hx := B.exec
  have hb := B.bytes
  have hr := B.returns
  have hw0 : ∀ w ∈ wAll, w.before _ s = true := fun w h => atoms_spec (ws := Cond.code yX10_write cX10_write 5 (some .int) :: wAll) B.pre w (List.mem_cons_of_mem _ h)
  have hown : s.vm.findClass RX10 = some m.cls := findClass_of_methodNamed B.named
  subst hsz
  have hD := hD0.self (sz := s.heap.size)
  generalize hAe : va_A [(ce_X10 ob ob_thrown ob_world ob_images ob_hasImage ob_tape ob_taped ob_five ob_size ob_at ob_from ob_token ob_value ob_faultKind ob_faultPlace ob_fresh ob_parts ob_houses ob_houseMany ob_worthOf ob_byCall ob_over ob_bestSet ob_bestOver ob_bestWorth ob_row ob_tenDebts ob_tenMany ob_fewestBy ob_covered ob_queue ob_cameBy ob_parent ob_met ob_calls ob_callMany ob_calledOn ob_saved ob_many ob_width ob_numbers ob_moving)] s.heap.size = A at hD ⊢
  have hA : ∀ q : Nat, s.heap.size ≤ q → A q := fun q h => by rw [← hAe]; exact Or.inr h
  have hS : va_S A s.heap s.heap [] := va_S.rf
  have hP : va_P G vwCl [(ce_X10 ob ob_thrown ob_world ob_images ob_hasImage ob_tape ob_taped ob_five ob_size ob_at ob_from ob_token ob_value ob_faultKind ob_faultPlace ob_fresh ob_parts ob_houses ob_houseMany ob_worthOf ob_byCall ob_over ob_bestSet ob_bestOver ob_bestWorth ob_row ob_tenDebts ob_tenMany ob_fewestBy ob_covered ob_queue ob_cameBy ob_parent ob_met ob_calls ob_callMany ob_calledOn ob_saved ob_many ob_width ob_numbers ob_moving)] s.heap := hP
  have hl := lv_entry ([.ref ob, .int a1, .int a2, .long a3]) (n := 5) (Nat.le_of_ble_eq_true rfl)
  rw [lg_entry_eq]
  generalize (lg_sl ([.ref ob, .int a1, .int a2, .long a3]) ++ List.replicate (5 - (lg_sl ([.ref ob, .int a1, .int a2, .long a3])).length) Slot.unset).toArray = ls at hl ⊢
  have hl : lv_has ls 5 [(0, .ref ob), (1, .int a1), (2, .int a2), (3, .long a3)] := hl
  refine lv_iload_n hx hb dX10_write_0 rfl (lv_at hl 1 rfl) ?_
  refine cSim (As := [.int a1]) (rest := []) ⟨hx, hb, hml, hown, hw0⟩ hA hK hP hD hS [] (fisSlotM l G y _ a1 ) rfl ⟨(callB_of 1 hw0 (gA m_543) rfl rfl rfl (hw0 _ m_41) (hw0 _ m_433) cb_X10_isSlot ⟨Nat.le_of_ble_eq_true rfl, Nat.le_of_ble_eq_true rfl⟩), (hw0 _ m_434)⟩ rfl hl.1 (Nat.le_of_ble_eq_true rfl) dX10_write_1 ⟨Nat.le_of_ble_eq_true rfl, Nat.le_of_ble_eq_true rfl⟩ (fun r_1001 w_1001 H locs hw_1001 hP hD hS => ?_)
  rcases hw_1001 with ⟨h_1002, rfl, rfl⟩ | ⟨h_1003, h_1004, rfl, rfl⟩
  · skip
    obtain ⟨hP, hD⟩ : vPD G A H [(ce_X10 ob ob_thrown ob_world ob_images ob_hasImage ob_tape ob_taped ob_five ob_size ob_at ob_from ob_token ob_value ob_faultKind ob_faultPlace ob_fresh ob_parts ob_houses ob_houseMany ob_worthOf ob_byCall ob_over ob_bestSet ob_bestOver ob_bestWorth ob_row ob_tenDebts ob_tenMany ob_fewestBy ob_covered ob_queue ob_cameBy ob_parent ob_met ob_calls ob_callMany ob_calledOn ob_saved ob_many ob_width ob_numbers ob_moving)] := ⟨hP, hD⟩
    refine lv_if_ne (tgt := 10) hx hb dX10_write_4 (by decide) (fun c9 => absurd (by decide) c9) (fun _ => ?_)
    refine lv_bipush (v := (-2)) hx hb dX10_write_7 (by decide) ?_
    exact W.iret (v := (-2)) hx hb hr (fun t ht hW => ⟨⟨(-2), _, rfl, ⟨rfl, rfl⟩, by rw [ht]; exact hP, hD⟩, hS.F ht⟩) hS.2.2 dX10_write_9
  · skip
    have h_1005 := b_in p_a1 h_1003
    exact absurd (Int.le_trans (h_1005).1 (h_1005).2) (by decide)

set_option maxHeartbeats 4000000 in
set_option maxRecDepth 100000 in
theorem fkeepM0 (l : Launch) (G : va_G) (y : Nat → ClassId) (sz : Nat) (ob : Nat) (ob_thrown : Int32) (ob_world : Nat) (ob_images : Nat) (ob_hasImage : Nat) (ob_tape : Nat) (ob_taped : Int32) (ob_five : Nat) (ob_size : Int32) (ob_at : Int32) (ob_from : Int32) (ob_token : Int32) (ob_value : Int32) (ob_faultKind : Int32) (ob_faultPlace : Int32) (ob_fresh : Nat) (ob_parts : Nat) (ob_houses : Nat) (ob_houseMany : Int32) (ob_worthOf : Nat) (ob_byCall : Nat) (ob_over : Nat) (ob_bestSet : Int32) (ob_bestOver : Int32) (ob_bestWorth : Int32) (ob_row : Nat) (ob_tenDebts : Nat) (ob_tenMany : Int32) (ob_fewestBy : Nat) (ob_covered : Nat) (ob_queue : Nat) (ob_cameBy : Nat) (ob_parent : Nat) (ob_met : Nat) (ob_calls : Nat) (ob_callMany : Int32) (ob_calledOn : Nat) (ob_saved : Nat) (ob_many : Nat) (ob_width : Nat) (ob_numbers : Nat) (ob_moving : Nat) (fob_world : Nat → Int32) (fob_images : Nat → Int32) (fob_hasImage : Nat → Int32) (p_fob_world : RWw fob_world) (p_fob_images : RIw fob_images) (p_fob_hasImage : ∀ i, (0 : Int) ≤ (fob_hasImage i).toInt ∧ (fob_hasImage i).toInt ≤ 1) (p_ob_taped : (0 : Int) ≤ ob_taped.toInt ∧ ob_taped.toInt ≤ 1400) (p_ob_size : (0 : Int) ≤ ob_size.toInt ∧ ob_size.toInt ≤ 1400) (p_ob_at : (0 : Int) ≤ ob_at.toInt ∧ ob_at.toInt ≤ 1400) (p_ob_from : (0 : Int) ≤ ob_from.toInt ∧ ob_from.toInt ≤ 1400) (p_ob_token : (0 : Int) ≤ ob_token.toInt ∧ ob_token.toInt ≤ 4) (p_ob_value : (0 : Int) ≤ ob_value.toInt ∧ ob_value.toInt ≤ 9999) (p_ob_faultKind : (0 : Int) ≤ ob_faultKind.toInt ∧ ob_faultKind.toInt ≤ 3) (p_ob_houseMany : (0 : Int) ≤ ob_houseMany.toInt ∧ ob_houseMany.toInt ≤ 10) (p_ob_bestSet : (0 : Int) ≤ ob_bestSet.toInt ∧ ob_bestSet.toInt ≤ 1023) (p_ob_bestOver : (-1 : Int) ≤ ob_bestOver.toInt ∧ ob_bestOver.toInt ≤ 180) (p_ob_tenMany : (0 : Int) ≤ ob_tenMany.toInt ∧ ob_tenMany.toInt ≤ 10) (p_ob_callMany : (0 : Int) ≤ ob_callMany.toInt ∧ ob_callMany.toInt ≤ 16) : Met l yX10_keep (Cond.code yX10_keep cX10_keep 3 (some .int) :: wAll) ({ frames := 1, cells := 0, slots := 0, locals := 25 }) (va_Pc [.ref ob, .int 0] (kp G y sz [(ce_X10 ob ob_thrown ob_world ob_images ob_hasImage ob_tape ob_taped ob_five ob_size ob_at ob_from ob_token ob_value ob_faultKind ob_faultPlace ob_fresh ob_parts ob_houses ob_houseMany ob_worthOf ob_byCall ob_over ob_bestSet ob_bestOver ob_bestWorth ob_row ob_tenDebts ob_tenMany ob_fewestBy ob_covered ob_queue ob_cameBy ob_parent ob_met ob_calls ob_callMany ob_calledOn ob_saved ob_many ob_width ob_numbers ob_moving), (ce_i9080 y ob_world fob_world), (ce_i27240 y ob_images fob_images), (ce_z3 y ob_hasImage fob_hasImage)])) (va_Qi (fun (r : Int32) (w : va_W) => (∃ (f_207 : Nat → Int32) (f_208 : Nat → Int32), (RIw f_207) ∧ (∀ i, (0 : Int) ≤ (f_208 i).toInt ∧ (f_208 i).toInt ≤ 1) ∧ ((f_208 0).toInt = 1) ∧ ((f_208 1).toInt = (fob_hasImage 1).toInt) ∧ ((f_208 2).toInt = (fob_hasImage 2).toInt) ∧ r = 0 ∧ w = [(ce_X10 ob ob_thrown ob_world ob_images ob_hasImage ob_tape ob_taped ob_five ob_size ob_at ob_from ob_token ob_value ob_faultKind ob_faultPlace ob_fresh ob_parts ob_houses ob_houseMany ob_worthOf ob_byCall ob_over ob_bestSet ob_bestOver ob_bestWorth ob_row ob_tenDebts ob_tenMany ob_fewestBy ob_covered ob_queue ob_cameBy ob_parent ob_met ob_calls ob_callMany ob_calledOn ob_saved ob_many ob_width ob_numbers ob_moving), (ce_i9080 y ob_world fob_world), (ce_i27240 y ob_images f_207), (ce_z3 y ob_hasImage f_208)])) (kq G (va_A [(ce_X10 ob ob_thrown ob_world ob_images ob_hasImage ob_tape ob_taped ob_five ob_size ob_at ob_from ob_token ob_value ob_faultKind ob_faultPlace ob_fresh ob_parts ob_houses ob_houseMany ob_worthOf ob_byCall ob_over ob_bestSet ob_bestOver ob_bestWorth ob_row ob_tenDebts ob_tenMany ob_fewestBy ob_covered ob_queue ob_cameBy ob_parent ob_met ob_calls ob_callMany ob_calledOn ob_saved ob_many ob_width ob_numbers ob_moving), (ce_i9080 y ob_world fob_world), (ce_i27240 y ob_images fob_images), (ce_z3 y ob_hasImage fob_hasImage)] sz)) (va_A [(ce_X10 ob ob_thrown ob_world ob_images ob_hasImage ob_tape ob_taped ob_five ob_size ob_at ob_from ob_token ob_value ob_faultKind ob_faultPlace ob_fresh ob_parts ob_houses ob_houseMany ob_worthOf ob_byCall ob_over ob_bestSet ob_bestOver ob_bestWorth ob_row ob_tenDebts ob_tenMany ob_fewestBy ob_covered ob_queue ob_cameBy ob_parent ob_met ob_calls ob_callMany ob_calledOn ob_saved ob_many ob_width ob_numbers ob_moving), (ce_i9080 y ob_world fob_world), (ce_i27240 y ob_images fob_images), (ce_z3 y ob_hasImage fob_hasImage)] sz)) 0 0 (va_A [(ce_X10 ob ob_thrown ob_world ob_images ob_hasImage ob_tape ob_taped ob_five ob_size ob_at ob_from ob_token ob_value ob_faultKind ob_faultPlace ob_fresh ob_parts ob_houses ob_houseMany ob_worthOf ob_byCall ob_over ob_bestSet ob_bestOver ob_bestWorth ob_row ob_tenDebts ob_tenMany ob_fewestBy ob_covered ob_queue ob_cameBy ob_parent ob_met ob_calls ob_callMany ob_calledOn ob_saved ob_many ob_width ob_numbers ob_moving), (ce_i9080 y ob_world fob_world), (ce_i27240 y ob_images fob_images), (ce_z3 y ob_hasImage fob_hasImage)] sz) := by
  refine Met.ofW (cc := cX10_keep) (maxL := 3) (ret := (some .int)) (by decide) rfl ?_
  intro p e s m args below meth c s₁ B hml hv
  obtain ⟨rfl, hsz, hP, hK, hD0⟩ := hv
  have hx := B.exec
  have hb := B.bytes
  have hr := B.returns
  have hw0 : ∀ w ∈ wAll, w.before _ s = true := fun w h => atoms_spec (ws := Cond.code yX10_keep cX10_keep 3 (some .int) :: wAll) B.pre w (List.mem_cons_of_mem _ h)
  have hown : s.vm.findClass RX10 = some m.cls := findClass_of_methodNamed B.named
  subst hsz
  have hD := hD0.self (sz := s.heap.size)
  generalize hAe : va_A [(ce_X10 ob ob_thrown ob_world ob_images ob_hasImage ob_tape ob_taped ob_five ob_size ob_at ob_from ob_token ob_value ob_faultKind ob_faultPlace ob_fresh ob_parts ob_houses ob_houseMany ob_worthOf ob_byCall ob_over ob_bestSet ob_bestOver ob_bestWorth ob_row ob_tenDebts ob_tenMany ob_fewestBy ob_covered ob_queue ob_cameBy ob_parent ob_met ob_calls ob_callMany ob_calledOn ob_saved ob_many ob_width ob_numbers ob_moving), (ce_i9080 y ob_world fob_world), (ce_i27240 y ob_images fob_images), (ce_z3 y ob_hasImage fob_hasImage)] s.heap.size = A at hD ⊢
  have hA : ∀ q : Nat, s.heap.size ≤ q → A q := fun q h => by rw [← hAe]; exact Or.inr h
  have hS : va_S A s.heap s.heap [] := va_S.rf
  have hP : va_P G vwCl [(ce_X10 ob ob_thrown ob_world ob_images ob_hasImage ob_tape ob_taped ob_five ob_size ob_at ob_from ob_token ob_value ob_faultKind ob_faultPlace ob_fresh ob_parts ob_houses ob_houseMany ob_worthOf ob_byCall ob_over ob_bestSet ob_bestOver ob_bestWorth ob_row ob_tenDebts ob_tenMany ob_fewestBy ob_covered ob_queue ob_cameBy ob_parent ob_met ob_calls ob_callMany ob_calledOn ob_saved ob_many ob_width ob_numbers ob_moving), (ce_i9080 y ob_world fob_world), (ce_i27240 y ob_images fob_images), (ce_z3 y ob_hasImage fob_hasImage)] s.heap := hP
  have hl := lv_entry ([.ref ob, .int 0]) (n := 3) (Nat.le_of_ble_eq_true rfl)
  rw [lg_entry_eq]
  generalize (lg_sl ([.ref ob, .int 0]) ++ List.replicate (3 - (lg_sl ([.ref ob, .int 0])).length) Slot.unset).toArray = ls at hl ⊢
  have hl : lv_has ls 3 [(0, .ref ob), (1, .int 0)] := hl
  refine lv_iload_n hx hb dX10_keep_0 rfl (lv_at hl 1 rfl) ?_
  refine lv_i2l (v := 0) hx hb dX10_keep_1 (by decide) ?_
  refine lv_lconst (v := 0) hx hb dX10_keep_2 (by decide) ?_
  refine lv_ldc2 (own := RX10) (v := 2) hx hb hown (hw0 _ m_360) dX10_keep_3 ?_
  refine cSim (As := [.long 0, .long 0, .long 2]) (rest := []) ⟨hx, hb, hml, hown, hw0⟩ hA hK hP hD hS [] (sX10_in l G y _ 0 0 2 ) rfl ⟨(callB_of 3 hw0 (gA m_516) rfl rfl rfl (hw0 _ m_41) (hw0 _ m_345) cb_X10_in ⟨Nat.le_of_ble_eq_true rfl, Nat.le_of_ble_eq_true rfl⟩), (hw0 _ m_346)⟩ rfl hl.1 (Nat.le_of_ble_eq_true rfl) dX10_keep_6 ⟨Nat.le_of_ble_eq_true rfl, Nat.le_of_ble_eq_true rfl⟩ (fun r_1001 w_1001 H locs hw_1001 hP hD hS => ?_)
  rcases hw_1001 with ⟨h_1002, rfl, rfl⟩ | ⟨h_1003, rfl, rfl⟩
  · skip
    have h_1004 : 0 < (0 : Int) ∨ (2 : Int) < 0 := in_n h_1002 (by decide) (by decide) (by decide)
    omega
  · skip
    have h_1005 : (0 : Int) ≤ 0 ∧ 0 ≤ (2 : Int) := in_y h_1003 (by decide) (by decide) (by decide)
    obtain ⟨hP, hD⟩ : vPD G A H [(ce_X10 ob ob_thrown ob_world ob_images ob_hasImage ob_tape ob_taped ob_five ob_size ob_at ob_from ob_token ob_value ob_faultKind ob_faultPlace ob_fresh ob_parts ob_houses ob_houseMany ob_worthOf ob_byCall ob_over ob_bestSet ob_bestOver ob_bestWorth ob_row ob_tenDebts ob_tenMany ob_fewestBy ob_covered ob_queue ob_cameBy ob_parent ob_met ob_calls ob_callMany ob_calledOn ob_saved ob_many ob_width ob_numbers ob_moving), (ce_i9080 y ob_world fob_world), (ce_i27240 y ob_images fob_images), (ce_z3 y ob_hasImage fob_hasImage)] := ⟨hP, hD⟩
    refine lv_if_ne (tgt := 15) hx hb dX10_keep_9 (by decide) (fun _ => ?_) (fun c9 => absurd c9 (by decide))
    refine lv_iconst (v := 0) hx hb dX10_keep_15 (by decide) ?_
    refine lv_istore_n (lv' := [(2, .int 0), (0, .ref ob), (1, .int 0)]) hx hb dX10_keep_16 rfl hl (by decide) rfl (fun ls hl => ?_)
    refine loopX (fun n H locs ls st => ∃ (v_1089 : Int32) (f_1090 : Nat → Int32), (9080 - v_1089.toInt).toNat = n ∧ ((0 : Int) ≤ v_1089.toInt ∧ v_1089.toInt ≤ 9080) ∧ (cpR f_1090 fob_images fob_world 0 0 0 v_1089.toInt) ∧ st = [] ∧ vPD G A H [(ce_X10 ob ob_thrown ob_world ob_images ob_hasImage ob_tape ob_taped ob_five ob_size ob_at ob_from ob_token ob_value ob_faultKind ob_faultPlace ob_fresh ob_parts ob_houses ob_houseMany ob_worthOf ob_byCall ob_over ob_bestSet ob_bestOver ob_bestWorth ob_row ob_tenDebts ob_tenMany ob_fewestBy ob_covered ob_queue ob_cameBy ob_parent ob_met ob_calls ob_callMany ob_calledOn ob_saved ob_many ob_width ob_numbers ob_moving), (ce_i9080 y ob_world fob_world), (ce_i27240 y ob_images f_1090), (ce_z3 y ob_hasImage fob_hasImage)] ∧ va_S A s.heap H locs ∧ lv_has ls 3 [(2, .int v_1089), (0, .ref ob), (1, .int 0)]) ?_ (n := (9080 - (0 : Int32).toInt).toNat) ⟨0, fob_images, rfl, (bw (0) (9080) (bkc (x := 0) (c := 0) (by decide)) (by decide)), (cp_0 (by have h90 : Int32.toInt 0 = 0 := (by decide); omega)), rfl, ⟨hP, hD⟩, hS, lv_sub hl [0, 1, 2] rfl⟩
    rintro n ih_1096 H locs ls st ⟨v_1089, f_1090, hn_1096, bv_1089, rl1090_0, rfl, ⟨hP, hD⟩, hS, hl⟩
    refine lv_iload_n hx hb dX10_keep_17 rfl (lv_at hl 0 rfl) ?_
    refine lv_sipush (v := 9080) hx hb dX10_keep_18 (by decide) ?_
    refine lv_icmp_ge (tgt := 48) hx hb dX10_keep_21 (by decide) (fun c_1097 => ?_) (fun c_1097 => ?_)
    · skip
      have nc_1097 := nb_le (9080) (9080) c_1097 (bkc (x := 9080) (c := 9080) (by decide)) bv_1089 (by decide)
      have kf_1090 : RIw f_1090 := RI_keep (k := 0) rl1090_0 (by omega) p_fob_world p_fob_images
      refine lv_aload_n hx hb dX10_keep_48 rfl (lv_at hl 1 rfl) ?_
      refine va_get (D := G) (ci := 10) (v := .ref ob_hasImage) (C := RX10) (T := TX10) (N := 41) hx hb hw0 inA_wsX100 hown hK.1 hP 0 rfl rfl 3 (by decide) (hw0 _ m_361) (fun _ h9 => h9) rfl dX10_keep_49 ?_
      refine lv_iload_n hx hb dX10_keep_52 rfl (lv_at hl 2 rfl) ?_
      refine lv_iconst (v := 1) hx hb dX10_keep_53 (by decide) ?_
      refine va_zast hx hb hK.1 hP hD hS 3 3 rfl rfl (vi (bkc (x := 0) (c := 0) (by decide)) (by decide)) dX10_keep_54 (fun H locs hP hD hS => ?_)
      generalize hf_1098 : (upd fob_hasImage (0 : Int32).toNatClampNeg (vp_nar .boolean 1)) = f_1098 at hP hD
      have bf_1098 : ∀ i, (0 : Int) ≤ (f_1098 i).toInt ∧ (f_1098 i).toInt ≤ 1 := hf_1098 ▸ up_z p_fob_hasImage (bw (0) (1) (bkc (x := 1) (c := 1) (by decide)) (by decide))
      have zf_1098_0 : (f_1098 0).toInt = 1 := by rw [← hf_1098]; exact (pin_eq (by decide)).trans (by decide)
      have zf_1098_1 : (f_1098 1).toInt = (fob_hasImage 1).toInt := hf_1098 ▸ pin_ne (ix_not (bkc (x := 0) (c := 0) (by decide)) (by decide))
      have zf_1098_2 : (f_1098 2).toInt = (fob_hasImage 2).toInt := hf_1098 ▸ pin_ne (ix_not (bkc (x := 0) (c := 0) (by decide)) (by decide))
      obtain ⟨hP, hD⟩ : vPD G A H [(ce_X10 ob ob_thrown ob_world ob_images ob_hasImage ob_tape ob_taped ob_five ob_size ob_at ob_from ob_token ob_value ob_faultKind ob_faultPlace ob_fresh ob_parts ob_houses ob_houseMany ob_worthOf ob_byCall ob_over ob_bestSet ob_bestOver ob_bestWorth ob_row ob_tenDebts ob_tenMany ob_fewestBy ob_covered ob_queue ob_cameBy ob_parent ob_met ob_calls ob_callMany ob_calledOn ob_saved ob_many ob_width ob_numbers ob_moving), (ce_i9080 y ob_world fob_world), (ce_i27240 y ob_images f_1090), (ce_z3 y ob_hasImage f_1098)] := ⟨hP, hD⟩
      refine lv_iconst (v := 0) hx hb dX10_keep_55 (by decide) ?_
      exact W.iret (v := 0) hx hb hr (fun t ht hW => ⟨⟨0, _, rfl, ⟨f_1090, f_1098, kf_1090, bf_1098, by have h90 : Int32.toInt 0 = 0 := (by decide); omega, by have h90 : Int32.toInt 0 = 0 := (by decide); omega, by have h90 : Int32.toInt 0 = 0 := (by decide); omega, rfl, rfl⟩, by rw [ht]; exact hP, hD⟩, hS.F ht⟩) hS.2.2 dX10_keep_56
    · skip
      have nc_1097 := nb_nle (9079) (9080) c_1097 bv_1089 (bkc (x := 9080) (c := 9080) (by decide)) (by decide)
      refine lv_aload_n hx hb dX10_keep_24 rfl (lv_at hl 1 rfl) ?_
      refine va_get (D := G) (ci := 10) (v := .ref ob_images) (C := RX10) (T := TX10) (N := 41) hx hb hw0 inA_wsX100 hown hK.1 hP 0 rfl rfl 2 (by decide) (hw0 _ m_362) (fun _ h9 => h9) rfl dX10_keep_25 ?_
      refine lv_sipush (v := 9080) hx hb dX10_keep_28 (by decide) ?_
      refine lv_iload_n hx hb dX10_keep_31 rfl (lv_at hl 2 rfl) ?_
      refine lv_imul hx hb dX10_keep_32 ?_
      refine lv_topi (fun v_1099 ev_1099 => ?_)
      obtain rfl : 0 = v_1099 := (ev_1099.trans (by decide)).symm
      refine lv_iload_n hx hb dX10_keep_33 rfl (lv_at hl 0 rfl) ?_
      refine lv_iadd hx hb dX10_keep_34 ?_
      refine lv_topi (fun v_1100 ev_1100 => ?_)
      have qv_1100 := ba_add ev_1100 (bkc (x := 0) (c := 0) (by decide)) nc_1097.1 (by decide)
      have bv_1100 : (0 : Int) ≤ v_1100.toInt ∧ v_1100.toInt ≤ 9079 := bq_add qv_1100 (bkc (x := 0) (c := 0) (by decide)) nc_1097.1 _ _ (by decide)
      have qv_1100 : v_1100.toInt = (0) + v_1089.toInt := qv_1100
      refine lv_aload_n hx hb dX10_keep_35 rfl (lv_at hl 1 rfl) ?_
      refine va_get (D := G) (ci := 10) (v := .ref ob_world) (C := RX10) (T := TX10) (N := 41) hx hb hw0 inA_wsX100 hown hK.1 hP 0 rfl rfl 1 (by decide) (hw0 _ m_352) (fun _ h9 => h9) rfl dX10_keep_36 ?_
      refine lv_iload_n hx hb dX10_keep_39 rfl (lv_at hl 0 rfl) ?_
      refine va_iald hx hb hK.1 hP 1 1 rfl rfl (vi nc_1097.1 (by decide)) dX10_keep_40 ?_
      refine lv_topi (fun v_1101 ev_1101 => ?_)
      refine va_iast hx hb hK.1 hP hD hS 2 1 rfl rfl (vi bv_1100 (by decide)) dX10_keep_41 (fun H locs hP hD hS => ?_)
      generalize hf_1102 : (upd f_1090 (v_1100 : Int32).toNatClampNeg v_1101) = f_1102 at hP hD
      obtain ⟨hP, hD⟩ : vPD G A H [(ce_X10 ob ob_thrown ob_world ob_images ob_hasImage ob_tape ob_taped ob_five ob_size ob_at ob_from ob_token ob_value ob_faultKind ob_faultPlace ob_fresh ob_parts ob_houses ob_houseMany ob_worthOf ob_byCall ob_over ob_bestSet ob_bestOver ob_bestWorth ob_row ob_tenDebts ob_tenMany ob_fewestBy ob_covered ob_queue ob_cameBy ob_parent ob_met ob_calls ob_callMany ob_calledOn ob_saved ob_many ob_width ob_numbers ob_moving), (ce_i9080 y ob_world fob_world), (ce_i27240 y ob_images f_1102), (ce_z3 y ob_hasImage fob_hasImage)] := ⟨hP, hD⟩
      obtain ⟨v_1103, ev_1103⟩ : ∃ z : Int32, z = v_1089 + 1 := ⟨_, rfl⟩
      have qv_1103 := ba_add ev_1103 nc_1097.1 (bkc (x := 1) (c := 1) (by decide)) (by decide)
      have bv_1103 : (1 : Int) ≤ v_1103.toInt ∧ v_1103.toInt ≤ 9080 := bq_add qv_1103 nc_1097.1 (bkc (x := 1) (c := 1) (by decide)) _ _ (by decide)
      have qv_1103 : v_1103.toInt = v_1089.toInt + (1) := qv_1103
      refine lv_iinc (v := v_1103) (lv' := [(2, .int v_1103), (0, .ref ob), (1, .int 0)]) hx hb dX10_keep_42 hl (k := 0) rfl (ev_1103.symm) (by decide) rfl (fun ls hl => ?_)
      refine lv_goto (tgt := 17) hx hb dX10_keep_45 (by decide) ?_
      exact ih_1096 _ (ml_inc (hi := 9080) hn_1096 qv_1103 (by decide) ((bw (0) (9080) bv_1103 (by decide))).2) _ _ _ _ ⟨v_1103, f_1102, rfl, (bw (0) (9080) bv_1103 (by decide)), (cp_s rl1090_0 hf_1102 ev_1101 ((cl_to (by omega)).trans (by omega)) ((cl_to (by omega)).trans (by omega)) (by omega) (by omega)), rfl, ⟨hP, hD⟩, hS, lv_sub hl [0, 1, 2] rfl⟩

set_option maxHeartbeats 4000000 in
set_option maxRecDepth 100000 in
theorem fbackM0 (l : Launch) (G : va_G) (y : Nat → ClassId) (sz : Nat) (ob : Nat) (ob_thrown : Int32) (ob_world : Nat) (ob_images : Nat) (ob_hasImage : Nat) (ob_tape : Nat) (ob_taped : Int32) (ob_five : Nat) (ob_size : Int32) (ob_at : Int32) (ob_from : Int32) (ob_token : Int32) (ob_value : Int32) (ob_faultKind : Int32) (ob_faultPlace : Int32) (ob_fresh : Nat) (ob_parts : Nat) (ob_houses : Nat) (ob_houseMany : Int32) (ob_worthOf : Nat) (ob_byCall : Nat) (ob_over : Nat) (ob_bestSet : Int32) (ob_bestOver : Int32) (ob_bestWorth : Int32) (ob_row : Nat) (ob_tenDebts : Nat) (ob_tenMany : Int32) (ob_fewestBy : Nat) (ob_covered : Nat) (ob_queue : Nat) (ob_cameBy : Nat) (ob_parent : Nat) (ob_met : Nat) (ob_calls : Nat) (ob_callMany : Int32) (ob_calledOn : Nat) (ob_saved : Nat) (ob_many : Nat) (ob_width : Nat) (ob_numbers : Nat) (ob_moving : Nat) (fob_world : Nat → Int32) (fob_images : Nat → Int32) (fob_hasImage : Nat → Int32) (p_fob_world : RWw fob_world) (p_fob_images : RIw fob_images) (p_fob_hasImage : ∀ i, (0 : Int) ≤ (fob_hasImage i).toInt ∧ (fob_hasImage i).toInt ≤ 1) (p_ob_taped : (0 : Int) ≤ ob_taped.toInt ∧ ob_taped.toInt ≤ 1400) (p_ob_size : (0 : Int) ≤ ob_size.toInt ∧ ob_size.toInt ≤ 1400) (p_ob_at : (0 : Int) ≤ ob_at.toInt ∧ ob_at.toInt ≤ 1400) (p_ob_from : (0 : Int) ≤ ob_from.toInt ∧ ob_from.toInt ≤ 1400) (p_ob_token : (0 : Int) ≤ ob_token.toInt ∧ ob_token.toInt ≤ 4) (p_ob_value : (0 : Int) ≤ ob_value.toInt ∧ ob_value.toInt ≤ 9999) (p_ob_faultKind : (0 : Int) ≤ ob_faultKind.toInt ∧ ob_faultKind.toInt ≤ 3) (p_ob_houseMany : (0 : Int) ≤ ob_houseMany.toInt ∧ ob_houseMany.toInt ≤ 10) (p_ob_bestSet : (0 : Int) ≤ ob_bestSet.toInt ∧ ob_bestSet.toInt ≤ 1023) (p_ob_bestOver : (-1 : Int) ≤ ob_bestOver.toInt ∧ ob_bestOver.toInt ≤ 180) (p_ob_tenMany : (0 : Int) ≤ ob_tenMany.toInt ∧ ob_tenMany.toInt ≤ 10) (p_ob_callMany : (0 : Int) ≤ ob_callMany.toInt ∧ ob_callMany.toInt ≤ 16) : Met l yX10_back (Cond.code yX10_back cX10_back 3 (some .int) :: wAll) ({ frames := 1, cells := 0, slots := 0, locals := 25 }) (va_Pc [.ref ob, .int 0] (kp G y sz [(ce_X10 ob ob_thrown ob_world ob_images ob_hasImage ob_tape ob_taped ob_five ob_size ob_at ob_from ob_token ob_value ob_faultKind ob_faultPlace ob_fresh ob_parts ob_houses ob_houseMany ob_worthOf ob_byCall ob_over ob_bestSet ob_bestOver ob_bestWorth ob_row ob_tenDebts ob_tenMany ob_fewestBy ob_covered ob_queue ob_cameBy ob_parent ob_met ob_calls ob_callMany ob_calledOn ob_saved ob_many ob_width ob_numbers ob_moving), (ce_i9080 y ob_world fob_world), (ce_i27240 y ob_images fob_images), (ce_z3 y ob_hasImage fob_hasImage)])) (va_Qi (fun (r : Int32) (w : va_W) => (((fob_hasImage 0).toInt = 0) ∧ r = (-6) ∧ w = [(ce_X10 ob ob_thrown ob_world ob_images ob_hasImage ob_tape ob_taped ob_five ob_size ob_at ob_from ob_token ob_value ob_faultKind ob_faultPlace ob_fresh ob_parts ob_houses ob_houseMany ob_worthOf ob_byCall ob_over ob_bestSet ob_bestOver ob_bestWorth ob_row ob_tenDebts ob_tenMany ob_fewestBy ob_covered ob_queue ob_cameBy ob_parent ob_met ob_calls ob_callMany ob_calledOn ob_saved ob_many ob_width ob_numbers ob_moving), (ce_i9080 y ob_world fob_world), (ce_i27240 y ob_images fob_images), (ce_z3 y ob_hasImage fob_hasImage)]) ∨ (∃ (f_209 : Nat → Int32), (RWw f_209) ∧ (¬ (fob_hasImage 0).toInt = 0) ∧ r = 0 ∧ w = [(ce_X10 ob ob_thrown ob_world ob_images ob_hasImage ob_tape ob_taped ob_five ob_size ob_at ob_from ob_token ob_value ob_faultKind ob_faultPlace ob_fresh ob_parts ob_houses ob_houseMany ob_worthOf ob_byCall ob_over ob_bestSet ob_bestOver ob_bestWorth ob_row ob_tenDebts ob_tenMany ob_fewestBy ob_covered ob_queue ob_cameBy ob_parent ob_met ob_calls ob_callMany ob_calledOn ob_saved ob_many ob_width ob_numbers ob_moving), (ce_i9080 y ob_world f_209), (ce_i27240 y ob_images fob_images), (ce_z3 y ob_hasImage fob_hasImage)])) (kq G (va_A [(ce_X10 ob ob_thrown ob_world ob_images ob_hasImage ob_tape ob_taped ob_five ob_size ob_at ob_from ob_token ob_value ob_faultKind ob_faultPlace ob_fresh ob_parts ob_houses ob_houseMany ob_worthOf ob_byCall ob_over ob_bestSet ob_bestOver ob_bestWorth ob_row ob_tenDebts ob_tenMany ob_fewestBy ob_covered ob_queue ob_cameBy ob_parent ob_met ob_calls ob_callMany ob_calledOn ob_saved ob_many ob_width ob_numbers ob_moving), (ce_i9080 y ob_world fob_world), (ce_i27240 y ob_images fob_images), (ce_z3 y ob_hasImage fob_hasImage)] sz)) (va_A [(ce_X10 ob ob_thrown ob_world ob_images ob_hasImage ob_tape ob_taped ob_five ob_size ob_at ob_from ob_token ob_value ob_faultKind ob_faultPlace ob_fresh ob_parts ob_houses ob_houseMany ob_worthOf ob_byCall ob_over ob_bestSet ob_bestOver ob_bestWorth ob_row ob_tenDebts ob_tenMany ob_fewestBy ob_covered ob_queue ob_cameBy ob_parent ob_met ob_calls ob_callMany ob_calledOn ob_saved ob_many ob_width ob_numbers ob_moving), (ce_i9080 y ob_world fob_world), (ce_i27240 y ob_images fob_images), (ce_z3 y ob_hasImage fob_hasImage)] sz)) 0 0 (va_A [(ce_X10 ob ob_thrown ob_world ob_images ob_hasImage ob_tape ob_taped ob_five ob_size ob_at ob_from ob_token ob_value ob_faultKind ob_faultPlace ob_fresh ob_parts ob_houses ob_houseMany ob_worthOf ob_byCall ob_over ob_bestSet ob_bestOver ob_bestWorth ob_row ob_tenDebts ob_tenMany ob_fewestBy ob_covered ob_queue ob_cameBy ob_parent ob_met ob_calls ob_callMany ob_calledOn ob_saved ob_many ob_width ob_numbers ob_moving), (ce_i9080 y ob_world fob_world), (ce_i27240 y ob_images fob_images), (ce_z3 y ob_hasImage fob_hasImage)] sz) := by
  refine Met.ofW (cc := cX10_back) (maxL := 3) (ret := (some .int)) (by decide) rfl ?_
  intro p e s m args below meth c s₁ B hml hv
  obtain ⟨rfl, hsz, hP, hK, hD0⟩ := hv
  have hx := B.exec
  have hb := B.bytes
  have hr := B.returns
  have hw0 : ∀ w ∈ wAll, w.before _ s = true := fun w h => atoms_spec (ws := Cond.code yX10_back cX10_back 3 (some .int) :: wAll) B.pre w (List.mem_cons_of_mem _ h)
  have hown : s.vm.findClass RX10 = some m.cls := findClass_of_methodNamed B.named
  subst hsz
  have hD := hD0.self (sz := s.heap.size)
  generalize hAe : va_A [(ce_X10 ob ob_thrown ob_world ob_images ob_hasImage ob_tape ob_taped ob_five ob_size ob_at ob_from ob_token ob_value ob_faultKind ob_faultPlace ob_fresh ob_parts ob_houses ob_houseMany ob_worthOf ob_byCall ob_over ob_bestSet ob_bestOver ob_bestWorth ob_row ob_tenDebts ob_tenMany ob_fewestBy ob_covered ob_queue ob_cameBy ob_parent ob_met ob_calls ob_callMany ob_calledOn ob_saved ob_many ob_width ob_numbers ob_moving), (ce_i9080 y ob_world fob_world), (ce_i27240 y ob_images fob_images), (ce_z3 y ob_hasImage fob_hasImage)] s.heap.size = A at hD ⊢
  have hA : ∀ q : Nat, s.heap.size ≤ q → A q := fun q h => by rw [← hAe]; exact Or.inr h
  have hS : va_S A s.heap s.heap [] := va_S.rf
  have hP : va_P G vwCl [(ce_X10 ob ob_thrown ob_world ob_images ob_hasImage ob_tape ob_taped ob_five ob_size ob_at ob_from ob_token ob_value ob_faultKind ob_faultPlace ob_fresh ob_parts ob_houses ob_houseMany ob_worthOf ob_byCall ob_over ob_bestSet ob_bestOver ob_bestWorth ob_row ob_tenDebts ob_tenMany ob_fewestBy ob_covered ob_queue ob_cameBy ob_parent ob_met ob_calls ob_callMany ob_calledOn ob_saved ob_many ob_width ob_numbers ob_moving), (ce_i9080 y ob_world fob_world), (ce_i27240 y ob_images fob_images), (ce_z3 y ob_hasImage fob_hasImage)] s.heap := hP
  have hl := lv_entry ([.ref ob, .int 0]) (n := 3) (Nat.le_of_ble_eq_true rfl)
  rw [lg_entry_eq]
  generalize (lg_sl ([.ref ob, .int 0]) ++ List.replicate (3 - (lg_sl ([.ref ob, .int 0])).length) Slot.unset).toArray = ls at hl ⊢
  have hl : lv_has ls 3 [(0, .ref ob), (1, .int 0)] := hl
  refine lv_iload_n hx hb dX10_back_0 rfl (lv_at hl 1 rfl) ?_
  refine lv_i2l (v := 0) hx hb dX10_back_1 (by decide) ?_
  refine lv_lconst (v := 0) hx hb dX10_back_2 (by decide) ?_
  refine lv_ldc2 (own := RX10) (v := 2) hx hb hown (hw0 _ m_360) dX10_back_3 ?_
  refine cSim (As := [.long 0, .long 0, .long 2]) (rest := []) ⟨hx, hb, hml, hown, hw0⟩ hA hK hP hD hS [] (sX10_in l G y _ 0 0 2 ) rfl ⟨(callB_of 3 hw0 (gA m_516) rfl rfl rfl (hw0 _ m_41) (hw0 _ m_345) cb_X10_in ⟨Nat.le_of_ble_eq_true rfl, Nat.le_of_ble_eq_true rfl⟩), (hw0 _ m_346)⟩ rfl hl.1 (Nat.le_of_ble_eq_true rfl) dX10_back_6 ⟨Nat.le_of_ble_eq_true rfl, Nat.le_of_ble_eq_true rfl⟩ (fun r_1001 w_1001 H locs hw_1001 hP hD hS => ?_)
  rcases hw_1001 with ⟨h_1002, rfl, rfl⟩ | ⟨h_1003, rfl, rfl⟩
  · skip
    have h_1004 : 0 < (0 : Int) ∨ (2 : Int) < 0 := in_n h_1002 (by decide) (by decide) (by decide)
    omega
  · skip
    have h_1005 : (0 : Int) ≤ 0 ∧ 0 ≤ (2 : Int) := in_y h_1003 (by decide) (by decide) (by decide)
    obtain ⟨hP, hD⟩ : vPD G A H [(ce_X10 ob ob_thrown ob_world ob_images ob_hasImage ob_tape ob_taped ob_five ob_size ob_at ob_from ob_token ob_value ob_faultKind ob_faultPlace ob_fresh ob_parts ob_houses ob_houseMany ob_worthOf ob_byCall ob_over ob_bestSet ob_bestOver ob_bestWorth ob_row ob_tenDebts ob_tenMany ob_fewestBy ob_covered ob_queue ob_cameBy ob_parent ob_met ob_calls ob_callMany ob_calledOn ob_saved ob_many ob_width ob_numbers ob_moving), (ce_i9080 y ob_world fob_world), (ce_i27240 y ob_images fob_images), (ce_z3 y ob_hasImage fob_hasImage)] := ⟨hP, hD⟩
    refine lv_if_ne (tgt := 15) hx hb dX10_back_9 (by decide) (fun _ => ?_) (fun c9 => absurd c9 (by decide))
    refine lv_aload_n hx hb dX10_back_15 rfl (lv_at hl 0 rfl) ?_
    refine va_get (D := G) (ci := 10) (v := .ref ob_hasImage) (C := RX10) (T := TX10) (N := 41) hx hb hw0 inA_wsX100 hown hK.1 hP 0 rfl rfl 3 (by decide) (hw0 _ m_361) (fun _ h9 => h9) rfl dX10_back_16 ?_
    refine lv_iload_n hx hb dX10_back_19 rfl (lv_at hl 1 rfl) ?_
    refine va_zald hx hb hK.1 hP 3 3 rfl rfl (vi (bkc (x := 0) (c := 0) (by decide)) (by decide)) dX10_back_20 ?_
    refine lv_topi (fun v_1006 ev_1006 => ?_)
    have bv_1006 : (0 : Int) ≤ v_1006.toInt ∧ v_1006.toInt ≤ 1 := rd_b ev_1006 p_fob_hasImage
    have yv_1006 : v_1006.toInt = (fob_hasImage 0).toInt := congrArg Int32.toInt ev_1006
    refine lv_if_ne (tgt := 27) hx hb dX10_back_21 (by decide) (fun c_1007 => ?_) (fun c_1007 => ?_)
    · skip
      have nc_1007 := nb_ne (1) (1) c_1007 bv_1006 (k := 0) (by decide) (by decide)
      refine lv_iconst (v := 0) hx hb dX10_back_27 (by decide) ?_
      refine lv_istore_n (lv' := [(2, .int 0), (0, .ref ob), (1, .int 0)]) hx hb dX10_back_28 rfl hl (by decide) rfl (fun ls hl => ?_)
      refine loopX (fun n H locs ls st => ∃ (v_1091 : Int32) (f_1092 : Nat → Int32), (9080 - v_1091.toInt).toNat = n ∧ ((0 : Int) ≤ v_1091.toInt ∧ v_1091.toInt ≤ 9080) ∧ (cpR f_1092 fob_world fob_images 0 0 0 v_1091.toInt) ∧ st = [] ∧ vPD G A H [(ce_X10 ob ob_thrown ob_world ob_images ob_hasImage ob_tape ob_taped ob_five ob_size ob_at ob_from ob_token ob_value ob_faultKind ob_faultPlace ob_fresh ob_parts ob_houses ob_houseMany ob_worthOf ob_byCall ob_over ob_bestSet ob_bestOver ob_bestWorth ob_row ob_tenDebts ob_tenMany ob_fewestBy ob_covered ob_queue ob_cameBy ob_parent ob_met ob_calls ob_callMany ob_calledOn ob_saved ob_many ob_width ob_numbers ob_moving), (ce_i9080 y ob_world f_1092), (ce_i27240 y ob_images fob_images), (ce_z3 y ob_hasImage fob_hasImage)] ∧ va_S A s.heap H locs ∧ lv_has ls 3 [(2, .int v_1091), (0, .ref ob), (1, .int 0)]) ?_ (n := (9080 - (0 : Int32).toInt).toNat) ⟨0, fob_world, rfl, (bw (0) (9080) (bkc (x := 0) (c := 0) (by decide)) (by decide)), (cp_0 (by have h90 : Int32.toInt 0 = 0 := (by decide); omega)), rfl, ⟨hP, hD⟩, hS, lv_sub hl [0, 1, 2] rfl⟩
      rintro n ih_1098 H locs ls st ⟨v_1091, f_1092, hn_1098, bv_1091, rl1092_0, rfl, ⟨hP, hD⟩, hS, hl⟩
      refine lv_iload_n hx hb dX10_back_29 rfl (lv_at hl 0 rfl) ?_
      refine lv_sipush (v := 9080) hx hb dX10_back_30 (by decide) ?_
      refine lv_icmp_ge (tgt := 60) hx hb dX10_back_33 (by decide) (fun c_1099 => ?_) (fun c_1099 => ?_)
      · skip
        have nc_1099 := nb_le (9080) (9080) c_1099 (bkc (x := 9080) (c := 9080) (by decide)) bv_1091 (by decide)
        have kf_1092 : RWw f_1092 := RW_back rl1092_0 (by omega) (RI_at p_fob_images 0 (by decide))
        refine lv_iconst (v := 0) hx hb dX10_back_60 (by decide) ?_
        exact W.iret (v := 0) hx hb hr (fun t ht hW => ⟨⟨0, _, rfl, Or.inr (⟨f_1092, kf_1092, by have h90 : Int32.toInt 0 = 0 := (by decide); omega, rfl, rfl⟩), by rw [ht]; exact hP, hD⟩, hS.F ht⟩) hS.2.2 dX10_back_61
      · skip
        have nc_1099 := nb_nle (9079) (9080) c_1099 bv_1091 (bkc (x := 9080) (c := 9080) (by decide)) (by decide)
        refine lv_aload_n hx hb dX10_back_36 rfl (lv_at hl 1 rfl) ?_
        refine va_get (D := G) (ci := 10) (v := .ref ob_world) (C := RX10) (T := TX10) (N := 41) hx hb hw0 inA_wsX100 hown hK.1 hP 0 rfl rfl 1 (by decide) (hw0 _ m_352) (fun _ h9 => h9) rfl dX10_back_37 ?_
        refine lv_iload_n hx hb dX10_back_40 rfl (lv_at hl 0 rfl) ?_
        refine lv_aload_n hx hb dX10_back_41 rfl (lv_at hl 1 rfl) ?_
        refine va_get (D := G) (ci := 10) (v := .ref ob_images) (C := RX10) (T := TX10) (N := 41) hx hb hw0 inA_wsX100 hown hK.1 hP 0 rfl rfl 2 (by decide) (hw0 _ m_362) (fun _ h9 => h9) rfl dX10_back_42 ?_
        refine lv_sipush (v := 9080) hx hb dX10_back_45 (by decide) ?_
        refine lv_iload_n hx hb dX10_back_48 rfl (lv_at hl 2 rfl) ?_
        refine lv_imul hx hb dX10_back_49 ?_
        refine lv_topi (fun v_1100 ev_1100 => ?_)
        obtain rfl : 0 = v_1100 := (ev_1100.trans (by decide)).symm
        refine lv_iload_n hx hb dX10_back_50 rfl (lv_at hl 0 rfl) ?_
        refine lv_iadd hx hb dX10_back_51 ?_
        refine lv_topi (fun v_1101 ev_1101 => ?_)
        have qv_1101 := ba_add ev_1101 (bkc (x := 0) (c := 0) (by decide)) nc_1099.1 (by decide)
        have bv_1101 : (0 : Int) ≤ v_1101.toInt ∧ v_1101.toInt ≤ 9079 := bq_add qv_1101 (bkc (x := 0) (c := 0) (by decide)) nc_1099.1 _ _ (by decide)
        have qv_1101 : v_1101.toInt = (0) + v_1091.toInt := qv_1101
        refine va_iald hx hb hK.1 hP 2 1 rfl rfl (vi bv_1101 (by decide)) dX10_back_52 ?_
        refine lv_topi (fun v_1102 ev_1102 => ?_)
        refine va_iast hx hb hK.1 hP hD hS 1 1 rfl rfl (vi nc_1099.1 (by decide)) dX10_back_53 (fun H locs hP hD hS => ?_)
        generalize hf_1103 : (upd f_1092 (v_1091 : Int32).toNatClampNeg v_1102) = f_1103 at hP hD
        obtain ⟨hP, hD⟩ : vPD G A H [(ce_X10 ob ob_thrown ob_world ob_images ob_hasImage ob_tape ob_taped ob_five ob_size ob_at ob_from ob_token ob_value ob_faultKind ob_faultPlace ob_fresh ob_parts ob_houses ob_houseMany ob_worthOf ob_byCall ob_over ob_bestSet ob_bestOver ob_bestWorth ob_row ob_tenDebts ob_tenMany ob_fewestBy ob_covered ob_queue ob_cameBy ob_parent ob_met ob_calls ob_callMany ob_calledOn ob_saved ob_many ob_width ob_numbers ob_moving), (ce_i9080 y ob_world f_1103), (ce_i27240 y ob_images fob_images), (ce_z3 y ob_hasImage fob_hasImage)] := ⟨hP, hD⟩
        obtain ⟨v_1104, ev_1104⟩ : ∃ z : Int32, z = v_1091 + 1 := ⟨_, rfl⟩
        have qv_1104 := ba_add ev_1104 nc_1099.1 (bkc (x := 1) (c := 1) (by decide)) (by decide)
        have bv_1104 : (1 : Int) ≤ v_1104.toInt ∧ v_1104.toInt ≤ 9080 := bq_add qv_1104 nc_1099.1 (bkc (x := 1) (c := 1) (by decide)) _ _ (by decide)
        have qv_1104 : v_1104.toInt = v_1091.toInt + (1) := qv_1104
        refine lv_iinc (v := v_1104) (lv' := [(2, .int v_1104), (0, .ref ob), (1, .int 0)]) hx hb dX10_back_54 hl (k := 0) rfl (ev_1104.symm) (by decide) rfl (fun ls hl => ?_)
        refine lv_goto (tgt := 29) hx hb dX10_back_57 (by decide) ?_
        exact ih_1098 _ (ml_inc (hi := 9080) hn_1098 qv_1104 (by decide) ((bw (0) (9080) bv_1104 (by decide))).2) _ _ _ _ ⟨v_1104, f_1103, rfl, (bw (0) (9080) bv_1104 (by decide)), (cp_s rl1092_0 hf_1103 ev_1102 ((cl_to (by omega)).trans (by omega)) ((cl_to (by omega)).trans (by omega)) (by omega) (by omega)), rfl, ⟨hP, hD⟩, hS, lv_sub hl [0, 1, 2] rfl⟩
    · skip
      have nc_1007 := nb_eq (0) (0) c_1007 bv_1006 (bkc (x := 0) (c := 0) (by decide)) (by decide)
      refine lv_bipush (v := (-6)) hx hb dX10_back_24 (by decide) ?_
      exact W.iret (v := (-6)) hx hb hr (fun t ht hW => ⟨⟨(-6), _, rfl, Or.inl (⟨by have h90 : Int32.toInt (-6) = -6 := (by decide); have h91 : Int32.toInt 0 = 0 := (by decide); omega, rfl, rfl⟩), by rw [ht]; exact hP, hD⟩, hS.F ht⟩) hS.2.2 dX10_back_26

set_option maxHeartbeats 4000000 in
set_option maxRecDepth 100000 in
theorem fkeepM1 (l : Launch) (G : va_G) (y : Nat → ClassId) (sz : Nat) (ob : Nat) (ob_thrown : Int32) (ob_world : Nat) (ob_images : Nat) (ob_hasImage : Nat) (ob_tape : Nat) (ob_taped : Int32) (ob_five : Nat) (ob_size : Int32) (ob_at : Int32) (ob_from : Int32) (ob_token : Int32) (ob_value : Int32) (ob_faultKind : Int32) (ob_faultPlace : Int32) (ob_fresh : Nat) (ob_parts : Nat) (ob_houses : Nat) (ob_houseMany : Int32) (ob_worthOf : Nat) (ob_byCall : Nat) (ob_over : Nat) (ob_bestSet : Int32) (ob_bestOver : Int32) (ob_bestWorth : Int32) (ob_row : Nat) (ob_tenDebts : Nat) (ob_tenMany : Int32) (ob_fewestBy : Nat) (ob_covered : Nat) (ob_queue : Nat) (ob_cameBy : Nat) (ob_parent : Nat) (ob_met : Nat) (ob_calls : Nat) (ob_callMany : Int32) (ob_calledOn : Nat) (ob_saved : Nat) (ob_many : Nat) (ob_width : Nat) (ob_numbers : Nat) (ob_moving : Nat) (fob_world : Nat → Int32) (fob_images : Nat → Int32) (fob_hasImage : Nat → Int32) (p_fob_world : RWw fob_world) (p_fob_images : RIw fob_images) (p_fob_hasImage : ∀ i, (0 : Int) ≤ (fob_hasImage i).toInt ∧ (fob_hasImage i).toInt ≤ 1) (p_ob_taped : (0 : Int) ≤ ob_taped.toInt ∧ ob_taped.toInt ≤ 1400) (p_ob_size : (0 : Int) ≤ ob_size.toInt ∧ ob_size.toInt ≤ 1400) (p_ob_at : (0 : Int) ≤ ob_at.toInt ∧ ob_at.toInt ≤ 1400) (p_ob_from : (0 : Int) ≤ ob_from.toInt ∧ ob_from.toInt ≤ 1400) (p_ob_token : (0 : Int) ≤ ob_token.toInt ∧ ob_token.toInt ≤ 4) (p_ob_value : (0 : Int) ≤ ob_value.toInt ∧ ob_value.toInt ≤ 9999) (p_ob_faultKind : (0 : Int) ≤ ob_faultKind.toInt ∧ ob_faultKind.toInt ≤ 3) (p_ob_houseMany : (0 : Int) ≤ ob_houseMany.toInt ∧ ob_houseMany.toInt ≤ 10) (p_ob_bestSet : (0 : Int) ≤ ob_bestSet.toInt ∧ ob_bestSet.toInt ≤ 1023) (p_ob_bestOver : (-1 : Int) ≤ ob_bestOver.toInt ∧ ob_bestOver.toInt ≤ 180) (p_ob_tenMany : (0 : Int) ≤ ob_tenMany.toInt ∧ ob_tenMany.toInt ≤ 10) (p_ob_callMany : (0 : Int) ≤ ob_callMany.toInt ∧ ob_callMany.toInt ≤ 16) : Met l yX10_keep (Cond.code yX10_keep cX10_keep 3 (some .int) :: wAll) ({ frames := 1, cells := 0, slots := 0, locals := 25 }) (va_Pc [.ref ob, .int 1] (kp G y sz [(ce_X10 ob ob_thrown ob_world ob_images ob_hasImage ob_tape ob_taped ob_five ob_size ob_at ob_from ob_token ob_value ob_faultKind ob_faultPlace ob_fresh ob_parts ob_houses ob_houseMany ob_worthOf ob_byCall ob_over ob_bestSet ob_bestOver ob_bestWorth ob_row ob_tenDebts ob_tenMany ob_fewestBy ob_covered ob_queue ob_cameBy ob_parent ob_met ob_calls ob_callMany ob_calledOn ob_saved ob_many ob_width ob_numbers ob_moving), (ce_i9080 y ob_world fob_world), (ce_i27240 y ob_images fob_images), (ce_z3 y ob_hasImage fob_hasImage)])) (va_Qi (fun (r : Int32) (w : va_W) => (∃ (f_207 : Nat → Int32) (f_208 : Nat → Int32), (RIw f_207) ∧ (∀ i, (0 : Int) ≤ (f_208 i).toInt ∧ (f_208 i).toInt ≤ 1) ∧ ((f_208 0).toInt = (fob_hasImage 0).toInt) ∧ ((f_208 1).toInt = 1) ∧ ((f_208 2).toInt = (fob_hasImage 2).toInt) ∧ r = 0 ∧ w = [(ce_X10 ob ob_thrown ob_world ob_images ob_hasImage ob_tape ob_taped ob_five ob_size ob_at ob_from ob_token ob_value ob_faultKind ob_faultPlace ob_fresh ob_parts ob_houses ob_houseMany ob_worthOf ob_byCall ob_over ob_bestSet ob_bestOver ob_bestWorth ob_row ob_tenDebts ob_tenMany ob_fewestBy ob_covered ob_queue ob_cameBy ob_parent ob_met ob_calls ob_callMany ob_calledOn ob_saved ob_many ob_width ob_numbers ob_moving), (ce_i9080 y ob_world fob_world), (ce_i27240 y ob_images f_207), (ce_z3 y ob_hasImage f_208)])) (kq G (va_A [(ce_X10 ob ob_thrown ob_world ob_images ob_hasImage ob_tape ob_taped ob_five ob_size ob_at ob_from ob_token ob_value ob_faultKind ob_faultPlace ob_fresh ob_parts ob_houses ob_houseMany ob_worthOf ob_byCall ob_over ob_bestSet ob_bestOver ob_bestWorth ob_row ob_tenDebts ob_tenMany ob_fewestBy ob_covered ob_queue ob_cameBy ob_parent ob_met ob_calls ob_callMany ob_calledOn ob_saved ob_many ob_width ob_numbers ob_moving), (ce_i9080 y ob_world fob_world), (ce_i27240 y ob_images fob_images), (ce_z3 y ob_hasImage fob_hasImage)] sz)) (va_A [(ce_X10 ob ob_thrown ob_world ob_images ob_hasImage ob_tape ob_taped ob_five ob_size ob_at ob_from ob_token ob_value ob_faultKind ob_faultPlace ob_fresh ob_parts ob_houses ob_houseMany ob_worthOf ob_byCall ob_over ob_bestSet ob_bestOver ob_bestWorth ob_row ob_tenDebts ob_tenMany ob_fewestBy ob_covered ob_queue ob_cameBy ob_parent ob_met ob_calls ob_callMany ob_calledOn ob_saved ob_many ob_width ob_numbers ob_moving), (ce_i9080 y ob_world fob_world), (ce_i27240 y ob_images fob_images), (ce_z3 y ob_hasImage fob_hasImage)] sz)) 0 0 (va_A [(ce_X10 ob ob_thrown ob_world ob_images ob_hasImage ob_tape ob_taped ob_five ob_size ob_at ob_from ob_token ob_value ob_faultKind ob_faultPlace ob_fresh ob_parts ob_houses ob_houseMany ob_worthOf ob_byCall ob_over ob_bestSet ob_bestOver ob_bestWorth ob_row ob_tenDebts ob_tenMany ob_fewestBy ob_covered ob_queue ob_cameBy ob_parent ob_met ob_calls ob_callMany ob_calledOn ob_saved ob_many ob_width ob_numbers ob_moving), (ce_i9080 y ob_world fob_world), (ce_i27240 y ob_images fob_images), (ce_z3 y ob_hasImage fob_hasImage)] sz) := by
  refine Met.ofW (cc := cX10_keep) (maxL := 3) (ret := (some .int)) (by decide) rfl ?_
  intro p e s m args below meth c s₁ B hml hv
  obtain ⟨rfl, hsz, hP, hK, hD0⟩ := hv
  have hx := B.exec
  have hb := B.bytes
  have hr := B.returns
  have hw0 : ∀ w ∈ wAll, w.before _ s = true := fun w h => atoms_spec (ws := Cond.code yX10_keep cX10_keep 3 (some .int) :: wAll) B.pre w (List.mem_cons_of_mem _ h)
  have hown : s.vm.findClass RX10 = some m.cls := findClass_of_methodNamed B.named
  subst hsz
  have hD := hD0.self (sz := s.heap.size)
  generalize hAe : va_A [(ce_X10 ob ob_thrown ob_world ob_images ob_hasImage ob_tape ob_taped ob_five ob_size ob_at ob_from ob_token ob_value ob_faultKind ob_faultPlace ob_fresh ob_parts ob_houses ob_houseMany ob_worthOf ob_byCall ob_over ob_bestSet ob_bestOver ob_bestWorth ob_row ob_tenDebts ob_tenMany ob_fewestBy ob_covered ob_queue ob_cameBy ob_parent ob_met ob_calls ob_callMany ob_calledOn ob_saved ob_many ob_width ob_numbers ob_moving), (ce_i9080 y ob_world fob_world), (ce_i27240 y ob_images fob_images), (ce_z3 y ob_hasImage fob_hasImage)] s.heap.size = A at hD ⊢
  have hA : ∀ q : Nat, s.heap.size ≤ q → A q := fun q h => by rw [← hAe]; exact Or.inr h
  have hS : va_S A s.heap s.heap [] := va_S.rf
  have hP : va_P G vwCl [(ce_X10 ob ob_thrown ob_world ob_images ob_hasImage ob_tape ob_taped ob_five ob_size ob_at ob_from ob_token ob_value ob_faultKind ob_faultPlace ob_fresh ob_parts ob_houses ob_houseMany ob_worthOf ob_byCall ob_over ob_bestSet ob_bestOver ob_bestWorth ob_row ob_tenDebts ob_tenMany ob_fewestBy ob_covered ob_queue ob_cameBy ob_parent ob_met ob_calls ob_callMany ob_calledOn ob_saved ob_many ob_width ob_numbers ob_moving), (ce_i9080 y ob_world fob_world), (ce_i27240 y ob_images fob_images), (ce_z3 y ob_hasImage fob_hasImage)] s.heap := hP
  have hl := lv_entry ([.ref ob, .int 1]) (n := 3) (Nat.le_of_ble_eq_true rfl)
  rw [lg_entry_eq]
  generalize (lg_sl ([.ref ob, .int 1]) ++ List.replicate (3 - (lg_sl ([.ref ob, .int 1])).length) Slot.unset).toArray = ls at hl ⊢
  have hl : lv_has ls 3 [(0, .ref ob), (1, .int 1)] := hl
  refine lv_iload_n hx hb dX10_keep_0 rfl (lv_at hl 1 rfl) ?_
  refine lv_i2l (v := 1) hx hb dX10_keep_1 (by decide) ?_
  refine lv_lconst (v := 0) hx hb dX10_keep_2 (by decide) ?_
  refine lv_ldc2 (own := RX10) (v := 2) hx hb hown (hw0 _ m_360) dX10_keep_3 ?_
  refine cSim (As := [.long 1, .long 0, .long 2]) (rest := []) ⟨hx, hb, hml, hown, hw0⟩ hA hK hP hD hS [] (sX10_in l G y _ 1 0 2 ) rfl ⟨(callB_of 3 hw0 (gA m_516) rfl rfl rfl (hw0 _ m_41) (hw0 _ m_345) cb_X10_in ⟨Nat.le_of_ble_eq_true rfl, Nat.le_of_ble_eq_true rfl⟩), (hw0 _ m_346)⟩ rfl hl.1 (Nat.le_of_ble_eq_true rfl) dX10_keep_6 ⟨Nat.le_of_ble_eq_true rfl, Nat.le_of_ble_eq_true rfl⟩ (fun r_1001 w_1001 H locs hw_1001 hP hD hS => ?_)
  rcases hw_1001 with ⟨h_1002, rfl, rfl⟩ | ⟨h_1003, rfl, rfl⟩
  · skip
    have h_1004 : 1 < (0 : Int) ∨ (2 : Int) < 1 := in_n h_1002 (by decide) (by decide) (by decide)
    omega
  · skip
    have h_1005 : (0 : Int) ≤ 1 ∧ 1 ≤ (2 : Int) := in_y h_1003 (by decide) (by decide) (by decide)
    obtain ⟨hP, hD⟩ : vPD G A H [(ce_X10 ob ob_thrown ob_world ob_images ob_hasImage ob_tape ob_taped ob_five ob_size ob_at ob_from ob_token ob_value ob_faultKind ob_faultPlace ob_fresh ob_parts ob_houses ob_houseMany ob_worthOf ob_byCall ob_over ob_bestSet ob_bestOver ob_bestWorth ob_row ob_tenDebts ob_tenMany ob_fewestBy ob_covered ob_queue ob_cameBy ob_parent ob_met ob_calls ob_callMany ob_calledOn ob_saved ob_many ob_width ob_numbers ob_moving), (ce_i9080 y ob_world fob_world), (ce_i27240 y ob_images fob_images), (ce_z3 y ob_hasImage fob_hasImage)] := ⟨hP, hD⟩
    refine lv_if_ne (tgt := 15) hx hb dX10_keep_9 (by decide) (fun _ => ?_) (fun c9 => absurd c9 (by decide))
    refine lv_iconst (v := 0) hx hb dX10_keep_15 (by decide) ?_
    refine lv_istore_n (lv' := [(2, .int 0), (0, .ref ob), (1, .int 1)]) hx hb dX10_keep_16 rfl hl (by decide) rfl (fun ls hl => ?_)
    refine loopX (fun n H locs ls st => ∃ (v_1089 : Int32) (f_1090 : Nat → Int32), (9080 - v_1089.toInt).toNat = n ∧ ((0 : Int) ≤ v_1089.toInt ∧ v_1089.toInt ≤ 9080) ∧ (cpR f_1090 fob_images fob_world 9080 0 0 v_1089.toInt) ∧ st = [] ∧ vPD G A H [(ce_X10 ob ob_thrown ob_world ob_images ob_hasImage ob_tape ob_taped ob_five ob_size ob_at ob_from ob_token ob_value ob_faultKind ob_faultPlace ob_fresh ob_parts ob_houses ob_houseMany ob_worthOf ob_byCall ob_over ob_bestSet ob_bestOver ob_bestWorth ob_row ob_tenDebts ob_tenMany ob_fewestBy ob_covered ob_queue ob_cameBy ob_parent ob_met ob_calls ob_callMany ob_calledOn ob_saved ob_many ob_width ob_numbers ob_moving), (ce_i9080 y ob_world fob_world), (ce_i27240 y ob_images f_1090), (ce_z3 y ob_hasImage fob_hasImage)] ∧ va_S A s.heap H locs ∧ lv_has ls 3 [(2, .int v_1089), (0, .ref ob), (1, .int 1)]) ?_ (n := (9080 - (0 : Int32).toInt).toNat) ⟨0, fob_images, rfl, (bw (0) (9080) (bkc (x := 0) (c := 0) (by decide)) (by decide)), (cp_0 (by have h90 : Int32.toInt 0 = 0 := (by decide); have h91 : Int32.toInt 1 = 1 := (by decide); omega)), rfl, ⟨hP, hD⟩, hS, lv_sub hl [0, 1, 2] rfl⟩
    rintro n ih_1096 H locs ls st ⟨v_1089, f_1090, hn_1096, bv_1089, rl1090_0, rfl, ⟨hP, hD⟩, hS, hl⟩
    refine lv_iload_n hx hb dX10_keep_17 rfl (lv_at hl 0 rfl) ?_
    refine lv_sipush (v := 9080) hx hb dX10_keep_18 (by decide) ?_
    refine lv_icmp_ge (tgt := 48) hx hb dX10_keep_21 (by decide) (fun c_1097 => ?_) (fun c_1097 => ?_)
    · skip
      have nc_1097 := nb_le (9080) (9080) c_1097 (bkc (x := 9080) (c := 9080) (by decide)) bv_1089 (by decide)
      have kf_1090 : RIw f_1090 := RI_keep (k := 1) rl1090_0 (by omega) p_fob_world p_fob_images
      refine lv_aload_n hx hb dX10_keep_48 rfl (lv_at hl 1 rfl) ?_
      refine va_get (D := G) (ci := 10) (v := .ref ob_hasImage) (C := RX10) (T := TX10) (N := 41) hx hb hw0 inA_wsX100 hown hK.1 hP 0 rfl rfl 3 (by decide) (hw0 _ m_361) (fun _ h9 => h9) rfl dX10_keep_49 ?_
      refine lv_iload_n hx hb dX10_keep_52 rfl (lv_at hl 2 rfl) ?_
      refine lv_iconst (v := 1) hx hb dX10_keep_53 (by decide) ?_
      refine va_zast hx hb hK.1 hP hD hS 3 3 rfl rfl (vi (bkc (x := 1) (c := 1) (by decide)) (by decide)) dX10_keep_54 (fun H locs hP hD hS => ?_)
      generalize hf_1098 : (upd fob_hasImage (1 : Int32).toNatClampNeg (vp_nar .boolean 1)) = f_1098 at hP hD
      have bf_1098 : ∀ i, (0 : Int) ≤ (f_1098 i).toInt ∧ (f_1098 i).toInt ≤ 1 := hf_1098 ▸ up_z p_fob_hasImage (bw (0) (1) (bkc (x := 1) (c := 1) (by decide)) (by decide))
      have zf_1098_0 : (f_1098 0).toInt = (fob_hasImage 0).toInt := hf_1098 ▸ pin_ne (ix_not (bkc (x := 1) (c := 1) (by decide)) (by decide))
      have zf_1098_1 : (f_1098 1).toInt = 1 := by rw [← hf_1098]; exact (pin_eq (by decide)).trans (by decide)
      have zf_1098_2 : (f_1098 2).toInt = (fob_hasImage 2).toInt := hf_1098 ▸ pin_ne (ix_not (bkc (x := 1) (c := 1) (by decide)) (by decide))
      obtain ⟨hP, hD⟩ : vPD G A H [(ce_X10 ob ob_thrown ob_world ob_images ob_hasImage ob_tape ob_taped ob_five ob_size ob_at ob_from ob_token ob_value ob_faultKind ob_faultPlace ob_fresh ob_parts ob_houses ob_houseMany ob_worthOf ob_byCall ob_over ob_bestSet ob_bestOver ob_bestWorth ob_row ob_tenDebts ob_tenMany ob_fewestBy ob_covered ob_queue ob_cameBy ob_parent ob_met ob_calls ob_callMany ob_calledOn ob_saved ob_many ob_width ob_numbers ob_moving), (ce_i9080 y ob_world fob_world), (ce_i27240 y ob_images f_1090), (ce_z3 y ob_hasImage f_1098)] := ⟨hP, hD⟩
      refine lv_iconst (v := 0) hx hb dX10_keep_55 (by decide) ?_
      exact W.iret (v := 0) hx hb hr (fun t ht hW => ⟨⟨0, _, rfl, ⟨f_1090, f_1098, kf_1090, bf_1098, by have h90 : Int32.toInt 0 = 0 := (by decide); have h91 : Int32.toInt 1 = 1 := (by decide); omega, by have h90 : Int32.toInt 0 = 0 := (by decide); have h91 : Int32.toInt 1 = 1 := (by decide); omega, by have h90 : Int32.toInt 0 = 0 := (by decide); have h91 : Int32.toInt 1 = 1 := (by decide); omega, rfl, rfl⟩, by rw [ht]; exact hP, hD⟩, hS.F ht⟩) hS.2.2 dX10_keep_56
    · skip
      have nc_1097 := nb_nle (9079) (9080) c_1097 bv_1089 (bkc (x := 9080) (c := 9080) (by decide)) (by decide)
      refine lv_aload_n hx hb dX10_keep_24 rfl (lv_at hl 1 rfl) ?_
      refine va_get (D := G) (ci := 10) (v := .ref ob_images) (C := RX10) (T := TX10) (N := 41) hx hb hw0 inA_wsX100 hown hK.1 hP 0 rfl rfl 2 (by decide) (hw0 _ m_362) (fun _ h9 => h9) rfl dX10_keep_25 ?_
      refine lv_sipush (v := 9080) hx hb dX10_keep_28 (by decide) ?_
      refine lv_iload_n hx hb dX10_keep_31 rfl (lv_at hl 2 rfl) ?_
      refine lv_imul hx hb dX10_keep_32 ?_
      refine lv_topi (fun v_1099 ev_1099 => ?_)
      obtain rfl : 9080 = v_1099 := (ev_1099.trans (by decide)).symm
      refine lv_iload_n hx hb dX10_keep_33 rfl (lv_at hl 0 rfl) ?_
      refine lv_iadd hx hb dX10_keep_34 ?_
      refine lv_topi (fun v_1100 ev_1100 => ?_)
      have qv_1100 := ba_add ev_1100 (bkc (x := 9080) (c := 9080) (by decide)) nc_1097.1 (by decide)
      have bv_1100 : (9080 : Int) ≤ v_1100.toInt ∧ v_1100.toInt ≤ 18159 := bq_add qv_1100 (bkc (x := 9080) (c := 9080) (by decide)) nc_1097.1 _ _ (by decide)
      have qv_1100 : v_1100.toInt = (9080) + v_1089.toInt := qv_1100
      refine lv_aload_n hx hb dX10_keep_35 rfl (lv_at hl 1 rfl) ?_
      refine va_get (D := G) (ci := 10) (v := .ref ob_world) (C := RX10) (T := TX10) (N := 41) hx hb hw0 inA_wsX100 hown hK.1 hP 0 rfl rfl 1 (by decide) (hw0 _ m_352) (fun _ h9 => h9) rfl dX10_keep_36 ?_
      refine lv_iload_n hx hb dX10_keep_39 rfl (lv_at hl 0 rfl) ?_
      refine va_iald hx hb hK.1 hP 1 1 rfl rfl (vi nc_1097.1 (by decide)) dX10_keep_40 ?_
      refine lv_topi (fun v_1101 ev_1101 => ?_)
      refine va_iast hx hb hK.1 hP hD hS 2 1 rfl rfl (vi bv_1100 (by decide)) dX10_keep_41 (fun H locs hP hD hS => ?_)
      generalize hf_1102 : (upd f_1090 (v_1100 : Int32).toNatClampNeg v_1101) = f_1102 at hP hD
      obtain ⟨hP, hD⟩ : vPD G A H [(ce_X10 ob ob_thrown ob_world ob_images ob_hasImage ob_tape ob_taped ob_five ob_size ob_at ob_from ob_token ob_value ob_faultKind ob_faultPlace ob_fresh ob_parts ob_houses ob_houseMany ob_worthOf ob_byCall ob_over ob_bestSet ob_bestOver ob_bestWorth ob_row ob_tenDebts ob_tenMany ob_fewestBy ob_covered ob_queue ob_cameBy ob_parent ob_met ob_calls ob_callMany ob_calledOn ob_saved ob_many ob_width ob_numbers ob_moving), (ce_i9080 y ob_world fob_world), (ce_i27240 y ob_images f_1102), (ce_z3 y ob_hasImage fob_hasImage)] := ⟨hP, hD⟩
      obtain ⟨v_1103, ev_1103⟩ : ∃ z : Int32, z = v_1089 + 1 := ⟨_, rfl⟩
      have qv_1103 := ba_add ev_1103 nc_1097.1 (bkc (x := 1) (c := 1) (by decide)) (by decide)
      have bv_1103 : (1 : Int) ≤ v_1103.toInt ∧ v_1103.toInt ≤ 9080 := bq_add qv_1103 nc_1097.1 (bkc (x := 1) (c := 1) (by decide)) _ _ (by decide)
      have qv_1103 : v_1103.toInt = v_1089.toInt + (1) := qv_1103
      refine lv_iinc (v := v_1103) (lv' := [(2, .int v_1103), (0, .ref ob), (1, .int 1)]) hx hb dX10_keep_42 hl (k := 0) rfl (ev_1103.symm) (by decide) rfl (fun ls hl => ?_)
      refine lv_goto (tgt := 17) hx hb dX10_keep_45 (by decide) ?_
      exact ih_1096 _ (ml_inc (hi := 9080) hn_1096 qv_1103 (by decide) ((bw (0) (9080) bv_1103 (by decide))).2) _ _ _ _ ⟨v_1103, f_1102, rfl, (bw (0) (9080) bv_1103 (by decide)), (cp_s rl1090_0 hf_1102 ev_1101 ((cl_to (by omega)).trans (by omega)) ((cl_to (by omega)).trans (by omega)) (by omega) (by omega)), rfl, ⟨hP, hD⟩, hS, lv_sub hl [0, 1, 2] rfl⟩

set_option maxHeartbeats 4000000 in
set_option maxRecDepth 100000 in
theorem fbackM1 (l : Launch) (G : va_G) (y : Nat → ClassId) (sz : Nat) (ob : Nat) (ob_thrown : Int32) (ob_world : Nat) (ob_images : Nat) (ob_hasImage : Nat) (ob_tape : Nat) (ob_taped : Int32) (ob_five : Nat) (ob_size : Int32) (ob_at : Int32) (ob_from : Int32) (ob_token : Int32) (ob_value : Int32) (ob_faultKind : Int32) (ob_faultPlace : Int32) (ob_fresh : Nat) (ob_parts : Nat) (ob_houses : Nat) (ob_houseMany : Int32) (ob_worthOf : Nat) (ob_byCall : Nat) (ob_over : Nat) (ob_bestSet : Int32) (ob_bestOver : Int32) (ob_bestWorth : Int32) (ob_row : Nat) (ob_tenDebts : Nat) (ob_tenMany : Int32) (ob_fewestBy : Nat) (ob_covered : Nat) (ob_queue : Nat) (ob_cameBy : Nat) (ob_parent : Nat) (ob_met : Nat) (ob_calls : Nat) (ob_callMany : Int32) (ob_calledOn : Nat) (ob_saved : Nat) (ob_many : Nat) (ob_width : Nat) (ob_numbers : Nat) (ob_moving : Nat) (fob_world : Nat → Int32) (fob_images : Nat → Int32) (fob_hasImage : Nat → Int32) (p_fob_world : RWw fob_world) (p_fob_images : RIw fob_images) (p_fob_hasImage : ∀ i, (0 : Int) ≤ (fob_hasImage i).toInt ∧ (fob_hasImage i).toInt ≤ 1) (p_ob_taped : (0 : Int) ≤ ob_taped.toInt ∧ ob_taped.toInt ≤ 1400) (p_ob_size : (0 : Int) ≤ ob_size.toInt ∧ ob_size.toInt ≤ 1400) (p_ob_at : (0 : Int) ≤ ob_at.toInt ∧ ob_at.toInt ≤ 1400) (p_ob_from : (0 : Int) ≤ ob_from.toInt ∧ ob_from.toInt ≤ 1400) (p_ob_token : (0 : Int) ≤ ob_token.toInt ∧ ob_token.toInt ≤ 4) (p_ob_value : (0 : Int) ≤ ob_value.toInt ∧ ob_value.toInt ≤ 9999) (p_ob_faultKind : (0 : Int) ≤ ob_faultKind.toInt ∧ ob_faultKind.toInt ≤ 3) (p_ob_houseMany : (0 : Int) ≤ ob_houseMany.toInt ∧ ob_houseMany.toInt ≤ 10) (p_ob_bestSet : (0 : Int) ≤ ob_bestSet.toInt ∧ ob_bestSet.toInt ≤ 1023) (p_ob_bestOver : (-1 : Int) ≤ ob_bestOver.toInt ∧ ob_bestOver.toInt ≤ 180) (p_ob_tenMany : (0 : Int) ≤ ob_tenMany.toInt ∧ ob_tenMany.toInt ≤ 10) (p_ob_callMany : (0 : Int) ≤ ob_callMany.toInt ∧ ob_callMany.toInt ≤ 16) : Met l yX10_back (Cond.code yX10_back cX10_back 3 (some .int) :: wAll) ({ frames := 1, cells := 0, slots := 0, locals := 25 }) (va_Pc [.ref ob, .int 1] (kp G y sz [(ce_X10 ob ob_thrown ob_world ob_images ob_hasImage ob_tape ob_taped ob_five ob_size ob_at ob_from ob_token ob_value ob_faultKind ob_faultPlace ob_fresh ob_parts ob_houses ob_houseMany ob_worthOf ob_byCall ob_over ob_bestSet ob_bestOver ob_bestWorth ob_row ob_tenDebts ob_tenMany ob_fewestBy ob_covered ob_queue ob_cameBy ob_parent ob_met ob_calls ob_callMany ob_calledOn ob_saved ob_many ob_width ob_numbers ob_moving), (ce_i9080 y ob_world fob_world), (ce_i27240 y ob_images fob_images), (ce_z3 y ob_hasImage fob_hasImage)])) (va_Qi (fun (r : Int32) (w : va_W) => (((fob_hasImage 1).toInt = 0) ∧ r = (-6) ∧ w = [(ce_X10 ob ob_thrown ob_world ob_images ob_hasImage ob_tape ob_taped ob_five ob_size ob_at ob_from ob_token ob_value ob_faultKind ob_faultPlace ob_fresh ob_parts ob_houses ob_houseMany ob_worthOf ob_byCall ob_over ob_bestSet ob_bestOver ob_bestWorth ob_row ob_tenDebts ob_tenMany ob_fewestBy ob_covered ob_queue ob_cameBy ob_parent ob_met ob_calls ob_callMany ob_calledOn ob_saved ob_many ob_width ob_numbers ob_moving), (ce_i9080 y ob_world fob_world), (ce_i27240 y ob_images fob_images), (ce_z3 y ob_hasImage fob_hasImage)]) ∨ (∃ (f_209 : Nat → Int32), (RWw f_209) ∧ (¬ (fob_hasImage 1).toInt = 0) ∧ r = 0 ∧ w = [(ce_X10 ob ob_thrown ob_world ob_images ob_hasImage ob_tape ob_taped ob_five ob_size ob_at ob_from ob_token ob_value ob_faultKind ob_faultPlace ob_fresh ob_parts ob_houses ob_houseMany ob_worthOf ob_byCall ob_over ob_bestSet ob_bestOver ob_bestWorth ob_row ob_tenDebts ob_tenMany ob_fewestBy ob_covered ob_queue ob_cameBy ob_parent ob_met ob_calls ob_callMany ob_calledOn ob_saved ob_many ob_width ob_numbers ob_moving), (ce_i9080 y ob_world f_209), (ce_i27240 y ob_images fob_images), (ce_z3 y ob_hasImage fob_hasImage)])) (kq G (va_A [(ce_X10 ob ob_thrown ob_world ob_images ob_hasImage ob_tape ob_taped ob_five ob_size ob_at ob_from ob_token ob_value ob_faultKind ob_faultPlace ob_fresh ob_parts ob_houses ob_houseMany ob_worthOf ob_byCall ob_over ob_bestSet ob_bestOver ob_bestWorth ob_row ob_tenDebts ob_tenMany ob_fewestBy ob_covered ob_queue ob_cameBy ob_parent ob_met ob_calls ob_callMany ob_calledOn ob_saved ob_many ob_width ob_numbers ob_moving), (ce_i9080 y ob_world fob_world), (ce_i27240 y ob_images fob_images), (ce_z3 y ob_hasImage fob_hasImage)] sz)) (va_A [(ce_X10 ob ob_thrown ob_world ob_images ob_hasImage ob_tape ob_taped ob_five ob_size ob_at ob_from ob_token ob_value ob_faultKind ob_faultPlace ob_fresh ob_parts ob_houses ob_houseMany ob_worthOf ob_byCall ob_over ob_bestSet ob_bestOver ob_bestWorth ob_row ob_tenDebts ob_tenMany ob_fewestBy ob_covered ob_queue ob_cameBy ob_parent ob_met ob_calls ob_callMany ob_calledOn ob_saved ob_many ob_width ob_numbers ob_moving), (ce_i9080 y ob_world fob_world), (ce_i27240 y ob_images fob_images), (ce_z3 y ob_hasImage fob_hasImage)] sz)) 0 0 (va_A [(ce_X10 ob ob_thrown ob_world ob_images ob_hasImage ob_tape ob_taped ob_five ob_size ob_at ob_from ob_token ob_value ob_faultKind ob_faultPlace ob_fresh ob_parts ob_houses ob_houseMany ob_worthOf ob_byCall ob_over ob_bestSet ob_bestOver ob_bestWorth ob_row ob_tenDebts ob_tenMany ob_fewestBy ob_covered ob_queue ob_cameBy ob_parent ob_met ob_calls ob_callMany ob_calledOn ob_saved ob_many ob_width ob_numbers ob_moving), (ce_i9080 y ob_world fob_world), (ce_i27240 y ob_images fob_images), (ce_z3 y ob_hasImage fob_hasImage)] sz) := by
  refine Met.ofW (cc := cX10_back) (maxL := 3) (ret := (some .int)) (by decide) rfl ?_
  intro p e s m args below meth c s₁ B hml hv
  obtain ⟨rfl, hsz, hP, hK, hD0⟩ := hv
  have hx := B.exec
  have hb := B.bytes
  have hr := B.returns
  have hw0 : ∀ w ∈ wAll, w.before _ s = true := fun w h => atoms_spec (ws := Cond.code yX10_back cX10_back 3 (some .int) :: wAll) B.pre w (List.mem_cons_of_mem _ h)
  have hown : s.vm.findClass RX10 = some m.cls := findClass_of_methodNamed B.named
  subst hsz
  have hD := hD0.self (sz := s.heap.size)
  generalize hAe : va_A [(ce_X10 ob ob_thrown ob_world ob_images ob_hasImage ob_tape ob_taped ob_five ob_size ob_at ob_from ob_token ob_value ob_faultKind ob_faultPlace ob_fresh ob_parts ob_houses ob_houseMany ob_worthOf ob_byCall ob_over ob_bestSet ob_bestOver ob_bestWorth ob_row ob_tenDebts ob_tenMany ob_fewestBy ob_covered ob_queue ob_cameBy ob_parent ob_met ob_calls ob_callMany ob_calledOn ob_saved ob_many ob_width ob_numbers ob_moving), (ce_i9080 y ob_world fob_world), (ce_i27240 y ob_images fob_images), (ce_z3 y ob_hasImage fob_hasImage)] s.heap.size = A at hD ⊢
  have hA : ∀ q : Nat, s.heap.size ≤ q → A q := fun q h => by rw [← hAe]; exact Or.inr h
  have hS : va_S A s.heap s.heap [] := va_S.rf
  have hP : va_P G vwCl [(ce_X10 ob ob_thrown ob_world ob_images ob_hasImage ob_tape ob_taped ob_five ob_size ob_at ob_from ob_token ob_value ob_faultKind ob_faultPlace ob_fresh ob_parts ob_houses ob_houseMany ob_worthOf ob_byCall ob_over ob_bestSet ob_bestOver ob_bestWorth ob_row ob_tenDebts ob_tenMany ob_fewestBy ob_covered ob_queue ob_cameBy ob_parent ob_met ob_calls ob_callMany ob_calledOn ob_saved ob_many ob_width ob_numbers ob_moving), (ce_i9080 y ob_world fob_world), (ce_i27240 y ob_images fob_images), (ce_z3 y ob_hasImage fob_hasImage)] s.heap := hP
  have hl := lv_entry ([.ref ob, .int 1]) (n := 3) (Nat.le_of_ble_eq_true rfl)
  rw [lg_entry_eq]
  generalize (lg_sl ([.ref ob, .int 1]) ++ List.replicate (3 - (lg_sl ([.ref ob, .int 1])).length) Slot.unset).toArray = ls at hl ⊢
  have hl : lv_has ls 3 [(0, .ref ob), (1, .int 1)] := hl
  refine lv_iload_n hx hb dX10_back_0 rfl (lv_at hl 1 rfl) ?_
  refine lv_i2l (v := 1) hx hb dX10_back_1 (by decide) ?_
  refine lv_lconst (v := 0) hx hb dX10_back_2 (by decide) ?_
  refine lv_ldc2 (own := RX10) (v := 2) hx hb hown (hw0 _ m_360) dX10_back_3 ?_
  refine cSim (As := [.long 1, .long 0, .long 2]) (rest := []) ⟨hx, hb, hml, hown, hw0⟩ hA hK hP hD hS [] (sX10_in l G y _ 1 0 2 ) rfl ⟨(callB_of 3 hw0 (gA m_516) rfl rfl rfl (hw0 _ m_41) (hw0 _ m_345) cb_X10_in ⟨Nat.le_of_ble_eq_true rfl, Nat.le_of_ble_eq_true rfl⟩), (hw0 _ m_346)⟩ rfl hl.1 (Nat.le_of_ble_eq_true rfl) dX10_back_6 ⟨Nat.le_of_ble_eq_true rfl, Nat.le_of_ble_eq_true rfl⟩ (fun r_1001 w_1001 H locs hw_1001 hP hD hS => ?_)
  rcases hw_1001 with ⟨h_1002, rfl, rfl⟩ | ⟨h_1003, rfl, rfl⟩
  · skip
    have h_1004 : 1 < (0 : Int) ∨ (2 : Int) < 1 := in_n h_1002 (by decide) (by decide) (by decide)
    omega
  · skip
    have h_1005 : (0 : Int) ≤ 1 ∧ 1 ≤ (2 : Int) := in_y h_1003 (by decide) (by decide) (by decide)
    obtain ⟨hP, hD⟩ : vPD G A H [(ce_X10 ob ob_thrown ob_world ob_images ob_hasImage ob_tape ob_taped ob_five ob_size ob_at ob_from ob_token ob_value ob_faultKind ob_faultPlace ob_fresh ob_parts ob_houses ob_houseMany ob_worthOf ob_byCall ob_over ob_bestSet ob_bestOver ob_bestWorth ob_row ob_tenDebts ob_tenMany ob_fewestBy ob_covered ob_queue ob_cameBy ob_parent ob_met ob_calls ob_callMany ob_calledOn ob_saved ob_many ob_width ob_numbers ob_moving), (ce_i9080 y ob_world fob_world), (ce_i27240 y ob_images fob_images), (ce_z3 y ob_hasImage fob_hasImage)] := ⟨hP, hD⟩
    refine lv_if_ne (tgt := 15) hx hb dX10_back_9 (by decide) (fun _ => ?_) (fun c9 => absurd c9 (by decide))
    refine lv_aload_n hx hb dX10_back_15 rfl (lv_at hl 0 rfl) ?_
    refine va_get (D := G) (ci := 10) (v := .ref ob_hasImage) (C := RX10) (T := TX10) (N := 41) hx hb hw0 inA_wsX100 hown hK.1 hP 0 rfl rfl 3 (by decide) (hw0 _ m_361) (fun _ h9 => h9) rfl dX10_back_16 ?_
    refine lv_iload_n hx hb dX10_back_19 rfl (lv_at hl 1 rfl) ?_
    refine va_zald hx hb hK.1 hP 3 3 rfl rfl (vi (bkc (x := 1) (c := 1) (by decide)) (by decide)) dX10_back_20 ?_
    refine lv_topi (fun v_1006 ev_1006 => ?_)
    have bv_1006 : (0 : Int) ≤ v_1006.toInt ∧ v_1006.toInt ≤ 1 := rd_b ev_1006 p_fob_hasImage
    have yv_1006 : v_1006.toInt = (fob_hasImage 1).toInt := congrArg Int32.toInt ev_1006
    refine lv_if_ne (tgt := 27) hx hb dX10_back_21 (by decide) (fun c_1007 => ?_) (fun c_1007 => ?_)
    · skip
      have nc_1007 := nb_ne (1) (1) c_1007 bv_1006 (k := 0) (by decide) (by decide)
      refine lv_iconst (v := 0) hx hb dX10_back_27 (by decide) ?_
      refine lv_istore_n (lv' := [(2, .int 0), (0, .ref ob), (1, .int 1)]) hx hb dX10_back_28 rfl hl (by decide) rfl (fun ls hl => ?_)
      refine loopX (fun n H locs ls st => ∃ (v_1091 : Int32) (f_1092 : Nat → Int32), (9080 - v_1091.toInt).toNat = n ∧ ((0 : Int) ≤ v_1091.toInt ∧ v_1091.toInt ≤ 9080) ∧ (cpR f_1092 fob_world fob_images 0 9080 0 v_1091.toInt) ∧ st = [] ∧ vPD G A H [(ce_X10 ob ob_thrown ob_world ob_images ob_hasImage ob_tape ob_taped ob_five ob_size ob_at ob_from ob_token ob_value ob_faultKind ob_faultPlace ob_fresh ob_parts ob_houses ob_houseMany ob_worthOf ob_byCall ob_over ob_bestSet ob_bestOver ob_bestWorth ob_row ob_tenDebts ob_tenMany ob_fewestBy ob_covered ob_queue ob_cameBy ob_parent ob_met ob_calls ob_callMany ob_calledOn ob_saved ob_many ob_width ob_numbers ob_moving), (ce_i9080 y ob_world f_1092), (ce_i27240 y ob_images fob_images), (ce_z3 y ob_hasImage fob_hasImage)] ∧ va_S A s.heap H locs ∧ lv_has ls 3 [(2, .int v_1091), (0, .ref ob), (1, .int 1)]) ?_ (n := (9080 - (0 : Int32).toInt).toNat) ⟨0, fob_world, rfl, (bw (0) (9080) (bkc (x := 0) (c := 0) (by decide)) (by decide)), (cp_0 (by have h90 : Int32.toInt 0 = 0 := (by decide); have h91 : Int32.toInt 1 = 1 := (by decide); omega)), rfl, ⟨hP, hD⟩, hS, lv_sub hl [0, 1, 2] rfl⟩
      rintro n ih_1098 H locs ls st ⟨v_1091, f_1092, hn_1098, bv_1091, rl1092_0, rfl, ⟨hP, hD⟩, hS, hl⟩
      refine lv_iload_n hx hb dX10_back_29 rfl (lv_at hl 0 rfl) ?_
      refine lv_sipush (v := 9080) hx hb dX10_back_30 (by decide) ?_
      refine lv_icmp_ge (tgt := 60) hx hb dX10_back_33 (by decide) (fun c_1099 => ?_) (fun c_1099 => ?_)
      · skip
        have nc_1099 := nb_le (9080) (9080) c_1099 (bkc (x := 9080) (c := 9080) (by decide)) bv_1091 (by decide)
        have kf_1092 : RWw f_1092 := RW_back rl1092_0 (by omega) (RI_at p_fob_images 1 (by decide))
        refine lv_iconst (v := 0) hx hb dX10_back_60 (by decide) ?_
        exact W.iret (v := 0) hx hb hr (fun t ht hW => ⟨⟨0, _, rfl, Or.inr (⟨f_1092, kf_1092, by have h90 : Int32.toInt 0 = 0 := (by decide); have h91 : Int32.toInt 1 = 1 := (by decide); omega, rfl, rfl⟩), by rw [ht]; exact hP, hD⟩, hS.F ht⟩) hS.2.2 dX10_back_61
      · skip
        have nc_1099 := nb_nle (9079) (9080) c_1099 bv_1091 (bkc (x := 9080) (c := 9080) (by decide)) (by decide)
        refine lv_aload_n hx hb dX10_back_36 rfl (lv_at hl 1 rfl) ?_
        refine va_get (D := G) (ci := 10) (v := .ref ob_world) (C := RX10) (T := TX10) (N := 41) hx hb hw0 inA_wsX100 hown hK.1 hP 0 rfl rfl 1 (by decide) (hw0 _ m_352) (fun _ h9 => h9) rfl dX10_back_37 ?_
        refine lv_iload_n hx hb dX10_back_40 rfl (lv_at hl 0 rfl) ?_
        refine lv_aload_n hx hb dX10_back_41 rfl (lv_at hl 1 rfl) ?_
        refine va_get (D := G) (ci := 10) (v := .ref ob_images) (C := RX10) (T := TX10) (N := 41) hx hb hw0 inA_wsX100 hown hK.1 hP 0 rfl rfl 2 (by decide) (hw0 _ m_362) (fun _ h9 => h9) rfl dX10_back_42 ?_
        refine lv_sipush (v := 9080) hx hb dX10_back_45 (by decide) ?_
        refine lv_iload_n hx hb dX10_back_48 rfl (lv_at hl 2 rfl) ?_
        refine lv_imul hx hb dX10_back_49 ?_
        refine lv_topi (fun v_1100 ev_1100 => ?_)
        obtain rfl : 9080 = v_1100 := (ev_1100.trans (by decide)).symm
        refine lv_iload_n hx hb dX10_back_50 rfl (lv_at hl 0 rfl) ?_
        refine lv_iadd hx hb dX10_back_51 ?_
        refine lv_topi (fun v_1101 ev_1101 => ?_)
        have qv_1101 := ba_add ev_1101 (bkc (x := 9080) (c := 9080) (by decide)) nc_1099.1 (by decide)
        have bv_1101 : (9080 : Int) ≤ v_1101.toInt ∧ v_1101.toInt ≤ 18159 := bq_add qv_1101 (bkc (x := 9080) (c := 9080) (by decide)) nc_1099.1 _ _ (by decide)
        have qv_1101 : v_1101.toInt = (9080) + v_1091.toInt := qv_1101
        refine va_iald hx hb hK.1 hP 2 1 rfl rfl (vi bv_1101 (by decide)) dX10_back_52 ?_
        refine lv_topi (fun v_1102 ev_1102 => ?_)
        refine va_iast hx hb hK.1 hP hD hS 1 1 rfl rfl (vi nc_1099.1 (by decide)) dX10_back_53 (fun H locs hP hD hS => ?_)
        generalize hf_1103 : (upd f_1092 (v_1091 : Int32).toNatClampNeg v_1102) = f_1103 at hP hD
        obtain ⟨hP, hD⟩ : vPD G A H [(ce_X10 ob ob_thrown ob_world ob_images ob_hasImage ob_tape ob_taped ob_five ob_size ob_at ob_from ob_token ob_value ob_faultKind ob_faultPlace ob_fresh ob_parts ob_houses ob_houseMany ob_worthOf ob_byCall ob_over ob_bestSet ob_bestOver ob_bestWorth ob_row ob_tenDebts ob_tenMany ob_fewestBy ob_covered ob_queue ob_cameBy ob_parent ob_met ob_calls ob_callMany ob_calledOn ob_saved ob_many ob_width ob_numbers ob_moving), (ce_i9080 y ob_world f_1103), (ce_i27240 y ob_images fob_images), (ce_z3 y ob_hasImage fob_hasImage)] := ⟨hP, hD⟩
        obtain ⟨v_1104, ev_1104⟩ : ∃ z : Int32, z = v_1091 + 1 := ⟨_, rfl⟩
        have qv_1104 := ba_add ev_1104 nc_1099.1 (bkc (x := 1) (c := 1) (by decide)) (by decide)
        have bv_1104 : (1 : Int) ≤ v_1104.toInt ∧ v_1104.toInt ≤ 9080 := bq_add qv_1104 nc_1099.1 (bkc (x := 1) (c := 1) (by decide)) _ _ (by decide)
        have qv_1104 : v_1104.toInt = v_1091.toInt + (1) := qv_1104
        refine lv_iinc (v := v_1104) (lv' := [(2, .int v_1104), (0, .ref ob), (1, .int 1)]) hx hb dX10_back_54 hl (k := 0) rfl (ev_1104.symm) (by decide) rfl (fun ls hl => ?_)
        refine lv_goto (tgt := 29) hx hb dX10_back_57 (by decide) ?_
        exact ih_1098 _ (ml_inc (hi := 9080) hn_1098 qv_1104 (by decide) ((bw (0) (9080) bv_1104 (by decide))).2) _ _ _ _ ⟨v_1104, f_1103, rfl, (bw (0) (9080) bv_1104 (by decide)), (cp_s rl1092_0 hf_1103 ev_1102 ((cl_to (by omega)).trans (by omega)) ((cl_to (by omega)).trans (by omega)) (by omega) (by omega)), rfl, ⟨hP, hD⟩, hS, lv_sub hl [0, 1, 2] rfl⟩
    · skip
      have nc_1007 := nb_eq (0) (0) c_1007 bv_1006 (bkc (x := 0) (c := 0) (by decide)) (by decide)
      refine lv_bipush (v := (-6)) hx hb dX10_back_24 (by decide) ?_
      exact W.iret (v := (-6)) hx hb hr (fun t ht hW => ⟨⟨(-6), _, rfl, Or.inl (⟨by have h90 : Int32.toInt (-6) = -6 := (by decide); have h91 : Int32.toInt 1 = 1 := (by decide); omega, rfl, rfl⟩), by rw [ht]; exact hP, hD⟩, hS.F ht⟩) hS.2.2 dX10_back_26

set_option maxHeartbeats 4000000 in
set_option maxRecDepth 100000 in
theorem fkeepM2 (l : Launch) (G : va_G) (y : Nat → ClassId) (sz : Nat) (ob : Nat) (ob_thrown : Int32) (ob_world : Nat) (ob_images : Nat) (ob_hasImage : Nat) (ob_tape : Nat) (ob_taped : Int32) (ob_five : Nat) (ob_size : Int32) (ob_at : Int32) (ob_from : Int32) (ob_token : Int32) (ob_value : Int32) (ob_faultKind : Int32) (ob_faultPlace : Int32) (ob_fresh : Nat) (ob_parts : Nat) (ob_houses : Nat) (ob_houseMany : Int32) (ob_worthOf : Nat) (ob_byCall : Nat) (ob_over : Nat) (ob_bestSet : Int32) (ob_bestOver : Int32) (ob_bestWorth : Int32) (ob_row : Nat) (ob_tenDebts : Nat) (ob_tenMany : Int32) (ob_fewestBy : Nat) (ob_covered : Nat) (ob_queue : Nat) (ob_cameBy : Nat) (ob_parent : Nat) (ob_met : Nat) (ob_calls : Nat) (ob_callMany : Int32) (ob_calledOn : Nat) (ob_saved : Nat) (ob_many : Nat) (ob_width : Nat) (ob_numbers : Nat) (ob_moving : Nat) (fob_world : Nat → Int32) (fob_images : Nat → Int32) (fob_hasImage : Nat → Int32) (p_fob_world : RWw fob_world) (p_fob_images : RIw fob_images) (p_fob_hasImage : ∀ i, (0 : Int) ≤ (fob_hasImage i).toInt ∧ (fob_hasImage i).toInt ≤ 1) (p_ob_taped : (0 : Int) ≤ ob_taped.toInt ∧ ob_taped.toInt ≤ 1400) (p_ob_size : (0 : Int) ≤ ob_size.toInt ∧ ob_size.toInt ≤ 1400) (p_ob_at : (0 : Int) ≤ ob_at.toInt ∧ ob_at.toInt ≤ 1400) (p_ob_from : (0 : Int) ≤ ob_from.toInt ∧ ob_from.toInt ≤ 1400) (p_ob_token : (0 : Int) ≤ ob_token.toInt ∧ ob_token.toInt ≤ 4) (p_ob_value : (0 : Int) ≤ ob_value.toInt ∧ ob_value.toInt ≤ 9999) (p_ob_faultKind : (0 : Int) ≤ ob_faultKind.toInt ∧ ob_faultKind.toInt ≤ 3) (p_ob_houseMany : (0 : Int) ≤ ob_houseMany.toInt ∧ ob_houseMany.toInt ≤ 10) (p_ob_bestSet : (0 : Int) ≤ ob_bestSet.toInt ∧ ob_bestSet.toInt ≤ 1023) (p_ob_bestOver : (-1 : Int) ≤ ob_bestOver.toInt ∧ ob_bestOver.toInt ≤ 180) (p_ob_tenMany : (0 : Int) ≤ ob_tenMany.toInt ∧ ob_tenMany.toInt ≤ 10) (p_ob_callMany : (0 : Int) ≤ ob_callMany.toInt ∧ ob_callMany.toInt ≤ 16) : Met l yX10_keep (Cond.code yX10_keep cX10_keep 3 (some .int) :: wAll) ({ frames := 1, cells := 0, slots := 0, locals := 25 }) (va_Pc [.ref ob, .int 2] (kp G y sz [(ce_X10 ob ob_thrown ob_world ob_images ob_hasImage ob_tape ob_taped ob_five ob_size ob_at ob_from ob_token ob_value ob_faultKind ob_faultPlace ob_fresh ob_parts ob_houses ob_houseMany ob_worthOf ob_byCall ob_over ob_bestSet ob_bestOver ob_bestWorth ob_row ob_tenDebts ob_tenMany ob_fewestBy ob_covered ob_queue ob_cameBy ob_parent ob_met ob_calls ob_callMany ob_calledOn ob_saved ob_many ob_width ob_numbers ob_moving), (ce_i9080 y ob_world fob_world), (ce_i27240 y ob_images fob_images), (ce_z3 y ob_hasImage fob_hasImage)])) (va_Qi (fun (r : Int32) (w : va_W) => (∃ (f_207 : Nat → Int32) (f_208 : Nat → Int32), (RIw f_207) ∧ (∀ i, (0 : Int) ≤ (f_208 i).toInt ∧ (f_208 i).toInt ≤ 1) ∧ ((f_208 0).toInt = (fob_hasImage 0).toInt) ∧ ((f_208 1).toInt = (fob_hasImage 1).toInt) ∧ ((f_208 2).toInt = 1) ∧ r = 0 ∧ w = [(ce_X10 ob ob_thrown ob_world ob_images ob_hasImage ob_tape ob_taped ob_five ob_size ob_at ob_from ob_token ob_value ob_faultKind ob_faultPlace ob_fresh ob_parts ob_houses ob_houseMany ob_worthOf ob_byCall ob_over ob_bestSet ob_bestOver ob_bestWorth ob_row ob_tenDebts ob_tenMany ob_fewestBy ob_covered ob_queue ob_cameBy ob_parent ob_met ob_calls ob_callMany ob_calledOn ob_saved ob_many ob_width ob_numbers ob_moving), (ce_i9080 y ob_world fob_world), (ce_i27240 y ob_images f_207), (ce_z3 y ob_hasImage f_208)])) (kq G (va_A [(ce_X10 ob ob_thrown ob_world ob_images ob_hasImage ob_tape ob_taped ob_five ob_size ob_at ob_from ob_token ob_value ob_faultKind ob_faultPlace ob_fresh ob_parts ob_houses ob_houseMany ob_worthOf ob_byCall ob_over ob_bestSet ob_bestOver ob_bestWorth ob_row ob_tenDebts ob_tenMany ob_fewestBy ob_covered ob_queue ob_cameBy ob_parent ob_met ob_calls ob_callMany ob_calledOn ob_saved ob_many ob_width ob_numbers ob_moving), (ce_i9080 y ob_world fob_world), (ce_i27240 y ob_images fob_images), (ce_z3 y ob_hasImage fob_hasImage)] sz)) (va_A [(ce_X10 ob ob_thrown ob_world ob_images ob_hasImage ob_tape ob_taped ob_five ob_size ob_at ob_from ob_token ob_value ob_faultKind ob_faultPlace ob_fresh ob_parts ob_houses ob_houseMany ob_worthOf ob_byCall ob_over ob_bestSet ob_bestOver ob_bestWorth ob_row ob_tenDebts ob_tenMany ob_fewestBy ob_covered ob_queue ob_cameBy ob_parent ob_met ob_calls ob_callMany ob_calledOn ob_saved ob_many ob_width ob_numbers ob_moving), (ce_i9080 y ob_world fob_world), (ce_i27240 y ob_images fob_images), (ce_z3 y ob_hasImage fob_hasImage)] sz)) 0 0 (va_A [(ce_X10 ob ob_thrown ob_world ob_images ob_hasImage ob_tape ob_taped ob_five ob_size ob_at ob_from ob_token ob_value ob_faultKind ob_faultPlace ob_fresh ob_parts ob_houses ob_houseMany ob_worthOf ob_byCall ob_over ob_bestSet ob_bestOver ob_bestWorth ob_row ob_tenDebts ob_tenMany ob_fewestBy ob_covered ob_queue ob_cameBy ob_parent ob_met ob_calls ob_callMany ob_calledOn ob_saved ob_many ob_width ob_numbers ob_moving), (ce_i9080 y ob_world fob_world), (ce_i27240 y ob_images fob_images), (ce_z3 y ob_hasImage fob_hasImage)] sz) := by
  refine Met.ofW (cc := cX10_keep) (maxL := 3) (ret := (some .int)) (by decide) rfl ?_
  intro p e s m args below meth c s₁ B hml hv
  obtain ⟨rfl, hsz, hP, hK, hD0⟩ := hv
  have hx := B.exec
  have hb := B.bytes
  have hr := B.returns
  have hw0 : ∀ w ∈ wAll, w.before _ s = true := fun w h => atoms_spec (ws := Cond.code yX10_keep cX10_keep 3 (some .int) :: wAll) B.pre w (List.mem_cons_of_mem _ h)
  have hown : s.vm.findClass RX10 = some m.cls := findClass_of_methodNamed B.named
  subst hsz
  have hD := hD0.self (sz := s.heap.size)
  generalize hAe : va_A [(ce_X10 ob ob_thrown ob_world ob_images ob_hasImage ob_tape ob_taped ob_five ob_size ob_at ob_from ob_token ob_value ob_faultKind ob_faultPlace ob_fresh ob_parts ob_houses ob_houseMany ob_worthOf ob_byCall ob_over ob_bestSet ob_bestOver ob_bestWorth ob_row ob_tenDebts ob_tenMany ob_fewestBy ob_covered ob_queue ob_cameBy ob_parent ob_met ob_calls ob_callMany ob_calledOn ob_saved ob_many ob_width ob_numbers ob_moving), (ce_i9080 y ob_world fob_world), (ce_i27240 y ob_images fob_images), (ce_z3 y ob_hasImage fob_hasImage)] s.heap.size = A at hD ⊢
  have hA : ∀ q : Nat, s.heap.size ≤ q → A q := fun q h => by rw [← hAe]; exact Or.inr h
  have hS : va_S A s.heap s.heap [] := va_S.rf
  have hP : va_P G vwCl [(ce_X10 ob ob_thrown ob_world ob_images ob_hasImage ob_tape ob_taped ob_five ob_size ob_at ob_from ob_token ob_value ob_faultKind ob_faultPlace ob_fresh ob_parts ob_houses ob_houseMany ob_worthOf ob_byCall ob_over ob_bestSet ob_bestOver ob_bestWorth ob_row ob_tenDebts ob_tenMany ob_fewestBy ob_covered ob_queue ob_cameBy ob_parent ob_met ob_calls ob_callMany ob_calledOn ob_saved ob_many ob_width ob_numbers ob_moving), (ce_i9080 y ob_world fob_world), (ce_i27240 y ob_images fob_images), (ce_z3 y ob_hasImage fob_hasImage)] s.heap := hP
  have hl := lv_entry ([.ref ob, .int 2]) (n := 3) (Nat.le_of_ble_eq_true rfl)
  rw [lg_entry_eq]
  generalize (lg_sl ([.ref ob, .int 2]) ++ List.replicate (3 - (lg_sl ([.ref ob, .int 2])).length) Slot.unset).toArray = ls at hl ⊢
  have hl : lv_has ls 3 [(0, .ref ob), (1, .int 2)] := hl
  refine lv_iload_n hx hb dX10_keep_0 rfl (lv_at hl 1 rfl) ?_
  refine lv_i2l (v := 2) hx hb dX10_keep_1 (by decide) ?_
  refine lv_lconst (v := 0) hx hb dX10_keep_2 (by decide) ?_
  refine lv_ldc2 (own := RX10) (v := 2) hx hb hown (hw0 _ m_360) dX10_keep_3 ?_
  refine cSim (As := [.long 2, .long 0, .long 2]) (rest := []) ⟨hx, hb, hml, hown, hw0⟩ hA hK hP hD hS [] (sX10_in l G y _ 2 0 2 ) rfl ⟨(callB_of 3 hw0 (gA m_516) rfl rfl rfl (hw0 _ m_41) (hw0 _ m_345) cb_X10_in ⟨Nat.le_of_ble_eq_true rfl, Nat.le_of_ble_eq_true rfl⟩), (hw0 _ m_346)⟩ rfl hl.1 (Nat.le_of_ble_eq_true rfl) dX10_keep_6 ⟨Nat.le_of_ble_eq_true rfl, Nat.le_of_ble_eq_true rfl⟩ (fun r_1001 w_1001 H locs hw_1001 hP hD hS => ?_)
  rcases hw_1001 with ⟨h_1002, rfl, rfl⟩ | ⟨h_1003, rfl, rfl⟩
  · skip
    have h_1004 : 2 < (0 : Int) ∨ (2 : Int) < 2 := in_n h_1002 (by decide) (by decide) (by decide)
    omega
  · skip
    have h_1005 : (0 : Int) ≤ 2 ∧ 2 ≤ (2 : Int) := in_y h_1003 (by decide) (by decide) (by decide)
    obtain ⟨hP, hD⟩ : vPD G A H [(ce_X10 ob ob_thrown ob_world ob_images ob_hasImage ob_tape ob_taped ob_five ob_size ob_at ob_from ob_token ob_value ob_faultKind ob_faultPlace ob_fresh ob_parts ob_houses ob_houseMany ob_worthOf ob_byCall ob_over ob_bestSet ob_bestOver ob_bestWorth ob_row ob_tenDebts ob_tenMany ob_fewestBy ob_covered ob_queue ob_cameBy ob_parent ob_met ob_calls ob_callMany ob_calledOn ob_saved ob_many ob_width ob_numbers ob_moving), (ce_i9080 y ob_world fob_world), (ce_i27240 y ob_images fob_images), (ce_z3 y ob_hasImage fob_hasImage)] := ⟨hP, hD⟩
    refine lv_if_ne (tgt := 15) hx hb dX10_keep_9 (by decide) (fun _ => ?_) (fun c9 => absurd c9 (by decide))
    refine lv_iconst (v := 0) hx hb dX10_keep_15 (by decide) ?_
    refine lv_istore_n (lv' := [(2, .int 0), (0, .ref ob), (1, .int 2)]) hx hb dX10_keep_16 rfl hl (by decide) rfl (fun ls hl => ?_)
    refine loopX (fun n H locs ls st => ∃ (v_1089 : Int32) (f_1090 : Nat → Int32), (9080 - v_1089.toInt).toNat = n ∧ ((0 : Int) ≤ v_1089.toInt ∧ v_1089.toInt ≤ 9080) ∧ (cpR f_1090 fob_images fob_world 18160 0 0 v_1089.toInt) ∧ st = [] ∧ vPD G A H [(ce_X10 ob ob_thrown ob_world ob_images ob_hasImage ob_tape ob_taped ob_five ob_size ob_at ob_from ob_token ob_value ob_faultKind ob_faultPlace ob_fresh ob_parts ob_houses ob_houseMany ob_worthOf ob_byCall ob_over ob_bestSet ob_bestOver ob_bestWorth ob_row ob_tenDebts ob_tenMany ob_fewestBy ob_covered ob_queue ob_cameBy ob_parent ob_met ob_calls ob_callMany ob_calledOn ob_saved ob_many ob_width ob_numbers ob_moving), (ce_i9080 y ob_world fob_world), (ce_i27240 y ob_images f_1090), (ce_z3 y ob_hasImage fob_hasImage)] ∧ va_S A s.heap H locs ∧ lv_has ls 3 [(2, .int v_1089), (0, .ref ob), (1, .int 2)]) ?_ (n := (9080 - (0 : Int32).toInt).toNat) ⟨0, fob_images, rfl, (bw (0) (9080) (bkc (x := 0) (c := 0) (by decide)) (by decide)), (cp_0 (by have h90 : Int32.toInt 0 = 0 := (by decide); have h91 : Int32.toInt 2 = 2 := (by decide); omega)), rfl, ⟨hP, hD⟩, hS, lv_sub hl [0, 1, 2] rfl⟩
    rintro n ih_1096 H locs ls st ⟨v_1089, f_1090, hn_1096, bv_1089, rl1090_0, rfl, ⟨hP, hD⟩, hS, hl⟩
    refine lv_iload_n hx hb dX10_keep_17 rfl (lv_at hl 0 rfl) ?_
    refine lv_sipush (v := 9080) hx hb dX10_keep_18 (by decide) ?_
    refine lv_icmp_ge (tgt := 48) hx hb dX10_keep_21 (by decide) (fun c_1097 => ?_) (fun c_1097 => ?_)
    · skip
      have nc_1097 := nb_le (9080) (9080) c_1097 (bkc (x := 9080) (c := 9080) (by decide)) bv_1089 (by decide)
      have kf_1090 : RIw f_1090 := RI_keep (k := 2) rl1090_0 (by omega) p_fob_world p_fob_images
      refine lv_aload_n hx hb dX10_keep_48 rfl (lv_at hl 1 rfl) ?_
      refine va_get (D := G) (ci := 10) (v := .ref ob_hasImage) (C := RX10) (T := TX10) (N := 41) hx hb hw0 inA_wsX100 hown hK.1 hP 0 rfl rfl 3 (by decide) (hw0 _ m_361) (fun _ h9 => h9) rfl dX10_keep_49 ?_
      refine lv_iload_n hx hb dX10_keep_52 rfl (lv_at hl 2 rfl) ?_
      refine lv_iconst (v := 1) hx hb dX10_keep_53 (by decide) ?_
      refine va_zast hx hb hK.1 hP hD hS 3 3 rfl rfl (vi (bkc (x := 2) (c := 2) (by decide)) (by decide)) dX10_keep_54 (fun H locs hP hD hS => ?_)
      generalize hf_1098 : (upd fob_hasImage (2 : Int32).toNatClampNeg (vp_nar .boolean 1)) = f_1098 at hP hD
      have bf_1098 : ∀ i, (0 : Int) ≤ (f_1098 i).toInt ∧ (f_1098 i).toInt ≤ 1 := hf_1098 ▸ up_z p_fob_hasImage (bw (0) (1) (bkc (x := 1) (c := 1) (by decide)) (by decide))
      have zf_1098_0 : (f_1098 0).toInt = (fob_hasImage 0).toInt := hf_1098 ▸ pin_ne (ix_not (bkc (x := 2) (c := 2) (by decide)) (by decide))
      have zf_1098_1 : (f_1098 1).toInt = (fob_hasImage 1).toInt := hf_1098 ▸ pin_ne (ix_not (bkc (x := 2) (c := 2) (by decide)) (by decide))
      have zf_1098_2 : (f_1098 2).toInt = 1 := by rw [← hf_1098]; exact (pin_eq (by decide)).trans (by decide)
      obtain ⟨hP, hD⟩ : vPD G A H [(ce_X10 ob ob_thrown ob_world ob_images ob_hasImage ob_tape ob_taped ob_five ob_size ob_at ob_from ob_token ob_value ob_faultKind ob_faultPlace ob_fresh ob_parts ob_houses ob_houseMany ob_worthOf ob_byCall ob_over ob_bestSet ob_bestOver ob_bestWorth ob_row ob_tenDebts ob_tenMany ob_fewestBy ob_covered ob_queue ob_cameBy ob_parent ob_met ob_calls ob_callMany ob_calledOn ob_saved ob_many ob_width ob_numbers ob_moving), (ce_i9080 y ob_world fob_world), (ce_i27240 y ob_images f_1090), (ce_z3 y ob_hasImage f_1098)] := ⟨hP, hD⟩
      refine lv_iconst (v := 0) hx hb dX10_keep_55 (by decide) ?_
      exact W.iret (v := 0) hx hb hr (fun t ht hW => ⟨⟨0, _, rfl, ⟨f_1090, f_1098, kf_1090, bf_1098, by have h90 : Int32.toInt 0 = 0 := (by decide); have h91 : Int32.toInt 2 = 2 := (by decide); omega, by have h90 : Int32.toInt 0 = 0 := (by decide); have h91 : Int32.toInt 2 = 2 := (by decide); omega, by have h90 : Int32.toInt 0 = 0 := (by decide); have h91 : Int32.toInt 2 = 2 := (by decide); omega, rfl, rfl⟩, by rw [ht]; exact hP, hD⟩, hS.F ht⟩) hS.2.2 dX10_keep_56
    · skip
      have nc_1097 := nb_nle (9079) (9080) c_1097 bv_1089 (bkc (x := 9080) (c := 9080) (by decide)) (by decide)
      refine lv_aload_n hx hb dX10_keep_24 rfl (lv_at hl 1 rfl) ?_
      refine va_get (D := G) (ci := 10) (v := .ref ob_images) (C := RX10) (T := TX10) (N := 41) hx hb hw0 inA_wsX100 hown hK.1 hP 0 rfl rfl 2 (by decide) (hw0 _ m_362) (fun _ h9 => h9) rfl dX10_keep_25 ?_
      refine lv_sipush (v := 9080) hx hb dX10_keep_28 (by decide) ?_
      refine lv_iload_n hx hb dX10_keep_31 rfl (lv_at hl 2 rfl) ?_
      refine lv_imul hx hb dX10_keep_32 ?_
      refine lv_topi (fun v_1099 ev_1099 => ?_)
      obtain rfl : 18160 = v_1099 := (ev_1099.trans (by decide)).symm
      refine lv_iload_n hx hb dX10_keep_33 rfl (lv_at hl 0 rfl) ?_
      refine lv_iadd hx hb dX10_keep_34 ?_
      refine lv_topi (fun v_1100 ev_1100 => ?_)
      have qv_1100 := ba_add ev_1100 (bkc (x := 18160) (c := 18160) (by decide)) nc_1097.1 (by decide)
      have bv_1100 : (18160 : Int) ≤ v_1100.toInt ∧ v_1100.toInt ≤ 27239 := bq_add qv_1100 (bkc (x := 18160) (c := 18160) (by decide)) nc_1097.1 _ _ (by decide)
      have qv_1100 : v_1100.toInt = (18160) + v_1089.toInt := qv_1100
      refine lv_aload_n hx hb dX10_keep_35 rfl (lv_at hl 1 rfl) ?_
      refine va_get (D := G) (ci := 10) (v := .ref ob_world) (C := RX10) (T := TX10) (N := 41) hx hb hw0 inA_wsX100 hown hK.1 hP 0 rfl rfl 1 (by decide) (hw0 _ m_352) (fun _ h9 => h9) rfl dX10_keep_36 ?_
      refine lv_iload_n hx hb dX10_keep_39 rfl (lv_at hl 0 rfl) ?_
      refine va_iald hx hb hK.1 hP 1 1 rfl rfl (vi nc_1097.1 (by decide)) dX10_keep_40 ?_
      refine lv_topi (fun v_1101 ev_1101 => ?_)
      refine va_iast hx hb hK.1 hP hD hS 2 1 rfl rfl (vi bv_1100 (by decide)) dX10_keep_41 (fun H locs hP hD hS => ?_)
      generalize hf_1102 : (upd f_1090 (v_1100 : Int32).toNatClampNeg v_1101) = f_1102 at hP hD
      obtain ⟨hP, hD⟩ : vPD G A H [(ce_X10 ob ob_thrown ob_world ob_images ob_hasImage ob_tape ob_taped ob_five ob_size ob_at ob_from ob_token ob_value ob_faultKind ob_faultPlace ob_fresh ob_parts ob_houses ob_houseMany ob_worthOf ob_byCall ob_over ob_bestSet ob_bestOver ob_bestWorth ob_row ob_tenDebts ob_tenMany ob_fewestBy ob_covered ob_queue ob_cameBy ob_parent ob_met ob_calls ob_callMany ob_calledOn ob_saved ob_many ob_width ob_numbers ob_moving), (ce_i9080 y ob_world fob_world), (ce_i27240 y ob_images f_1102), (ce_z3 y ob_hasImage fob_hasImage)] := ⟨hP, hD⟩
      obtain ⟨v_1103, ev_1103⟩ : ∃ z : Int32, z = v_1089 + 1 := ⟨_, rfl⟩
      have qv_1103 := ba_add ev_1103 nc_1097.1 (bkc (x := 1) (c := 1) (by decide)) (by decide)
      have bv_1103 : (1 : Int) ≤ v_1103.toInt ∧ v_1103.toInt ≤ 9080 := bq_add qv_1103 nc_1097.1 (bkc (x := 1) (c := 1) (by decide)) _ _ (by decide)
      have qv_1103 : v_1103.toInt = v_1089.toInt + (1) := qv_1103
      refine lv_iinc (v := v_1103) (lv' := [(2, .int v_1103), (0, .ref ob), (1, .int 2)]) hx hb dX10_keep_42 hl (k := 0) rfl (ev_1103.symm) (by decide) rfl (fun ls hl => ?_)
      refine lv_goto (tgt := 17) hx hb dX10_keep_45 (by decide) ?_
      exact ih_1096 _ (ml_inc (hi := 9080) hn_1096 qv_1103 (by decide) ((bw (0) (9080) bv_1103 (by decide))).2) _ _ _ _ ⟨v_1103, f_1102, rfl, (bw (0) (9080) bv_1103 (by decide)), (cp_s rl1090_0 hf_1102 ev_1101 ((cl_to (by omega)).trans (by omega)) ((cl_to (by omega)).trans (by omega)) (by omega) (by omega)), rfl, ⟨hP, hD⟩, hS, lv_sub hl [0, 1, 2] rfl⟩

set_option maxHeartbeats 4000000 in
set_option maxRecDepth 100000 in
theorem fbackM2 (l : Launch) (G : va_G) (y : Nat → ClassId) (sz : Nat) (ob : Nat) (ob_thrown : Int32) (ob_world : Nat) (ob_images : Nat) (ob_hasImage : Nat) (ob_tape : Nat) (ob_taped : Int32) (ob_five : Nat) (ob_size : Int32) (ob_at : Int32) (ob_from : Int32) (ob_token : Int32) (ob_value : Int32) (ob_faultKind : Int32) (ob_faultPlace : Int32) (ob_fresh : Nat) (ob_parts : Nat) (ob_houses : Nat) (ob_houseMany : Int32) (ob_worthOf : Nat) (ob_byCall : Nat) (ob_over : Nat) (ob_bestSet : Int32) (ob_bestOver : Int32) (ob_bestWorth : Int32) (ob_row : Nat) (ob_tenDebts : Nat) (ob_tenMany : Int32) (ob_fewestBy : Nat) (ob_covered : Nat) (ob_queue : Nat) (ob_cameBy : Nat) (ob_parent : Nat) (ob_met : Nat) (ob_calls : Nat) (ob_callMany : Int32) (ob_calledOn : Nat) (ob_saved : Nat) (ob_many : Nat) (ob_width : Nat) (ob_numbers : Nat) (ob_moving : Nat) (fob_world : Nat → Int32) (fob_images : Nat → Int32) (fob_hasImage : Nat → Int32) (p_fob_world : RWw fob_world) (p_fob_images : RIw fob_images) (p_fob_hasImage : ∀ i, (0 : Int) ≤ (fob_hasImage i).toInt ∧ (fob_hasImage i).toInt ≤ 1) (p_ob_taped : (0 : Int) ≤ ob_taped.toInt ∧ ob_taped.toInt ≤ 1400) (p_ob_size : (0 : Int) ≤ ob_size.toInt ∧ ob_size.toInt ≤ 1400) (p_ob_at : (0 : Int) ≤ ob_at.toInt ∧ ob_at.toInt ≤ 1400) (p_ob_from : (0 : Int) ≤ ob_from.toInt ∧ ob_from.toInt ≤ 1400) (p_ob_token : (0 : Int) ≤ ob_token.toInt ∧ ob_token.toInt ≤ 4) (p_ob_value : (0 : Int) ≤ ob_value.toInt ∧ ob_value.toInt ≤ 9999) (p_ob_faultKind : (0 : Int) ≤ ob_faultKind.toInt ∧ ob_faultKind.toInt ≤ 3) (p_ob_houseMany : (0 : Int) ≤ ob_houseMany.toInt ∧ ob_houseMany.toInt ≤ 10) (p_ob_bestSet : (0 : Int) ≤ ob_bestSet.toInt ∧ ob_bestSet.toInt ≤ 1023) (p_ob_bestOver : (-1 : Int) ≤ ob_bestOver.toInt ∧ ob_bestOver.toInt ≤ 180) (p_ob_tenMany : (0 : Int) ≤ ob_tenMany.toInt ∧ ob_tenMany.toInt ≤ 10) (p_ob_callMany : (0 : Int) ≤ ob_callMany.toInt ∧ ob_callMany.toInt ≤ 16) : Met l yX10_back (Cond.code yX10_back cX10_back 3 (some .int) :: wAll) ({ frames := 1, cells := 0, slots := 0, locals := 25 }) (va_Pc [.ref ob, .int 2] (kp G y sz [(ce_X10 ob ob_thrown ob_world ob_images ob_hasImage ob_tape ob_taped ob_five ob_size ob_at ob_from ob_token ob_value ob_faultKind ob_faultPlace ob_fresh ob_parts ob_houses ob_houseMany ob_worthOf ob_byCall ob_over ob_bestSet ob_bestOver ob_bestWorth ob_row ob_tenDebts ob_tenMany ob_fewestBy ob_covered ob_queue ob_cameBy ob_parent ob_met ob_calls ob_callMany ob_calledOn ob_saved ob_many ob_width ob_numbers ob_moving), (ce_i9080 y ob_world fob_world), (ce_i27240 y ob_images fob_images), (ce_z3 y ob_hasImage fob_hasImage)])) (va_Qi (fun (r : Int32) (w : va_W) => (((fob_hasImage 2).toInt = 0) ∧ r = (-6) ∧ w = [(ce_X10 ob ob_thrown ob_world ob_images ob_hasImage ob_tape ob_taped ob_five ob_size ob_at ob_from ob_token ob_value ob_faultKind ob_faultPlace ob_fresh ob_parts ob_houses ob_houseMany ob_worthOf ob_byCall ob_over ob_bestSet ob_bestOver ob_bestWorth ob_row ob_tenDebts ob_tenMany ob_fewestBy ob_covered ob_queue ob_cameBy ob_parent ob_met ob_calls ob_callMany ob_calledOn ob_saved ob_many ob_width ob_numbers ob_moving), (ce_i9080 y ob_world fob_world), (ce_i27240 y ob_images fob_images), (ce_z3 y ob_hasImage fob_hasImage)]) ∨ (∃ (f_209 : Nat → Int32), (RWw f_209) ∧ (¬ (fob_hasImage 2).toInt = 0) ∧ r = 0 ∧ w = [(ce_X10 ob ob_thrown ob_world ob_images ob_hasImage ob_tape ob_taped ob_five ob_size ob_at ob_from ob_token ob_value ob_faultKind ob_faultPlace ob_fresh ob_parts ob_houses ob_houseMany ob_worthOf ob_byCall ob_over ob_bestSet ob_bestOver ob_bestWorth ob_row ob_tenDebts ob_tenMany ob_fewestBy ob_covered ob_queue ob_cameBy ob_parent ob_met ob_calls ob_callMany ob_calledOn ob_saved ob_many ob_width ob_numbers ob_moving), (ce_i9080 y ob_world f_209), (ce_i27240 y ob_images fob_images), (ce_z3 y ob_hasImage fob_hasImage)])) (kq G (va_A [(ce_X10 ob ob_thrown ob_world ob_images ob_hasImage ob_tape ob_taped ob_five ob_size ob_at ob_from ob_token ob_value ob_faultKind ob_faultPlace ob_fresh ob_parts ob_houses ob_houseMany ob_worthOf ob_byCall ob_over ob_bestSet ob_bestOver ob_bestWorth ob_row ob_tenDebts ob_tenMany ob_fewestBy ob_covered ob_queue ob_cameBy ob_parent ob_met ob_calls ob_callMany ob_calledOn ob_saved ob_many ob_width ob_numbers ob_moving), (ce_i9080 y ob_world fob_world), (ce_i27240 y ob_images fob_images), (ce_z3 y ob_hasImage fob_hasImage)] sz)) (va_A [(ce_X10 ob ob_thrown ob_world ob_images ob_hasImage ob_tape ob_taped ob_five ob_size ob_at ob_from ob_token ob_value ob_faultKind ob_faultPlace ob_fresh ob_parts ob_houses ob_houseMany ob_worthOf ob_byCall ob_over ob_bestSet ob_bestOver ob_bestWorth ob_row ob_tenDebts ob_tenMany ob_fewestBy ob_covered ob_queue ob_cameBy ob_parent ob_met ob_calls ob_callMany ob_calledOn ob_saved ob_many ob_width ob_numbers ob_moving), (ce_i9080 y ob_world fob_world), (ce_i27240 y ob_images fob_images), (ce_z3 y ob_hasImage fob_hasImage)] sz)) 0 0 (va_A [(ce_X10 ob ob_thrown ob_world ob_images ob_hasImage ob_tape ob_taped ob_five ob_size ob_at ob_from ob_token ob_value ob_faultKind ob_faultPlace ob_fresh ob_parts ob_houses ob_houseMany ob_worthOf ob_byCall ob_over ob_bestSet ob_bestOver ob_bestWorth ob_row ob_tenDebts ob_tenMany ob_fewestBy ob_covered ob_queue ob_cameBy ob_parent ob_met ob_calls ob_callMany ob_calledOn ob_saved ob_many ob_width ob_numbers ob_moving), (ce_i9080 y ob_world fob_world), (ce_i27240 y ob_images fob_images), (ce_z3 y ob_hasImage fob_hasImage)] sz) := by
  refine Met.ofW (cc := cX10_back) (maxL := 3) (ret := (some .int)) (by decide) rfl ?_
  intro p e s m args below meth c s₁ B hml hv
  obtain ⟨rfl, hsz, hP, hK, hD0⟩ := hv
  have hx := B.exec
  have hb := B.bytes
  have hr := B.returns
  have hw0 : ∀ w ∈ wAll, w.before _ s = true := fun w h => atoms_spec (ws := Cond.code yX10_back cX10_back 3 (some .int) :: wAll) B.pre w (List.mem_cons_of_mem _ h)
  have hown : s.vm.findClass RX10 = some m.cls := findClass_of_methodNamed B.named
  subst hsz
  have hD := hD0.self (sz := s.heap.size)
  generalize hAe : va_A [(ce_X10 ob ob_thrown ob_world ob_images ob_hasImage ob_tape ob_taped ob_five ob_size ob_at ob_from ob_token ob_value ob_faultKind ob_faultPlace ob_fresh ob_parts ob_houses ob_houseMany ob_worthOf ob_byCall ob_over ob_bestSet ob_bestOver ob_bestWorth ob_row ob_tenDebts ob_tenMany ob_fewestBy ob_covered ob_queue ob_cameBy ob_parent ob_met ob_calls ob_callMany ob_calledOn ob_saved ob_many ob_width ob_numbers ob_moving), (ce_i9080 y ob_world fob_world), (ce_i27240 y ob_images fob_images), (ce_z3 y ob_hasImage fob_hasImage)] s.heap.size = A at hD ⊢
  have hA : ∀ q : Nat, s.heap.size ≤ q → A q := fun q h => by rw [← hAe]; exact Or.inr h
  have hS : va_S A s.heap s.heap [] := va_S.rf
  have hP : va_P G vwCl [(ce_X10 ob ob_thrown ob_world ob_images ob_hasImage ob_tape ob_taped ob_five ob_size ob_at ob_from ob_token ob_value ob_faultKind ob_faultPlace ob_fresh ob_parts ob_houses ob_houseMany ob_worthOf ob_byCall ob_over ob_bestSet ob_bestOver ob_bestWorth ob_row ob_tenDebts ob_tenMany ob_fewestBy ob_covered ob_queue ob_cameBy ob_parent ob_met ob_calls ob_callMany ob_calledOn ob_saved ob_many ob_width ob_numbers ob_moving), (ce_i9080 y ob_world fob_world), (ce_i27240 y ob_images fob_images), (ce_z3 y ob_hasImage fob_hasImage)] s.heap := hP
  have hl := lv_entry ([.ref ob, .int 2]) (n := 3) (Nat.le_of_ble_eq_true rfl)
  rw [lg_entry_eq]
  generalize (lg_sl ([.ref ob, .int 2]) ++ List.replicate (3 - (lg_sl ([.ref ob, .int 2])).length) Slot.unset).toArray = ls at hl ⊢
  have hl : lv_has ls 3 [(0, .ref ob), (1, .int 2)] := hl
  refine lv_iload_n hx hb dX10_back_0 rfl (lv_at hl 1 rfl) ?_
  refine lv_i2l (v := 2) hx hb dX10_back_1 (by decide) ?_
  refine lv_lconst (v := 0) hx hb dX10_back_2 (by decide) ?_
  refine lv_ldc2 (own := RX10) (v := 2) hx hb hown (hw0 _ m_360) dX10_back_3 ?_
  refine cSim (As := [.long 2, .long 0, .long 2]) (rest := []) ⟨hx, hb, hml, hown, hw0⟩ hA hK hP hD hS [] (sX10_in l G y _ 2 0 2 ) rfl ⟨(callB_of 3 hw0 (gA m_516) rfl rfl rfl (hw0 _ m_41) (hw0 _ m_345) cb_X10_in ⟨Nat.le_of_ble_eq_true rfl, Nat.le_of_ble_eq_true rfl⟩), (hw0 _ m_346)⟩ rfl hl.1 (Nat.le_of_ble_eq_true rfl) dX10_back_6 ⟨Nat.le_of_ble_eq_true rfl, Nat.le_of_ble_eq_true rfl⟩ (fun r_1001 w_1001 H locs hw_1001 hP hD hS => ?_)
  rcases hw_1001 with ⟨h_1002, rfl, rfl⟩ | ⟨h_1003, rfl, rfl⟩
  · skip
    have h_1004 : 2 < (0 : Int) ∨ (2 : Int) < 2 := in_n h_1002 (by decide) (by decide) (by decide)
    omega
  · skip
    have h_1005 : (0 : Int) ≤ 2 ∧ 2 ≤ (2 : Int) := in_y h_1003 (by decide) (by decide) (by decide)
    obtain ⟨hP, hD⟩ : vPD G A H [(ce_X10 ob ob_thrown ob_world ob_images ob_hasImage ob_tape ob_taped ob_five ob_size ob_at ob_from ob_token ob_value ob_faultKind ob_faultPlace ob_fresh ob_parts ob_houses ob_houseMany ob_worthOf ob_byCall ob_over ob_bestSet ob_bestOver ob_bestWorth ob_row ob_tenDebts ob_tenMany ob_fewestBy ob_covered ob_queue ob_cameBy ob_parent ob_met ob_calls ob_callMany ob_calledOn ob_saved ob_many ob_width ob_numbers ob_moving), (ce_i9080 y ob_world fob_world), (ce_i27240 y ob_images fob_images), (ce_z3 y ob_hasImage fob_hasImage)] := ⟨hP, hD⟩
    refine lv_if_ne (tgt := 15) hx hb dX10_back_9 (by decide) (fun _ => ?_) (fun c9 => absurd c9 (by decide))
    refine lv_aload_n hx hb dX10_back_15 rfl (lv_at hl 0 rfl) ?_
    refine va_get (D := G) (ci := 10) (v := .ref ob_hasImage) (C := RX10) (T := TX10) (N := 41) hx hb hw0 inA_wsX100 hown hK.1 hP 0 rfl rfl 3 (by decide) (hw0 _ m_361) (fun _ h9 => h9) rfl dX10_back_16 ?_
    refine lv_iload_n hx hb dX10_back_19 rfl (lv_at hl 1 rfl) ?_
    refine va_zald hx hb hK.1 hP 3 3 rfl rfl (vi (bkc (x := 2) (c := 2) (by decide)) (by decide)) dX10_back_20 ?_
    refine lv_topi (fun v_1006 ev_1006 => ?_)
    have bv_1006 : (0 : Int) ≤ v_1006.toInt ∧ v_1006.toInt ≤ 1 := rd_b ev_1006 p_fob_hasImage
    have yv_1006 : v_1006.toInt = (fob_hasImage 2).toInt := congrArg Int32.toInt ev_1006
    refine lv_if_ne (tgt := 27) hx hb dX10_back_21 (by decide) (fun c_1007 => ?_) (fun c_1007 => ?_)
    · skip
      have nc_1007 := nb_ne (1) (1) c_1007 bv_1006 (k := 0) (by decide) (by decide)
      refine lv_iconst (v := 0) hx hb dX10_back_27 (by decide) ?_
      refine lv_istore_n (lv' := [(2, .int 0), (0, .ref ob), (1, .int 2)]) hx hb dX10_back_28 rfl hl (by decide) rfl (fun ls hl => ?_)
      refine loopX (fun n H locs ls st => ∃ (v_1091 : Int32) (f_1092 : Nat → Int32), (9080 - v_1091.toInt).toNat = n ∧ ((0 : Int) ≤ v_1091.toInt ∧ v_1091.toInt ≤ 9080) ∧ (cpR f_1092 fob_world fob_images 0 18160 0 v_1091.toInt) ∧ st = [] ∧ vPD G A H [(ce_X10 ob ob_thrown ob_world ob_images ob_hasImage ob_tape ob_taped ob_five ob_size ob_at ob_from ob_token ob_value ob_faultKind ob_faultPlace ob_fresh ob_parts ob_houses ob_houseMany ob_worthOf ob_byCall ob_over ob_bestSet ob_bestOver ob_bestWorth ob_row ob_tenDebts ob_tenMany ob_fewestBy ob_covered ob_queue ob_cameBy ob_parent ob_met ob_calls ob_callMany ob_calledOn ob_saved ob_many ob_width ob_numbers ob_moving), (ce_i9080 y ob_world f_1092), (ce_i27240 y ob_images fob_images), (ce_z3 y ob_hasImage fob_hasImage)] ∧ va_S A s.heap H locs ∧ lv_has ls 3 [(2, .int v_1091), (0, .ref ob), (1, .int 2)]) ?_ (n := (9080 - (0 : Int32).toInt).toNat) ⟨0, fob_world, rfl, (bw (0) (9080) (bkc (x := 0) (c := 0) (by decide)) (by decide)), (cp_0 (by have h90 : Int32.toInt 0 = 0 := (by decide); have h91 : Int32.toInt 2 = 2 := (by decide); omega)), rfl, ⟨hP, hD⟩, hS, lv_sub hl [0, 1, 2] rfl⟩
      rintro n ih_1098 H locs ls st ⟨v_1091, f_1092, hn_1098, bv_1091, rl1092_0, rfl, ⟨hP, hD⟩, hS, hl⟩
      refine lv_iload_n hx hb dX10_back_29 rfl (lv_at hl 0 rfl) ?_
      refine lv_sipush (v := 9080) hx hb dX10_back_30 (by decide) ?_
      refine lv_icmp_ge (tgt := 60) hx hb dX10_back_33 (by decide) (fun c_1099 => ?_) (fun c_1099 => ?_)
      · skip
        have nc_1099 := nb_le (9080) (9080) c_1099 (bkc (x := 9080) (c := 9080) (by decide)) bv_1091 (by decide)
        have kf_1092 : RWw f_1092 := RW_back rl1092_0 (by omega) (RI_at p_fob_images 2 (by decide))
        refine lv_iconst (v := 0) hx hb dX10_back_60 (by decide) ?_
        exact W.iret (v := 0) hx hb hr (fun t ht hW => ⟨⟨0, _, rfl, Or.inr (⟨f_1092, kf_1092, by have h90 : Int32.toInt 0 = 0 := (by decide); have h91 : Int32.toInt 2 = 2 := (by decide); omega, rfl, rfl⟩), by rw [ht]; exact hP, hD⟩, hS.F ht⟩) hS.2.2 dX10_back_61
      · skip
        have nc_1099 := nb_nle (9079) (9080) c_1099 bv_1091 (bkc (x := 9080) (c := 9080) (by decide)) (by decide)
        refine lv_aload_n hx hb dX10_back_36 rfl (lv_at hl 1 rfl) ?_
        refine va_get (D := G) (ci := 10) (v := .ref ob_world) (C := RX10) (T := TX10) (N := 41) hx hb hw0 inA_wsX100 hown hK.1 hP 0 rfl rfl 1 (by decide) (hw0 _ m_352) (fun _ h9 => h9) rfl dX10_back_37 ?_
        refine lv_iload_n hx hb dX10_back_40 rfl (lv_at hl 0 rfl) ?_
        refine lv_aload_n hx hb dX10_back_41 rfl (lv_at hl 1 rfl) ?_
        refine va_get (D := G) (ci := 10) (v := .ref ob_images) (C := RX10) (T := TX10) (N := 41) hx hb hw0 inA_wsX100 hown hK.1 hP 0 rfl rfl 2 (by decide) (hw0 _ m_362) (fun _ h9 => h9) rfl dX10_back_42 ?_
        refine lv_sipush (v := 9080) hx hb dX10_back_45 (by decide) ?_
        refine lv_iload_n hx hb dX10_back_48 rfl (lv_at hl 2 rfl) ?_
        refine lv_imul hx hb dX10_back_49 ?_
        refine lv_topi (fun v_1100 ev_1100 => ?_)
        obtain rfl : 18160 = v_1100 := (ev_1100.trans (by decide)).symm
        refine lv_iload_n hx hb dX10_back_50 rfl (lv_at hl 0 rfl) ?_
        refine lv_iadd hx hb dX10_back_51 ?_
        refine lv_topi (fun v_1101 ev_1101 => ?_)
        have qv_1101 := ba_add ev_1101 (bkc (x := 18160) (c := 18160) (by decide)) nc_1099.1 (by decide)
        have bv_1101 : (18160 : Int) ≤ v_1101.toInt ∧ v_1101.toInt ≤ 27239 := bq_add qv_1101 (bkc (x := 18160) (c := 18160) (by decide)) nc_1099.1 _ _ (by decide)
        have qv_1101 : v_1101.toInt = (18160) + v_1091.toInt := qv_1101
        refine va_iald hx hb hK.1 hP 2 1 rfl rfl (vi bv_1101 (by decide)) dX10_back_52 ?_
        refine lv_topi (fun v_1102 ev_1102 => ?_)
        refine va_iast hx hb hK.1 hP hD hS 1 1 rfl rfl (vi nc_1099.1 (by decide)) dX10_back_53 (fun H locs hP hD hS => ?_)
        generalize hf_1103 : (upd f_1092 (v_1091 : Int32).toNatClampNeg v_1102) = f_1103 at hP hD
        obtain ⟨hP, hD⟩ : vPD G A H [(ce_X10 ob ob_thrown ob_world ob_images ob_hasImage ob_tape ob_taped ob_five ob_size ob_at ob_from ob_token ob_value ob_faultKind ob_faultPlace ob_fresh ob_parts ob_houses ob_houseMany ob_worthOf ob_byCall ob_over ob_bestSet ob_bestOver ob_bestWorth ob_row ob_tenDebts ob_tenMany ob_fewestBy ob_covered ob_queue ob_cameBy ob_parent ob_met ob_calls ob_callMany ob_calledOn ob_saved ob_many ob_width ob_numbers ob_moving), (ce_i9080 y ob_world f_1103), (ce_i27240 y ob_images fob_images), (ce_z3 y ob_hasImage fob_hasImage)] := ⟨hP, hD⟩
        obtain ⟨v_1104, ev_1104⟩ : ∃ z : Int32, z = v_1091 + 1 := ⟨_, rfl⟩
        have qv_1104 := ba_add ev_1104 nc_1099.1 (bkc (x := 1) (c := 1) (by decide)) (by decide)
        have bv_1104 : (1 : Int) ≤ v_1104.toInt ∧ v_1104.toInt ≤ 9080 := bq_add qv_1104 nc_1099.1 (bkc (x := 1) (c := 1) (by decide)) _ _ (by decide)
        have qv_1104 : v_1104.toInt = v_1091.toInt + (1) := qv_1104
        refine lv_iinc (v := v_1104) (lv' := [(2, .int v_1104), (0, .ref ob), (1, .int 2)]) hx hb dX10_back_54 hl (k := 0) rfl (ev_1104.symm) (by decide) rfl (fun ls hl => ?_)
        refine lv_goto (tgt := 29) hx hb dX10_back_57 (by decide) ?_
        exact ih_1098 _ (ml_inc (hi := 9080) hn_1098 qv_1104 (by decide) ((bw (0) (9080) bv_1104 (by decide))).2) _ _ _ _ ⟨v_1104, f_1103, rfl, (bw (0) (9080) bv_1104 (by decide)), (cp_s rl1092_0 hf_1103 ev_1102 ((cl_to (by omega)).trans (by omega)) ((cl_to (by omega)).trans (by omega)) (by omega) (by omega)), rfl, ⟨hP, hD⟩, hS, lv_sub hl [0, 1, 2] rfl⟩
    · skip
      have nc_1007 := nb_eq (0) (0) c_1007 bv_1006 (bkc (x := 0) (c := 0) (by decide)) (by decide)
      refine lv_bipush (v := (-6)) hx hb dX10_back_24 (by decide) ?_
      exact W.iret (v := (-6)) hx hb hr (fun t ht hW => ⟨⟨(-6), _, rfl, Or.inl (⟨by have h90 : Int32.toInt (-6) = -6 := (by decide); have h91 : Int32.toInt 2 = 2 := (by decide); omega, rfl, rfl⟩), by rw [ht]; exact hP, hD⟩, hS.F ht⟩) hS.2.2 dX10_back_26

set_option maxHeartbeats 4000000 in
set_option maxRecDepth 100000 in
theorem skeepMlo (l : Launch) (G : va_G) (y : Nat → ClassId) (sz : Nat) (ob : Nat) (a1 : Int32) (ob_thrown : Int32) (ob_world : Nat) (ob_images : Nat) (ob_hasImage : Nat) (ob_tape : Nat) (ob_taped : Int32) (ob_five : Nat) (ob_size : Int32) (ob_at : Int32) (ob_from : Int32) (ob_token : Int32) (ob_value : Int32) (ob_faultKind : Int32) (ob_faultPlace : Int32) (ob_fresh : Nat) (ob_parts : Nat) (ob_houses : Nat) (ob_houseMany : Int32) (ob_worthOf : Nat) (ob_byCall : Nat) (ob_over : Nat) (ob_bestSet : Int32) (ob_bestOver : Int32) (ob_bestWorth : Int32) (ob_row : Nat) (ob_tenDebts : Nat) (ob_tenMany : Int32) (ob_fewestBy : Nat) (ob_covered : Nat) (ob_queue : Nat) (ob_cameBy : Nat) (ob_parent : Nat) (ob_met : Nat) (ob_calls : Nat) (ob_callMany : Int32) (ob_calledOn : Nat) (ob_saved : Nat) (ob_many : Nat) (ob_width : Nat) (ob_numbers : Nat) (ob_moving : Nat) (p_ob_taped : (0 : Int) ≤ ob_taped.toInt ∧ ob_taped.toInt ≤ 1400) (p_ob_size : (0 : Int) ≤ ob_size.toInt ∧ ob_size.toInt ≤ 1400) (p_ob_at : (0 : Int) ≤ ob_at.toInt ∧ ob_at.toInt ≤ 1400) (p_ob_from : (0 : Int) ≤ ob_from.toInt ∧ ob_from.toInt ≤ 1400) (p_ob_token : (0 : Int) ≤ ob_token.toInt ∧ ob_token.toInt ≤ 4) (p_ob_value : (0 : Int) ≤ ob_value.toInt ∧ ob_value.toInt ≤ 9999) (p_ob_faultKind : (0 : Int) ≤ ob_faultKind.toInt ∧ ob_faultKind.toInt ≤ 3) (p_ob_houseMany : (0 : Int) ≤ ob_houseMany.toInt ∧ ob_houseMany.toInt ≤ 10) (p_ob_bestSet : (0 : Int) ≤ ob_bestSet.toInt ∧ ob_bestSet.toInt ≤ 1023) (p_ob_bestOver : (-1 : Int) ≤ ob_bestOver.toInt ∧ ob_bestOver.toInt ≤ 180) (p_ob_tenMany : (0 : Int) ≤ ob_tenMany.toInt ∧ ob_tenMany.toInt ≤ 10) (p_ob_callMany : (0 : Int) ≤ ob_callMany.toInt ∧ ob_callMany.toInt ≤ 16) (p_a1 : (-2147483648 : Int) ≤ a1.toInt ∧ a1.toInt ≤ -1) : Met l yX10_keep (Cond.code yX10_keep cX10_keep 3 (some .int) :: wAll) ({ frames := 1, cells := 0, slots := 0, locals := 25 }) (va_Pc [.ref ob, .int a1] (kp G y sz [(ce_X10 ob ob_thrown ob_world ob_images ob_hasImage ob_tape ob_taped ob_five ob_size ob_at ob_from ob_token ob_value ob_faultKind ob_faultPlace ob_fresh ob_parts ob_houses ob_houseMany ob_worthOf ob_byCall ob_over ob_bestSet ob_bestOver ob_bestWorth ob_row ob_tenDebts ob_tenMany ob_fewestBy ob_covered ob_queue ob_cameBy ob_parent ob_met ob_calls ob_callMany ob_calledOn ob_saved ob_many ob_width ob_numbers ob_moving)])) (va_Qi (fun (r : Int32) (w : va_W) => (r = (-2) ∧ w = [(ce_X10 ob ob_thrown ob_world ob_images ob_hasImage ob_tape ob_taped ob_five ob_size ob_at ob_from ob_token ob_value ob_faultKind ob_faultPlace ob_fresh ob_parts ob_houses ob_houseMany ob_worthOf ob_byCall ob_over ob_bestSet ob_bestOver ob_bestWorth ob_row ob_tenDebts ob_tenMany ob_fewestBy ob_covered ob_queue ob_cameBy ob_parent ob_met ob_calls ob_callMany ob_calledOn ob_saved ob_many ob_width ob_numbers ob_moving)])) (kq G (va_A [(ce_X10 ob ob_thrown ob_world ob_images ob_hasImage ob_tape ob_taped ob_five ob_size ob_at ob_from ob_token ob_value ob_faultKind ob_faultPlace ob_fresh ob_parts ob_houses ob_houseMany ob_worthOf ob_byCall ob_over ob_bestSet ob_bestOver ob_bestWorth ob_row ob_tenDebts ob_tenMany ob_fewestBy ob_covered ob_queue ob_cameBy ob_parent ob_met ob_calls ob_callMany ob_calledOn ob_saved ob_many ob_width ob_numbers ob_moving)] sz)) (va_A [(ce_X10 ob ob_thrown ob_world ob_images ob_hasImage ob_tape ob_taped ob_five ob_size ob_at ob_from ob_token ob_value ob_faultKind ob_faultPlace ob_fresh ob_parts ob_houses ob_houseMany ob_worthOf ob_byCall ob_over ob_bestSet ob_bestOver ob_bestWorth ob_row ob_tenDebts ob_tenMany ob_fewestBy ob_covered ob_queue ob_cameBy ob_parent ob_met ob_calls ob_callMany ob_calledOn ob_saved ob_many ob_width ob_numbers ob_moving)] sz)) 0 0 (va_A [(ce_X10 ob ob_thrown ob_world ob_images ob_hasImage ob_tape ob_taped ob_five ob_size ob_at ob_from ob_token ob_value ob_faultKind ob_faultPlace ob_fresh ob_parts ob_houses ob_houseMany ob_worthOf ob_byCall ob_over ob_bestSet ob_bestOver ob_bestWorth ob_row ob_tenDebts ob_tenMany ob_fewestBy ob_covered ob_queue ob_cameBy ob_parent ob_met ob_calls ob_callMany ob_calledOn ob_saved ob_many ob_width ob_numbers ob_moving)] sz) := by
  refine Met.ofW (cc := cX10_keep) (maxL := 3) (ret := (some .int)) (by decide) rfl ?_
  intro p e s m args below meth c s₁ B hml hv
  obtain ⟨rfl, hsz, hP, hK, hD0⟩ := hv
  have hx := B.exec
  have hb := B.bytes
  have hr := B.returns
  have hw0 : ∀ w ∈ wAll, w.before _ s = true := fun w h => atoms_spec (ws := Cond.code yX10_keep cX10_keep 3 (some .int) :: wAll) B.pre w (List.mem_cons_of_mem _ h)
  have hown : s.vm.findClass RX10 = some m.cls := findClass_of_methodNamed B.named
  subst hsz
  have hD := hD0.self (sz := s.heap.size)
  generalize hAe : va_A [(ce_X10 ob ob_thrown ob_world ob_images ob_hasImage ob_tape ob_taped ob_five ob_size ob_at ob_from ob_token ob_value ob_faultKind ob_faultPlace ob_fresh ob_parts ob_houses ob_houseMany ob_worthOf ob_byCall ob_over ob_bestSet ob_bestOver ob_bestWorth ob_row ob_tenDebts ob_tenMany ob_fewestBy ob_covered ob_queue ob_cameBy ob_parent ob_met ob_calls ob_callMany ob_calledOn ob_saved ob_many ob_width ob_numbers ob_moving)] s.heap.size = A at hD ⊢
  have hA : ∀ q : Nat, s.heap.size ≤ q → A q := fun q h => by rw [← hAe]; exact Or.inr h
  have hS : va_S A s.heap s.heap [] := va_S.rf
  have hP : va_P G vwCl [(ce_X10 ob ob_thrown ob_world ob_images ob_hasImage ob_tape ob_taped ob_five ob_size ob_at ob_from ob_token ob_value ob_faultKind ob_faultPlace ob_fresh ob_parts ob_houses ob_houseMany ob_worthOf ob_byCall ob_over ob_bestSet ob_bestOver ob_bestWorth ob_row ob_tenDebts ob_tenMany ob_fewestBy ob_covered ob_queue ob_cameBy ob_parent ob_met ob_calls ob_callMany ob_calledOn ob_saved ob_many ob_width ob_numbers ob_moving)] s.heap := hP
  have hl := lv_entry ([.ref ob, .int a1]) (n := 3) (Nat.le_of_ble_eq_true rfl)
  rw [lg_entry_eq]
  generalize (lg_sl ([.ref ob, .int a1]) ++ List.replicate (3 - (lg_sl ([.ref ob, .int a1])).length) Slot.unset).toArray = ls at hl ⊢
  have hl : lv_has ls 3 [(0, .ref ob), (1, .int a1)] := hl
  refine lv_iload_n hx hb dX10_keep_0 rfl (lv_at hl 1 rfl) ?_
  refine lv_i2l hx hb dX10_keep_1 rfl ?_
  refine lv_lconst (v := 0) hx hb dX10_keep_2 (by decide) ?_
  refine lv_ldc2 (own := RX10) (v := 2) hx hb hown (hw0 _ m_360) dX10_keep_3 ?_
  refine cSim (As := [.long (a1).toInt64, .long 0, .long 2]) (rest := []) ⟨hx, hb, hml, hown, hw0⟩ hA hK hP hD hS [] (sX10_in l G y _ ((a1).toInt64) 0 2 ) rfl ⟨(callB_of 3 hw0 (gA m_516) rfl rfl rfl (hw0 _ m_41) (hw0 _ m_345) cb_X10_in ⟨Nat.le_of_ble_eq_true rfl, Nat.le_of_ble_eq_true rfl⟩), (hw0 _ m_346)⟩ rfl hl.1 (Nat.le_of_ble_eq_true rfl) dX10_keep_6 ⟨Nat.le_of_ble_eq_true rfl, Nat.le_of_ble_eq_true rfl⟩ (fun r_1001 w_1001 H locs hw_1001 hP hD hS => ?_)
  rcases hw_1001 with ⟨h_1002, rfl, rfl⟩ | ⟨h_1003, rfl, rfl⟩
  · skip
    have h_1004 : a1.toInt < (0 : Int) ∨ (2 : Int) < a1.toInt := in_n h_1002 (Int32.toInt_toInt64 _) (by decide) (by decide)
    obtain ⟨hP, hD⟩ : vPD G A H [(ce_X10 ob ob_thrown ob_world ob_images ob_hasImage ob_tape ob_taped ob_five ob_size ob_at ob_from ob_token ob_value ob_faultKind ob_faultPlace ob_fresh ob_parts ob_houses ob_houseMany ob_worthOf ob_byCall ob_over ob_bestSet ob_bestOver ob_bestWorth ob_row ob_tenDebts ob_tenMany ob_fewestBy ob_covered ob_queue ob_cameBy ob_parent ob_met ob_calls ob_callMany ob_calledOn ob_saved ob_many ob_width ob_numbers ob_moving)] := ⟨hP, hD⟩
    refine lv_if_ne (tgt := 15) hx hb dX10_keep_9 (by decide) (fun c9 => absurd (by decide) c9) (fun _ => ?_)
    refine lv_bipush (v := (-2)) hx hb dX10_keep_12 (by decide) ?_
    exact W.iret (v := (-2)) hx hb hr (fun t ht hW => ⟨⟨(-2), _, rfl, ⟨rfl, rfl⟩, by rw [ht]; exact hP, hD⟩, hS.F ht⟩) hS.2.2 dX10_keep_14
  · skip
    have h_1005 : (0 : Int) ≤ a1.toInt ∧ a1.toInt ≤ (2 : Int) := in_y h_1003 (Int32.toInt_toInt64 _) (by decide) (by decide)
    have := p_a1
    omega

set_option maxHeartbeats 4000000 in
set_option maxRecDepth 100000 in
theorem skeepMhi (l : Launch) (G : va_G) (y : Nat → ClassId) (sz : Nat) (ob : Nat) (a1 : Int32) (ob_thrown : Int32) (ob_world : Nat) (ob_images : Nat) (ob_hasImage : Nat) (ob_tape : Nat) (ob_taped : Int32) (ob_five : Nat) (ob_size : Int32) (ob_at : Int32) (ob_from : Int32) (ob_token : Int32) (ob_value : Int32) (ob_faultKind : Int32) (ob_faultPlace : Int32) (ob_fresh : Nat) (ob_parts : Nat) (ob_houses : Nat) (ob_houseMany : Int32) (ob_worthOf : Nat) (ob_byCall : Nat) (ob_over : Nat) (ob_bestSet : Int32) (ob_bestOver : Int32) (ob_bestWorth : Int32) (ob_row : Nat) (ob_tenDebts : Nat) (ob_tenMany : Int32) (ob_fewestBy : Nat) (ob_covered : Nat) (ob_queue : Nat) (ob_cameBy : Nat) (ob_parent : Nat) (ob_met : Nat) (ob_calls : Nat) (ob_callMany : Int32) (ob_calledOn : Nat) (ob_saved : Nat) (ob_many : Nat) (ob_width : Nat) (ob_numbers : Nat) (ob_moving : Nat) (p_ob_taped : (0 : Int) ≤ ob_taped.toInt ∧ ob_taped.toInt ≤ 1400) (p_ob_size : (0 : Int) ≤ ob_size.toInt ∧ ob_size.toInt ≤ 1400) (p_ob_at : (0 : Int) ≤ ob_at.toInt ∧ ob_at.toInt ≤ 1400) (p_ob_from : (0 : Int) ≤ ob_from.toInt ∧ ob_from.toInt ≤ 1400) (p_ob_token : (0 : Int) ≤ ob_token.toInt ∧ ob_token.toInt ≤ 4) (p_ob_value : (0 : Int) ≤ ob_value.toInt ∧ ob_value.toInt ≤ 9999) (p_ob_faultKind : (0 : Int) ≤ ob_faultKind.toInt ∧ ob_faultKind.toInt ≤ 3) (p_ob_houseMany : (0 : Int) ≤ ob_houseMany.toInt ∧ ob_houseMany.toInt ≤ 10) (p_ob_bestSet : (0 : Int) ≤ ob_bestSet.toInt ∧ ob_bestSet.toInt ≤ 1023) (p_ob_bestOver : (-1 : Int) ≤ ob_bestOver.toInt ∧ ob_bestOver.toInt ≤ 180) (p_ob_tenMany : (0 : Int) ≤ ob_tenMany.toInt ∧ ob_tenMany.toInt ≤ 10) (p_ob_callMany : (0 : Int) ≤ ob_callMany.toInt ∧ ob_callMany.toInt ≤ 16) (p_a1 : (3 : Int) ≤ a1.toInt ∧ a1.toInt ≤ 2147483647) : Met l yX10_keep (Cond.code yX10_keep cX10_keep 3 (some .int) :: wAll) ({ frames := 1, cells := 0, slots := 0, locals := 25 }) (va_Pc [.ref ob, .int a1] (kp G y sz [(ce_X10 ob ob_thrown ob_world ob_images ob_hasImage ob_tape ob_taped ob_five ob_size ob_at ob_from ob_token ob_value ob_faultKind ob_faultPlace ob_fresh ob_parts ob_houses ob_houseMany ob_worthOf ob_byCall ob_over ob_bestSet ob_bestOver ob_bestWorth ob_row ob_tenDebts ob_tenMany ob_fewestBy ob_covered ob_queue ob_cameBy ob_parent ob_met ob_calls ob_callMany ob_calledOn ob_saved ob_many ob_width ob_numbers ob_moving)])) (va_Qi (fun (r : Int32) (w : va_W) => (r = (-2) ∧ w = [(ce_X10 ob ob_thrown ob_world ob_images ob_hasImage ob_tape ob_taped ob_five ob_size ob_at ob_from ob_token ob_value ob_faultKind ob_faultPlace ob_fresh ob_parts ob_houses ob_houseMany ob_worthOf ob_byCall ob_over ob_bestSet ob_bestOver ob_bestWorth ob_row ob_tenDebts ob_tenMany ob_fewestBy ob_covered ob_queue ob_cameBy ob_parent ob_met ob_calls ob_callMany ob_calledOn ob_saved ob_many ob_width ob_numbers ob_moving)])) (kq G (va_A [(ce_X10 ob ob_thrown ob_world ob_images ob_hasImage ob_tape ob_taped ob_five ob_size ob_at ob_from ob_token ob_value ob_faultKind ob_faultPlace ob_fresh ob_parts ob_houses ob_houseMany ob_worthOf ob_byCall ob_over ob_bestSet ob_bestOver ob_bestWorth ob_row ob_tenDebts ob_tenMany ob_fewestBy ob_covered ob_queue ob_cameBy ob_parent ob_met ob_calls ob_callMany ob_calledOn ob_saved ob_many ob_width ob_numbers ob_moving)] sz)) (va_A [(ce_X10 ob ob_thrown ob_world ob_images ob_hasImage ob_tape ob_taped ob_five ob_size ob_at ob_from ob_token ob_value ob_faultKind ob_faultPlace ob_fresh ob_parts ob_houses ob_houseMany ob_worthOf ob_byCall ob_over ob_bestSet ob_bestOver ob_bestWorth ob_row ob_tenDebts ob_tenMany ob_fewestBy ob_covered ob_queue ob_cameBy ob_parent ob_met ob_calls ob_callMany ob_calledOn ob_saved ob_many ob_width ob_numbers ob_moving)] sz)) 0 0 (va_A [(ce_X10 ob ob_thrown ob_world ob_images ob_hasImage ob_tape ob_taped ob_five ob_size ob_at ob_from ob_token ob_value ob_faultKind ob_faultPlace ob_fresh ob_parts ob_houses ob_houseMany ob_worthOf ob_byCall ob_over ob_bestSet ob_bestOver ob_bestWorth ob_row ob_tenDebts ob_tenMany ob_fewestBy ob_covered ob_queue ob_cameBy ob_parent ob_met ob_calls ob_callMany ob_calledOn ob_saved ob_many ob_width ob_numbers ob_moving)] sz) := by
  refine Met.ofW (cc := cX10_keep) (maxL := 3) (ret := (some .int)) (by decide) rfl ?_
  intro p e s m args below meth c s₁ B hml hv
  obtain ⟨rfl, hsz, hP, hK, hD0⟩ := hv
  have hx := B.exec
  have hb := B.bytes
  have hr := B.returns
  have hw0 : ∀ w ∈ wAll, w.before _ s = true := fun w h => atoms_spec (ws := Cond.code yX10_keep cX10_keep 3 (some .int) :: wAll) B.pre w (List.mem_cons_of_mem _ h)
  have hown : s.vm.findClass RX10 = some m.cls := findClass_of_methodNamed B.named
  subst hsz
  have hD := hD0.self (sz := s.heap.size)
  generalize hAe : va_A [(ce_X10 ob ob_thrown ob_world ob_images ob_hasImage ob_tape ob_taped ob_five ob_size ob_at ob_from ob_token ob_value ob_faultKind ob_faultPlace ob_fresh ob_parts ob_houses ob_houseMany ob_worthOf ob_byCall ob_over ob_bestSet ob_bestOver ob_bestWorth ob_row ob_tenDebts ob_tenMany ob_fewestBy ob_covered ob_queue ob_cameBy ob_parent ob_met ob_calls ob_callMany ob_calledOn ob_saved ob_many ob_width ob_numbers ob_moving)] s.heap.size = A at hD ⊢
  have hA : ∀ q : Nat, s.heap.size ≤ q → A q := fun q h => by rw [← hAe]; exact Or.inr h
  have hS : va_S A s.heap s.heap [] := va_S.rf
  have hP : va_P G vwCl [(ce_X10 ob ob_thrown ob_world ob_images ob_hasImage ob_tape ob_taped ob_five ob_size ob_at ob_from ob_token ob_value ob_faultKind ob_faultPlace ob_fresh ob_parts ob_houses ob_houseMany ob_worthOf ob_byCall ob_over ob_bestSet ob_bestOver ob_bestWorth ob_row ob_tenDebts ob_tenMany ob_fewestBy ob_covered ob_queue ob_cameBy ob_parent ob_met ob_calls ob_callMany ob_calledOn ob_saved ob_many ob_width ob_numbers ob_moving)] s.heap := hP
  have hl := lv_entry ([.ref ob, .int a1]) (n := 3) (Nat.le_of_ble_eq_true rfl)
  rw [lg_entry_eq]
  generalize (lg_sl ([.ref ob, .int a1]) ++ List.replicate (3 - (lg_sl ([.ref ob, .int a1])).length) Slot.unset).toArray = ls at hl ⊢
  have hl : lv_has ls 3 [(0, .ref ob), (1, .int a1)] := hl
  refine lv_iload_n hx hb dX10_keep_0 rfl (lv_at hl 1 rfl) ?_
  refine lv_i2l hx hb dX10_keep_1 rfl ?_
  refine lv_lconst (v := 0) hx hb dX10_keep_2 (by decide) ?_
  refine lv_ldc2 (own := RX10) (v := 2) hx hb hown (hw0 _ m_360) dX10_keep_3 ?_
  refine cSim (As := [.long (a1).toInt64, .long 0, .long 2]) (rest := []) ⟨hx, hb, hml, hown, hw0⟩ hA hK hP hD hS [] (sX10_in l G y _ ((a1).toInt64) 0 2 ) rfl ⟨(callB_of 3 hw0 (gA m_516) rfl rfl rfl (hw0 _ m_41) (hw0 _ m_345) cb_X10_in ⟨Nat.le_of_ble_eq_true rfl, Nat.le_of_ble_eq_true rfl⟩), (hw0 _ m_346)⟩ rfl hl.1 (Nat.le_of_ble_eq_true rfl) dX10_keep_6 ⟨Nat.le_of_ble_eq_true rfl, Nat.le_of_ble_eq_true rfl⟩ (fun r_1001 w_1001 H locs hw_1001 hP hD hS => ?_)
  rcases hw_1001 with ⟨h_1002, rfl, rfl⟩ | ⟨h_1003, rfl, rfl⟩
  · skip
    have h_1004 : a1.toInt < (0 : Int) ∨ (2 : Int) < a1.toInt := in_n h_1002 (Int32.toInt_toInt64 _) (by decide) (by decide)
    obtain ⟨hP, hD⟩ : vPD G A H [(ce_X10 ob ob_thrown ob_world ob_images ob_hasImage ob_tape ob_taped ob_five ob_size ob_at ob_from ob_token ob_value ob_faultKind ob_faultPlace ob_fresh ob_parts ob_houses ob_houseMany ob_worthOf ob_byCall ob_over ob_bestSet ob_bestOver ob_bestWorth ob_row ob_tenDebts ob_tenMany ob_fewestBy ob_covered ob_queue ob_cameBy ob_parent ob_met ob_calls ob_callMany ob_calledOn ob_saved ob_many ob_width ob_numbers ob_moving)] := ⟨hP, hD⟩
    refine lv_if_ne (tgt := 15) hx hb dX10_keep_9 (by decide) (fun c9 => absurd (by decide) c9) (fun _ => ?_)
    refine lv_bipush (v := (-2)) hx hb dX10_keep_12 (by decide) ?_
    exact W.iret (v := (-2)) hx hb hr (fun t ht hW => ⟨⟨(-2), _, rfl, ⟨rfl, rfl⟩, by rw [ht]; exact hP, hD⟩, hS.F ht⟩) hS.2.2 dX10_keep_14
  · skip
    have h_1005 : (0 : Int) ≤ a1.toInt ∧ a1.toInt ≤ (2 : Int) := in_y h_1003 (Int32.toInt_toInt64 _) (by decide) (by decide)
    have := p_a1
    omega

set_option maxHeartbeats 4000000 in
set_option maxRecDepth 100000 in
theorem sbackMlo (l : Launch) (G : va_G) (y : Nat → ClassId) (sz : Nat) (ob : Nat) (a1 : Int32) (ob_thrown : Int32) (ob_world : Nat) (ob_images : Nat) (ob_hasImage : Nat) (ob_tape : Nat) (ob_taped : Int32) (ob_five : Nat) (ob_size : Int32) (ob_at : Int32) (ob_from : Int32) (ob_token : Int32) (ob_value : Int32) (ob_faultKind : Int32) (ob_faultPlace : Int32) (ob_fresh : Nat) (ob_parts : Nat) (ob_houses : Nat) (ob_houseMany : Int32) (ob_worthOf : Nat) (ob_byCall : Nat) (ob_over : Nat) (ob_bestSet : Int32) (ob_bestOver : Int32) (ob_bestWorth : Int32) (ob_row : Nat) (ob_tenDebts : Nat) (ob_tenMany : Int32) (ob_fewestBy : Nat) (ob_covered : Nat) (ob_queue : Nat) (ob_cameBy : Nat) (ob_parent : Nat) (ob_met : Nat) (ob_calls : Nat) (ob_callMany : Int32) (ob_calledOn : Nat) (ob_saved : Nat) (ob_many : Nat) (ob_width : Nat) (ob_numbers : Nat) (ob_moving : Nat) (p_ob_taped : (0 : Int) ≤ ob_taped.toInt ∧ ob_taped.toInt ≤ 1400) (p_ob_size : (0 : Int) ≤ ob_size.toInt ∧ ob_size.toInt ≤ 1400) (p_ob_at : (0 : Int) ≤ ob_at.toInt ∧ ob_at.toInt ≤ 1400) (p_ob_from : (0 : Int) ≤ ob_from.toInt ∧ ob_from.toInt ≤ 1400) (p_ob_token : (0 : Int) ≤ ob_token.toInt ∧ ob_token.toInt ≤ 4) (p_ob_value : (0 : Int) ≤ ob_value.toInt ∧ ob_value.toInt ≤ 9999) (p_ob_faultKind : (0 : Int) ≤ ob_faultKind.toInt ∧ ob_faultKind.toInt ≤ 3) (p_ob_houseMany : (0 : Int) ≤ ob_houseMany.toInt ∧ ob_houseMany.toInt ≤ 10) (p_ob_bestSet : (0 : Int) ≤ ob_bestSet.toInt ∧ ob_bestSet.toInt ≤ 1023) (p_ob_bestOver : (-1 : Int) ≤ ob_bestOver.toInt ∧ ob_bestOver.toInt ≤ 180) (p_ob_tenMany : (0 : Int) ≤ ob_tenMany.toInt ∧ ob_tenMany.toInt ≤ 10) (p_ob_callMany : (0 : Int) ≤ ob_callMany.toInt ∧ ob_callMany.toInt ≤ 16) (p_a1 : (-2147483648 : Int) ≤ a1.toInt ∧ a1.toInt ≤ -1) : Met l yX10_back (Cond.code yX10_back cX10_back 3 (some .int) :: wAll) ({ frames := 1, cells := 0, slots := 0, locals := 25 }) (va_Pc [.ref ob, .int a1] (kp G y sz [(ce_X10 ob ob_thrown ob_world ob_images ob_hasImage ob_tape ob_taped ob_five ob_size ob_at ob_from ob_token ob_value ob_faultKind ob_faultPlace ob_fresh ob_parts ob_houses ob_houseMany ob_worthOf ob_byCall ob_over ob_bestSet ob_bestOver ob_bestWorth ob_row ob_tenDebts ob_tenMany ob_fewestBy ob_covered ob_queue ob_cameBy ob_parent ob_met ob_calls ob_callMany ob_calledOn ob_saved ob_many ob_width ob_numbers ob_moving)])) (va_Qi (fun (r : Int32) (w : va_W) => (r = (-2) ∧ w = [(ce_X10 ob ob_thrown ob_world ob_images ob_hasImage ob_tape ob_taped ob_five ob_size ob_at ob_from ob_token ob_value ob_faultKind ob_faultPlace ob_fresh ob_parts ob_houses ob_houseMany ob_worthOf ob_byCall ob_over ob_bestSet ob_bestOver ob_bestWorth ob_row ob_tenDebts ob_tenMany ob_fewestBy ob_covered ob_queue ob_cameBy ob_parent ob_met ob_calls ob_callMany ob_calledOn ob_saved ob_many ob_width ob_numbers ob_moving)])) (kq G (va_A [(ce_X10 ob ob_thrown ob_world ob_images ob_hasImage ob_tape ob_taped ob_five ob_size ob_at ob_from ob_token ob_value ob_faultKind ob_faultPlace ob_fresh ob_parts ob_houses ob_houseMany ob_worthOf ob_byCall ob_over ob_bestSet ob_bestOver ob_bestWorth ob_row ob_tenDebts ob_tenMany ob_fewestBy ob_covered ob_queue ob_cameBy ob_parent ob_met ob_calls ob_callMany ob_calledOn ob_saved ob_many ob_width ob_numbers ob_moving)] sz)) (va_A [(ce_X10 ob ob_thrown ob_world ob_images ob_hasImage ob_tape ob_taped ob_five ob_size ob_at ob_from ob_token ob_value ob_faultKind ob_faultPlace ob_fresh ob_parts ob_houses ob_houseMany ob_worthOf ob_byCall ob_over ob_bestSet ob_bestOver ob_bestWorth ob_row ob_tenDebts ob_tenMany ob_fewestBy ob_covered ob_queue ob_cameBy ob_parent ob_met ob_calls ob_callMany ob_calledOn ob_saved ob_many ob_width ob_numbers ob_moving)] sz)) 0 0 (va_A [(ce_X10 ob ob_thrown ob_world ob_images ob_hasImage ob_tape ob_taped ob_five ob_size ob_at ob_from ob_token ob_value ob_faultKind ob_faultPlace ob_fresh ob_parts ob_houses ob_houseMany ob_worthOf ob_byCall ob_over ob_bestSet ob_bestOver ob_bestWorth ob_row ob_tenDebts ob_tenMany ob_fewestBy ob_covered ob_queue ob_cameBy ob_parent ob_met ob_calls ob_callMany ob_calledOn ob_saved ob_many ob_width ob_numbers ob_moving)] sz) := by
  refine Met.ofW (cc := cX10_back) (maxL := 3) (ret := (some .int)) (by decide) rfl ?_
  intro p e s m args below meth c s₁ B hml hv
  obtain ⟨rfl, hsz, hP, hK, hD0⟩ := hv
  have hx := B.exec
  have hb := B.bytes
  have hr := B.returns
  have hw0 : ∀ w ∈ wAll, w.before _ s = true := fun w h => atoms_spec (ws := Cond.code yX10_back cX10_back 3 (some .int) :: wAll) B.pre w (List.mem_cons_of_mem _ h)
  have hown : s.vm.findClass RX10 = some m.cls := findClass_of_methodNamed B.named
  subst hsz
  have hD := hD0.self (sz := s.heap.size)
  generalize hAe : va_A [(ce_X10 ob ob_thrown ob_world ob_images ob_hasImage ob_tape ob_taped ob_five ob_size ob_at ob_from ob_token ob_value ob_faultKind ob_faultPlace ob_fresh ob_parts ob_houses ob_houseMany ob_worthOf ob_byCall ob_over ob_bestSet ob_bestOver ob_bestWorth ob_row ob_tenDebts ob_tenMany ob_fewestBy ob_covered ob_queue ob_cameBy ob_parent ob_met ob_calls ob_callMany ob_calledOn ob_saved ob_many ob_width ob_numbers ob_moving)] s.heap.size = A at hD ⊢
  have hA : ∀ q : Nat, s.heap.size ≤ q → A q := fun q h => by rw [← hAe]; exact Or.inr h
  have hS : va_S A s.heap s.heap [] := va_S.rf
  have hP : va_P G vwCl [(ce_X10 ob ob_thrown ob_world ob_images ob_hasImage ob_tape ob_taped ob_five ob_size ob_at ob_from ob_token ob_value ob_faultKind ob_faultPlace ob_fresh ob_parts ob_houses ob_houseMany ob_worthOf ob_byCall ob_over ob_bestSet ob_bestOver ob_bestWorth ob_row ob_tenDebts ob_tenMany ob_fewestBy ob_covered ob_queue ob_cameBy ob_parent ob_met ob_calls ob_callMany ob_calledOn ob_saved ob_many ob_width ob_numbers ob_moving)] s.heap := hP
  have hl := lv_entry ([.ref ob, .int a1]) (n := 3) (Nat.le_of_ble_eq_true rfl)
  rw [lg_entry_eq]
  generalize (lg_sl ([.ref ob, .int a1]) ++ List.replicate (3 - (lg_sl ([.ref ob, .int a1])).length) Slot.unset).toArray = ls at hl ⊢
  have hl : lv_has ls 3 [(0, .ref ob), (1, .int a1)] := hl
  refine lv_iload_n hx hb dX10_back_0 rfl (lv_at hl 1 rfl) ?_
  refine lv_i2l hx hb dX10_back_1 rfl ?_
  refine lv_lconst (v := 0) hx hb dX10_back_2 (by decide) ?_
  refine lv_ldc2 (own := RX10) (v := 2) hx hb hown (hw0 _ m_360) dX10_back_3 ?_
  refine cSim (As := [.long (a1).toInt64, .long 0, .long 2]) (rest := []) ⟨hx, hb, hml, hown, hw0⟩ hA hK hP hD hS [] (sX10_in l G y _ ((a1).toInt64) 0 2 ) rfl ⟨(callB_of 3 hw0 (gA m_516) rfl rfl rfl (hw0 _ m_41) (hw0 _ m_345) cb_X10_in ⟨Nat.le_of_ble_eq_true rfl, Nat.le_of_ble_eq_true rfl⟩), (hw0 _ m_346)⟩ rfl hl.1 (Nat.le_of_ble_eq_true rfl) dX10_back_6 ⟨Nat.le_of_ble_eq_true rfl, Nat.le_of_ble_eq_true rfl⟩ (fun r_1001 w_1001 H locs hw_1001 hP hD hS => ?_)
  rcases hw_1001 with ⟨h_1002, rfl, rfl⟩ | ⟨h_1003, rfl, rfl⟩
  · skip
    have h_1004 : a1.toInt < (0 : Int) ∨ (2 : Int) < a1.toInt := in_n h_1002 (Int32.toInt_toInt64 _) (by decide) (by decide)
    obtain ⟨hP, hD⟩ : vPD G A H [(ce_X10 ob ob_thrown ob_world ob_images ob_hasImage ob_tape ob_taped ob_five ob_size ob_at ob_from ob_token ob_value ob_faultKind ob_faultPlace ob_fresh ob_parts ob_houses ob_houseMany ob_worthOf ob_byCall ob_over ob_bestSet ob_bestOver ob_bestWorth ob_row ob_tenDebts ob_tenMany ob_fewestBy ob_covered ob_queue ob_cameBy ob_parent ob_met ob_calls ob_callMany ob_calledOn ob_saved ob_many ob_width ob_numbers ob_moving)] := ⟨hP, hD⟩
    refine lv_if_ne (tgt := 15) hx hb dX10_back_9 (by decide) (fun c9 => absurd (by decide) c9) (fun _ => ?_)
    refine lv_bipush (v := (-2)) hx hb dX10_back_12 (by decide) ?_
    exact W.iret (v := (-2)) hx hb hr (fun t ht hW => ⟨⟨(-2), _, rfl, ⟨rfl, rfl⟩, by rw [ht]; exact hP, hD⟩, hS.F ht⟩) hS.2.2 dX10_back_14
  · skip
    have h_1005 : (0 : Int) ≤ a1.toInt ∧ a1.toInt ≤ (2 : Int) := in_y h_1003 (Int32.toInt_toInt64 _) (by decide) (by decide)
    have := p_a1
    omega

set_option maxHeartbeats 4000000 in
set_option maxRecDepth 100000 in
theorem sbackMhi (l : Launch) (G : va_G) (y : Nat → ClassId) (sz : Nat) (ob : Nat) (a1 : Int32) (ob_thrown : Int32) (ob_world : Nat) (ob_images : Nat) (ob_hasImage : Nat) (ob_tape : Nat) (ob_taped : Int32) (ob_five : Nat) (ob_size : Int32) (ob_at : Int32) (ob_from : Int32) (ob_token : Int32) (ob_value : Int32) (ob_faultKind : Int32) (ob_faultPlace : Int32) (ob_fresh : Nat) (ob_parts : Nat) (ob_houses : Nat) (ob_houseMany : Int32) (ob_worthOf : Nat) (ob_byCall : Nat) (ob_over : Nat) (ob_bestSet : Int32) (ob_bestOver : Int32) (ob_bestWorth : Int32) (ob_row : Nat) (ob_tenDebts : Nat) (ob_tenMany : Int32) (ob_fewestBy : Nat) (ob_covered : Nat) (ob_queue : Nat) (ob_cameBy : Nat) (ob_parent : Nat) (ob_met : Nat) (ob_calls : Nat) (ob_callMany : Int32) (ob_calledOn : Nat) (ob_saved : Nat) (ob_many : Nat) (ob_width : Nat) (ob_numbers : Nat) (ob_moving : Nat) (p_ob_taped : (0 : Int) ≤ ob_taped.toInt ∧ ob_taped.toInt ≤ 1400) (p_ob_size : (0 : Int) ≤ ob_size.toInt ∧ ob_size.toInt ≤ 1400) (p_ob_at : (0 : Int) ≤ ob_at.toInt ∧ ob_at.toInt ≤ 1400) (p_ob_from : (0 : Int) ≤ ob_from.toInt ∧ ob_from.toInt ≤ 1400) (p_ob_token : (0 : Int) ≤ ob_token.toInt ∧ ob_token.toInt ≤ 4) (p_ob_value : (0 : Int) ≤ ob_value.toInt ∧ ob_value.toInt ≤ 9999) (p_ob_faultKind : (0 : Int) ≤ ob_faultKind.toInt ∧ ob_faultKind.toInt ≤ 3) (p_ob_houseMany : (0 : Int) ≤ ob_houseMany.toInt ∧ ob_houseMany.toInt ≤ 10) (p_ob_bestSet : (0 : Int) ≤ ob_bestSet.toInt ∧ ob_bestSet.toInt ≤ 1023) (p_ob_bestOver : (-1 : Int) ≤ ob_bestOver.toInt ∧ ob_bestOver.toInt ≤ 180) (p_ob_tenMany : (0 : Int) ≤ ob_tenMany.toInt ∧ ob_tenMany.toInt ≤ 10) (p_ob_callMany : (0 : Int) ≤ ob_callMany.toInt ∧ ob_callMany.toInt ≤ 16) (p_a1 : (3 : Int) ≤ a1.toInt ∧ a1.toInt ≤ 2147483647) : Met l yX10_back (Cond.code yX10_back cX10_back 3 (some .int) :: wAll) ({ frames := 1, cells := 0, slots := 0, locals := 25 }) (va_Pc [.ref ob, .int a1] (kp G y sz [(ce_X10 ob ob_thrown ob_world ob_images ob_hasImage ob_tape ob_taped ob_five ob_size ob_at ob_from ob_token ob_value ob_faultKind ob_faultPlace ob_fresh ob_parts ob_houses ob_houseMany ob_worthOf ob_byCall ob_over ob_bestSet ob_bestOver ob_bestWorth ob_row ob_tenDebts ob_tenMany ob_fewestBy ob_covered ob_queue ob_cameBy ob_parent ob_met ob_calls ob_callMany ob_calledOn ob_saved ob_many ob_width ob_numbers ob_moving)])) (va_Qi (fun (r : Int32) (w : va_W) => (r = (-2) ∧ w = [(ce_X10 ob ob_thrown ob_world ob_images ob_hasImage ob_tape ob_taped ob_five ob_size ob_at ob_from ob_token ob_value ob_faultKind ob_faultPlace ob_fresh ob_parts ob_houses ob_houseMany ob_worthOf ob_byCall ob_over ob_bestSet ob_bestOver ob_bestWorth ob_row ob_tenDebts ob_tenMany ob_fewestBy ob_covered ob_queue ob_cameBy ob_parent ob_met ob_calls ob_callMany ob_calledOn ob_saved ob_many ob_width ob_numbers ob_moving)])) (kq G (va_A [(ce_X10 ob ob_thrown ob_world ob_images ob_hasImage ob_tape ob_taped ob_five ob_size ob_at ob_from ob_token ob_value ob_faultKind ob_faultPlace ob_fresh ob_parts ob_houses ob_houseMany ob_worthOf ob_byCall ob_over ob_bestSet ob_bestOver ob_bestWorth ob_row ob_tenDebts ob_tenMany ob_fewestBy ob_covered ob_queue ob_cameBy ob_parent ob_met ob_calls ob_callMany ob_calledOn ob_saved ob_many ob_width ob_numbers ob_moving)] sz)) (va_A [(ce_X10 ob ob_thrown ob_world ob_images ob_hasImage ob_tape ob_taped ob_five ob_size ob_at ob_from ob_token ob_value ob_faultKind ob_faultPlace ob_fresh ob_parts ob_houses ob_houseMany ob_worthOf ob_byCall ob_over ob_bestSet ob_bestOver ob_bestWorth ob_row ob_tenDebts ob_tenMany ob_fewestBy ob_covered ob_queue ob_cameBy ob_parent ob_met ob_calls ob_callMany ob_calledOn ob_saved ob_many ob_width ob_numbers ob_moving)] sz)) 0 0 (va_A [(ce_X10 ob ob_thrown ob_world ob_images ob_hasImage ob_tape ob_taped ob_five ob_size ob_at ob_from ob_token ob_value ob_faultKind ob_faultPlace ob_fresh ob_parts ob_houses ob_houseMany ob_worthOf ob_byCall ob_over ob_bestSet ob_bestOver ob_bestWorth ob_row ob_tenDebts ob_tenMany ob_fewestBy ob_covered ob_queue ob_cameBy ob_parent ob_met ob_calls ob_callMany ob_calledOn ob_saved ob_many ob_width ob_numbers ob_moving)] sz) := by
  refine Met.ofW (cc := cX10_back) (maxL := 3) (ret := (some .int)) (by decide) rfl ?_
  intro p e s m args below meth c s₁ B hml hv
  obtain ⟨rfl, hsz, hP, hK, hD0⟩ := hv
  have hx := B.exec
  have hb := B.bytes
  have hr := B.returns
  have hw0 : ∀ w ∈ wAll, w.before _ s = true := fun w h => atoms_spec (ws := Cond.code yX10_back cX10_back 3 (some .int) :: wAll) B.pre w (List.mem_cons_of_mem _ h)
  have hown : s.vm.findClass RX10 = some m.cls := findClass_of_methodNamed B.named
  subst hsz
  have hD := hD0.self (sz := s.heap.size)
  generalize hAe : va_A [(ce_X10 ob ob_thrown ob_world ob_images ob_hasImage ob_tape ob_taped ob_five ob_size ob_at ob_from ob_token ob_value ob_faultKind ob_faultPlace ob_fresh ob_parts ob_houses ob_houseMany ob_worthOf ob_byCall ob_over ob_bestSet ob_bestOver ob_bestWorth ob_row ob_tenDebts ob_tenMany ob_fewestBy ob_covered ob_queue ob_cameBy ob_parent ob_met ob_calls ob_callMany ob_calledOn ob_saved ob_many ob_width ob_numbers ob_moving)] s.heap.size = A at hD ⊢
  have hA : ∀ q : Nat, s.heap.size ≤ q → A q := fun q h => by rw [← hAe]; exact Or.inr h
  have hS : va_S A s.heap s.heap [] := va_S.rf
  have hP : va_P G vwCl [(ce_X10 ob ob_thrown ob_world ob_images ob_hasImage ob_tape ob_taped ob_five ob_size ob_at ob_from ob_token ob_value ob_faultKind ob_faultPlace ob_fresh ob_parts ob_houses ob_houseMany ob_worthOf ob_byCall ob_over ob_bestSet ob_bestOver ob_bestWorth ob_row ob_tenDebts ob_tenMany ob_fewestBy ob_covered ob_queue ob_cameBy ob_parent ob_met ob_calls ob_callMany ob_calledOn ob_saved ob_many ob_width ob_numbers ob_moving)] s.heap := hP
  have hl := lv_entry ([.ref ob, .int a1]) (n := 3) (Nat.le_of_ble_eq_true rfl)
  rw [lg_entry_eq]
  generalize (lg_sl ([.ref ob, .int a1]) ++ List.replicate (3 - (lg_sl ([.ref ob, .int a1])).length) Slot.unset).toArray = ls at hl ⊢
  have hl : lv_has ls 3 [(0, .ref ob), (1, .int a1)] := hl
  refine lv_iload_n hx hb dX10_back_0 rfl (lv_at hl 1 rfl) ?_
  refine lv_i2l hx hb dX10_back_1 rfl ?_
  refine lv_lconst (v := 0) hx hb dX10_back_2 (by decide) ?_
  refine lv_ldc2 (own := RX10) (v := 2) hx hb hown (hw0 _ m_360) dX10_back_3 ?_
  refine cSim (As := [.long (a1).toInt64, .long 0, .long 2]) (rest := []) ⟨hx, hb, hml, hown, hw0⟩ hA hK hP hD hS [] (sX10_in l G y _ ((a1).toInt64) 0 2 ) rfl ⟨(callB_of 3 hw0 (gA m_516) rfl rfl rfl (hw0 _ m_41) (hw0 _ m_345) cb_X10_in ⟨Nat.le_of_ble_eq_true rfl, Nat.le_of_ble_eq_true rfl⟩), (hw0 _ m_346)⟩ rfl hl.1 (Nat.le_of_ble_eq_true rfl) dX10_back_6 ⟨Nat.le_of_ble_eq_true rfl, Nat.le_of_ble_eq_true rfl⟩ (fun r_1001 w_1001 H locs hw_1001 hP hD hS => ?_)
  rcases hw_1001 with ⟨h_1002, rfl, rfl⟩ | ⟨h_1003, rfl, rfl⟩
  · skip
    have h_1004 : a1.toInt < (0 : Int) ∨ (2 : Int) < a1.toInt := in_n h_1002 (Int32.toInt_toInt64 _) (by decide) (by decide)
    obtain ⟨hP, hD⟩ : vPD G A H [(ce_X10 ob ob_thrown ob_world ob_images ob_hasImage ob_tape ob_taped ob_five ob_size ob_at ob_from ob_token ob_value ob_faultKind ob_faultPlace ob_fresh ob_parts ob_houses ob_houseMany ob_worthOf ob_byCall ob_over ob_bestSet ob_bestOver ob_bestWorth ob_row ob_tenDebts ob_tenMany ob_fewestBy ob_covered ob_queue ob_cameBy ob_parent ob_met ob_calls ob_callMany ob_calledOn ob_saved ob_many ob_width ob_numbers ob_moving)] := ⟨hP, hD⟩
    refine lv_if_ne (tgt := 15) hx hb dX10_back_9 (by decide) (fun c9 => absurd (by decide) c9) (fun _ => ?_)
    refine lv_bipush (v := (-2)) hx hb dX10_back_12 (by decide) ?_
    exact W.iret (v := (-2)) hx hb hr (fun t ht hW => ⟨⟨(-2), _, rfl, ⟨rfl, rfl⟩, by rw [ht]; exact hP, hD⟩, hS.F ht⟩) hS.2.2 dX10_back_14
  · skip
    have h_1005 : (0 : Int) ≤ a1.toInt ∧ a1.toInt ≤ (2 : Int) := in_y h_1003 (Int32.toInt_toInt64 _) (by decide) (by decide)
    have := p_a1
    omega

set_option maxHeartbeats 4000000 in
set_option maxRecDepth 100000 in
theorem sbesideMlo (l : Launch) (G : va_G) (y : Nat → ClassId) (sz : Nat) (ob : Nat) (a1 : Int32) (ob_thrown : Int32) (ob_world : Nat) (ob_images : Nat) (ob_hasImage : Nat) (ob_tape : Nat) (ob_taped : Int32) (ob_five : Nat) (ob_size : Int32) (ob_at : Int32) (ob_from : Int32) (ob_token : Int32) (ob_value : Int32) (ob_faultKind : Int32) (ob_faultPlace : Int32) (ob_fresh : Nat) (ob_parts : Nat) (ob_houses : Nat) (ob_houseMany : Int32) (ob_worthOf : Nat) (ob_byCall : Nat) (ob_over : Nat) (ob_bestSet : Int32) (ob_bestOver : Int32) (ob_bestWorth : Int32) (ob_row : Nat) (ob_tenDebts : Nat) (ob_tenMany : Int32) (ob_fewestBy : Nat) (ob_covered : Nat) (ob_queue : Nat) (ob_cameBy : Nat) (ob_parent : Nat) (ob_met : Nat) (ob_calls : Nat) (ob_callMany : Int32) (ob_calledOn : Nat) (ob_saved : Nat) (ob_many : Nat) (ob_width : Nat) (ob_numbers : Nat) (ob_moving : Nat) (p_ob_taped : (0 : Int) ≤ ob_taped.toInt ∧ ob_taped.toInt ≤ 1400) (p_ob_size : (0 : Int) ≤ ob_size.toInt ∧ ob_size.toInt ≤ 1400) (p_ob_at : (0 : Int) ≤ ob_at.toInt ∧ ob_at.toInt ≤ 1400) (p_ob_from : (0 : Int) ≤ ob_from.toInt ∧ ob_from.toInt ≤ 1400) (p_ob_token : (0 : Int) ≤ ob_token.toInt ∧ ob_token.toInt ≤ 4) (p_ob_value : (0 : Int) ≤ ob_value.toInt ∧ ob_value.toInt ≤ 9999) (p_ob_faultKind : (0 : Int) ≤ ob_faultKind.toInt ∧ ob_faultKind.toInt ≤ 3) (p_ob_houseMany : (0 : Int) ≤ ob_houseMany.toInt ∧ ob_houseMany.toInt ≤ 10) (p_ob_bestSet : (0 : Int) ≤ ob_bestSet.toInt ∧ ob_bestSet.toInt ≤ 1023) (p_ob_bestOver : (-1 : Int) ≤ ob_bestOver.toInt ∧ ob_bestOver.toInt ≤ 180) (p_ob_tenMany : (0 : Int) ≤ ob_tenMany.toInt ∧ ob_tenMany.toInt ≤ 10) (p_ob_callMany : (0 : Int) ≤ ob_callMany.toInt ∧ ob_callMany.toInt ≤ 16) (p_a1 : (-2147483648 : Int) ≤ a1.toInt ∧ a1.toInt ≤ -1) : Met l yX10_beside (Cond.code yX10_beside cX10_beside 5 (some .int) :: wAll) ({ frames := 1, cells := 0, slots := 0, locals := 25 }) (va_Pc [.ref ob, .int a1] (kp G y sz [(ce_X10 ob ob_thrown ob_world ob_images ob_hasImage ob_tape ob_taped ob_five ob_size ob_at ob_from ob_token ob_value ob_faultKind ob_faultPlace ob_fresh ob_parts ob_houses ob_houseMany ob_worthOf ob_byCall ob_over ob_bestSet ob_bestOver ob_bestWorth ob_row ob_tenDebts ob_tenMany ob_fewestBy ob_covered ob_queue ob_cameBy ob_parent ob_met ob_calls ob_callMany ob_calledOn ob_saved ob_many ob_width ob_numbers ob_moving)])) (va_Qi (fun (r : Int32) (w : va_W) => (r = (-2) ∧ w = [(ce_X10 ob ob_thrown ob_world ob_images ob_hasImage ob_tape ob_taped ob_five ob_size ob_at ob_from ob_token ob_value ob_faultKind ob_faultPlace ob_fresh ob_parts ob_houses ob_houseMany ob_worthOf ob_byCall ob_over ob_bestSet ob_bestOver ob_bestWorth ob_row ob_tenDebts ob_tenMany ob_fewestBy ob_covered ob_queue ob_cameBy ob_parent ob_met ob_calls ob_callMany ob_calledOn ob_saved ob_many ob_width ob_numbers ob_moving)])) (kq G (va_A [(ce_X10 ob ob_thrown ob_world ob_images ob_hasImage ob_tape ob_taped ob_five ob_size ob_at ob_from ob_token ob_value ob_faultKind ob_faultPlace ob_fresh ob_parts ob_houses ob_houseMany ob_worthOf ob_byCall ob_over ob_bestSet ob_bestOver ob_bestWorth ob_row ob_tenDebts ob_tenMany ob_fewestBy ob_covered ob_queue ob_cameBy ob_parent ob_met ob_calls ob_callMany ob_calledOn ob_saved ob_many ob_width ob_numbers ob_moving)] sz)) (va_A [(ce_X10 ob ob_thrown ob_world ob_images ob_hasImage ob_tape ob_taped ob_five ob_size ob_at ob_from ob_token ob_value ob_faultKind ob_faultPlace ob_fresh ob_parts ob_houses ob_houseMany ob_worthOf ob_byCall ob_over ob_bestSet ob_bestOver ob_bestWorth ob_row ob_tenDebts ob_tenMany ob_fewestBy ob_covered ob_queue ob_cameBy ob_parent ob_met ob_calls ob_callMany ob_calledOn ob_saved ob_many ob_width ob_numbers ob_moving)] sz)) 0 0 (va_A [(ce_X10 ob ob_thrown ob_world ob_images ob_hasImage ob_tape ob_taped ob_five ob_size ob_at ob_from ob_token ob_value ob_faultKind ob_faultPlace ob_fresh ob_parts ob_houses ob_houseMany ob_worthOf ob_byCall ob_over ob_bestSet ob_bestOver ob_bestWorth ob_row ob_tenDebts ob_tenMany ob_fewestBy ob_covered ob_queue ob_cameBy ob_parent ob_met ob_calls ob_callMany ob_calledOn ob_saved ob_many ob_width ob_numbers ob_moving)] sz) := by
  refine Met.ofW (cc := cX10_beside) (maxL := 5) (ret := (some .int)) (by decide) rfl ?_
  intro p e s m args below meth c s₁ B hml hv
  obtain ⟨rfl, hsz, hP, hK, hD0⟩ := hv
  have hx := B.exec
  have hb := B.bytes
  have hr := B.returns
  have hw0 : ∀ w ∈ wAll, w.before _ s = true := fun w h => atoms_spec (ws := Cond.code yX10_beside cX10_beside 5 (some .int) :: wAll) B.pre w (List.mem_cons_of_mem _ h)
  have hown : s.vm.findClass RX10 = some m.cls := findClass_of_methodNamed B.named
  subst hsz
  have hD := hD0.self (sz := s.heap.size)
  generalize hAe : va_A [(ce_X10 ob ob_thrown ob_world ob_images ob_hasImage ob_tape ob_taped ob_five ob_size ob_at ob_from ob_token ob_value ob_faultKind ob_faultPlace ob_fresh ob_parts ob_houses ob_houseMany ob_worthOf ob_byCall ob_over ob_bestSet ob_bestOver ob_bestWorth ob_row ob_tenDebts ob_tenMany ob_fewestBy ob_covered ob_queue ob_cameBy ob_parent ob_met ob_calls ob_callMany ob_calledOn ob_saved ob_many ob_width ob_numbers ob_moving)] s.heap.size = A at hD ⊢
  have hA : ∀ q : Nat, s.heap.size ≤ q → A q := fun q h => by rw [← hAe]; exact Or.inr h
  have hS : va_S A s.heap s.heap [] := va_S.rf
  have hP : va_P G vwCl [(ce_X10 ob ob_thrown ob_world ob_images ob_hasImage ob_tape ob_taped ob_five ob_size ob_at ob_from ob_token ob_value ob_faultKind ob_faultPlace ob_fresh ob_parts ob_houses ob_houseMany ob_worthOf ob_byCall ob_over ob_bestSet ob_bestOver ob_bestWorth ob_row ob_tenDebts ob_tenMany ob_fewestBy ob_covered ob_queue ob_cameBy ob_parent ob_met ob_calls ob_callMany ob_calledOn ob_saved ob_many ob_width ob_numbers ob_moving)] s.heap := hP
  have hl := lv_entry ([.ref ob, .int a1]) (n := 5) (Nat.le_of_ble_eq_true rfl)
  rw [lg_entry_eq]
  generalize (lg_sl ([.ref ob, .int a1]) ++ List.replicate (5 - (lg_sl ([.ref ob, .int a1])).length) Slot.unset).toArray = ls at hl ⊢
  have hl : lv_has ls 5 [(0, .ref ob), (1, .int a1)] := hl
  refine lv_iload_n hx hb dX10_beside_0 rfl (lv_at hl 1 rfl) ?_
  refine lv_i2l hx hb dX10_beside_1 rfl ?_
  refine lv_lconst (v := 0) hx hb dX10_beside_2 (by decide) ?_
  refine lv_ldc2 (own := RX10) (v := 2) hx hb hown (hw0 _ m_360) dX10_beside_3 ?_
  refine cSim (As := [.long (a1).toInt64, .long 0, .long 2]) (rest := []) ⟨hx, hb, hml, hown, hw0⟩ hA hK hP hD hS [] (sX10_in l G y _ ((a1).toInt64) 0 2 ) rfl ⟨(callB_of 3 hw0 (gA m_516) rfl rfl rfl (hw0 _ m_41) (hw0 _ m_345) cb_X10_in ⟨Nat.le_of_ble_eq_true rfl, Nat.le_of_ble_eq_true rfl⟩), (hw0 _ m_346)⟩ rfl hl.1 (Nat.le_of_ble_eq_true rfl) dX10_beside_6 ⟨Nat.le_of_ble_eq_true rfl, Nat.le_of_ble_eq_true rfl⟩ (fun r_1001 w_1001 H locs hw_1001 hP hD hS => ?_)
  rcases hw_1001 with ⟨h_1002, rfl, rfl⟩ | ⟨h_1003, rfl, rfl⟩
  · skip
    have h_1004 : a1.toInt < (0 : Int) ∨ (2 : Int) < a1.toInt := in_n h_1002 (Int32.toInt_toInt64 _) (by decide) (by decide)
    obtain ⟨hP, hD⟩ : vPD G A H [(ce_X10 ob ob_thrown ob_world ob_images ob_hasImage ob_tape ob_taped ob_five ob_size ob_at ob_from ob_token ob_value ob_faultKind ob_faultPlace ob_fresh ob_parts ob_houses ob_houseMany ob_worthOf ob_byCall ob_over ob_bestSet ob_bestOver ob_bestWorth ob_row ob_tenDebts ob_tenMany ob_fewestBy ob_covered ob_queue ob_cameBy ob_parent ob_met ob_calls ob_callMany ob_calledOn ob_saved ob_many ob_width ob_numbers ob_moving)] := ⟨hP, hD⟩
    refine lv_if_ne (tgt := 15) hx hb dX10_beside_9 (by decide) (fun c9 => absurd (by decide) c9) (fun _ => ?_)
    refine lv_bipush (v := (-2)) hx hb dX10_beside_12 (by decide) ?_
    exact W.iret (v := (-2)) hx hb hr (fun t ht hW => ⟨⟨(-2), _, rfl, ⟨rfl, rfl⟩, by rw [ht]; exact hP, hD⟩, hS.F ht⟩) hS.2.2 dX10_beside_14
  · skip
    have h_1005 : (0 : Int) ≤ a1.toInt ∧ a1.toInt ≤ (2 : Int) := in_y h_1003 (Int32.toInt_toInt64 _) (by decide) (by decide)
    have := p_a1
    omega

set_option maxHeartbeats 4000000 in
set_option maxRecDepth 100000 in
theorem sbesideMhi (l : Launch) (G : va_G) (y : Nat → ClassId) (sz : Nat) (ob : Nat) (a1 : Int32) (ob_thrown : Int32) (ob_world : Nat) (ob_images : Nat) (ob_hasImage : Nat) (ob_tape : Nat) (ob_taped : Int32) (ob_five : Nat) (ob_size : Int32) (ob_at : Int32) (ob_from : Int32) (ob_token : Int32) (ob_value : Int32) (ob_faultKind : Int32) (ob_faultPlace : Int32) (ob_fresh : Nat) (ob_parts : Nat) (ob_houses : Nat) (ob_houseMany : Int32) (ob_worthOf : Nat) (ob_byCall : Nat) (ob_over : Nat) (ob_bestSet : Int32) (ob_bestOver : Int32) (ob_bestWorth : Int32) (ob_row : Nat) (ob_tenDebts : Nat) (ob_tenMany : Int32) (ob_fewestBy : Nat) (ob_covered : Nat) (ob_queue : Nat) (ob_cameBy : Nat) (ob_parent : Nat) (ob_met : Nat) (ob_calls : Nat) (ob_callMany : Int32) (ob_calledOn : Nat) (ob_saved : Nat) (ob_many : Nat) (ob_width : Nat) (ob_numbers : Nat) (ob_moving : Nat) (p_ob_taped : (0 : Int) ≤ ob_taped.toInt ∧ ob_taped.toInt ≤ 1400) (p_ob_size : (0 : Int) ≤ ob_size.toInt ∧ ob_size.toInt ≤ 1400) (p_ob_at : (0 : Int) ≤ ob_at.toInt ∧ ob_at.toInt ≤ 1400) (p_ob_from : (0 : Int) ≤ ob_from.toInt ∧ ob_from.toInt ≤ 1400) (p_ob_token : (0 : Int) ≤ ob_token.toInt ∧ ob_token.toInt ≤ 4) (p_ob_value : (0 : Int) ≤ ob_value.toInt ∧ ob_value.toInt ≤ 9999) (p_ob_faultKind : (0 : Int) ≤ ob_faultKind.toInt ∧ ob_faultKind.toInt ≤ 3) (p_ob_houseMany : (0 : Int) ≤ ob_houseMany.toInt ∧ ob_houseMany.toInt ≤ 10) (p_ob_bestSet : (0 : Int) ≤ ob_bestSet.toInt ∧ ob_bestSet.toInt ≤ 1023) (p_ob_bestOver : (-1 : Int) ≤ ob_bestOver.toInt ∧ ob_bestOver.toInt ≤ 180) (p_ob_tenMany : (0 : Int) ≤ ob_tenMany.toInt ∧ ob_tenMany.toInt ≤ 10) (p_ob_callMany : (0 : Int) ≤ ob_callMany.toInt ∧ ob_callMany.toInt ≤ 16) (p_a1 : (3 : Int) ≤ a1.toInt ∧ a1.toInt ≤ 2147483647) : Met l yX10_beside (Cond.code yX10_beside cX10_beside 5 (some .int) :: wAll) ({ frames := 1, cells := 0, slots := 0, locals := 25 }) (va_Pc [.ref ob, .int a1] (kp G y sz [(ce_X10 ob ob_thrown ob_world ob_images ob_hasImage ob_tape ob_taped ob_five ob_size ob_at ob_from ob_token ob_value ob_faultKind ob_faultPlace ob_fresh ob_parts ob_houses ob_houseMany ob_worthOf ob_byCall ob_over ob_bestSet ob_bestOver ob_bestWorth ob_row ob_tenDebts ob_tenMany ob_fewestBy ob_covered ob_queue ob_cameBy ob_parent ob_met ob_calls ob_callMany ob_calledOn ob_saved ob_many ob_width ob_numbers ob_moving)])) (va_Qi (fun (r : Int32) (w : va_W) => (r = (-2) ∧ w = [(ce_X10 ob ob_thrown ob_world ob_images ob_hasImage ob_tape ob_taped ob_five ob_size ob_at ob_from ob_token ob_value ob_faultKind ob_faultPlace ob_fresh ob_parts ob_houses ob_houseMany ob_worthOf ob_byCall ob_over ob_bestSet ob_bestOver ob_bestWorth ob_row ob_tenDebts ob_tenMany ob_fewestBy ob_covered ob_queue ob_cameBy ob_parent ob_met ob_calls ob_callMany ob_calledOn ob_saved ob_many ob_width ob_numbers ob_moving)])) (kq G (va_A [(ce_X10 ob ob_thrown ob_world ob_images ob_hasImage ob_tape ob_taped ob_five ob_size ob_at ob_from ob_token ob_value ob_faultKind ob_faultPlace ob_fresh ob_parts ob_houses ob_houseMany ob_worthOf ob_byCall ob_over ob_bestSet ob_bestOver ob_bestWorth ob_row ob_tenDebts ob_tenMany ob_fewestBy ob_covered ob_queue ob_cameBy ob_parent ob_met ob_calls ob_callMany ob_calledOn ob_saved ob_many ob_width ob_numbers ob_moving)] sz)) (va_A [(ce_X10 ob ob_thrown ob_world ob_images ob_hasImage ob_tape ob_taped ob_five ob_size ob_at ob_from ob_token ob_value ob_faultKind ob_faultPlace ob_fresh ob_parts ob_houses ob_houseMany ob_worthOf ob_byCall ob_over ob_bestSet ob_bestOver ob_bestWorth ob_row ob_tenDebts ob_tenMany ob_fewestBy ob_covered ob_queue ob_cameBy ob_parent ob_met ob_calls ob_callMany ob_calledOn ob_saved ob_many ob_width ob_numbers ob_moving)] sz)) 0 0 (va_A [(ce_X10 ob ob_thrown ob_world ob_images ob_hasImage ob_tape ob_taped ob_five ob_size ob_at ob_from ob_token ob_value ob_faultKind ob_faultPlace ob_fresh ob_parts ob_houses ob_houseMany ob_worthOf ob_byCall ob_over ob_bestSet ob_bestOver ob_bestWorth ob_row ob_tenDebts ob_tenMany ob_fewestBy ob_covered ob_queue ob_cameBy ob_parent ob_met ob_calls ob_callMany ob_calledOn ob_saved ob_many ob_width ob_numbers ob_moving)] sz) := by
  refine Met.ofW (cc := cX10_beside) (maxL := 5) (ret := (some .int)) (by decide) rfl ?_
  intro p e s m args below meth c s₁ B hml hv
  obtain ⟨rfl, hsz, hP, hK, hD0⟩ := hv
  have hx := B.exec
  have hb := B.bytes
  have hr := B.returns
  have hw0 : ∀ w ∈ wAll, w.before _ s = true := fun w h => atoms_spec (ws := Cond.code yX10_beside cX10_beside 5 (some .int) :: wAll) B.pre w (List.mem_cons_of_mem _ h)
  have hown : s.vm.findClass RX10 = some m.cls := findClass_of_methodNamed B.named
  subst hsz
  have hD := hD0.self (sz := s.heap.size)
  generalize hAe : va_A [(ce_X10 ob ob_thrown ob_world ob_images ob_hasImage ob_tape ob_taped ob_five ob_size ob_at ob_from ob_token ob_value ob_faultKind ob_faultPlace ob_fresh ob_parts ob_houses ob_houseMany ob_worthOf ob_byCall ob_over ob_bestSet ob_bestOver ob_bestWorth ob_row ob_tenDebts ob_tenMany ob_fewestBy ob_covered ob_queue ob_cameBy ob_parent ob_met ob_calls ob_callMany ob_calledOn ob_saved ob_many ob_width ob_numbers ob_moving)] s.heap.size = A at hD ⊢
  have hA : ∀ q : Nat, s.heap.size ≤ q → A q := fun q h => by rw [← hAe]; exact Or.inr h
  have hS : va_S A s.heap s.heap [] := va_S.rf
  have hP : va_P G vwCl [(ce_X10 ob ob_thrown ob_world ob_images ob_hasImage ob_tape ob_taped ob_five ob_size ob_at ob_from ob_token ob_value ob_faultKind ob_faultPlace ob_fresh ob_parts ob_houses ob_houseMany ob_worthOf ob_byCall ob_over ob_bestSet ob_bestOver ob_bestWorth ob_row ob_tenDebts ob_tenMany ob_fewestBy ob_covered ob_queue ob_cameBy ob_parent ob_met ob_calls ob_callMany ob_calledOn ob_saved ob_many ob_width ob_numbers ob_moving)] s.heap := hP
  have hl := lv_entry ([.ref ob, .int a1]) (n := 5) (Nat.le_of_ble_eq_true rfl)
  rw [lg_entry_eq]
  generalize (lg_sl ([.ref ob, .int a1]) ++ List.replicate (5 - (lg_sl ([.ref ob, .int a1])).length) Slot.unset).toArray = ls at hl ⊢
  have hl : lv_has ls 5 [(0, .ref ob), (1, .int a1)] := hl
  refine lv_iload_n hx hb dX10_beside_0 rfl (lv_at hl 1 rfl) ?_
  refine lv_i2l hx hb dX10_beside_1 rfl ?_
  refine lv_lconst (v := 0) hx hb dX10_beside_2 (by decide) ?_
  refine lv_ldc2 (own := RX10) (v := 2) hx hb hown (hw0 _ m_360) dX10_beside_3 ?_
  refine cSim (As := [.long (a1).toInt64, .long 0, .long 2]) (rest := []) ⟨hx, hb, hml, hown, hw0⟩ hA hK hP hD hS [] (sX10_in l G y _ ((a1).toInt64) 0 2 ) rfl ⟨(callB_of 3 hw0 (gA m_516) rfl rfl rfl (hw0 _ m_41) (hw0 _ m_345) cb_X10_in ⟨Nat.le_of_ble_eq_true rfl, Nat.le_of_ble_eq_true rfl⟩), (hw0 _ m_346)⟩ rfl hl.1 (Nat.le_of_ble_eq_true rfl) dX10_beside_6 ⟨Nat.le_of_ble_eq_true rfl, Nat.le_of_ble_eq_true rfl⟩ (fun r_1001 w_1001 H locs hw_1001 hP hD hS => ?_)
  rcases hw_1001 with ⟨h_1002, rfl, rfl⟩ | ⟨h_1003, rfl, rfl⟩
  · skip
    have h_1004 : a1.toInt < (0 : Int) ∨ (2 : Int) < a1.toInt := in_n h_1002 (Int32.toInt_toInt64 _) (by decide) (by decide)
    obtain ⟨hP, hD⟩ : vPD G A H [(ce_X10 ob ob_thrown ob_world ob_images ob_hasImage ob_tape ob_taped ob_five ob_size ob_at ob_from ob_token ob_value ob_faultKind ob_faultPlace ob_fresh ob_parts ob_houses ob_houseMany ob_worthOf ob_byCall ob_over ob_bestSet ob_bestOver ob_bestWorth ob_row ob_tenDebts ob_tenMany ob_fewestBy ob_covered ob_queue ob_cameBy ob_parent ob_met ob_calls ob_callMany ob_calledOn ob_saved ob_many ob_width ob_numbers ob_moving)] := ⟨hP, hD⟩
    refine lv_if_ne (tgt := 15) hx hb dX10_beside_9 (by decide) (fun c9 => absurd (by decide) c9) (fun _ => ?_)
    refine lv_bipush (v := (-2)) hx hb dX10_beside_12 (by decide) ?_
    exact W.iret (v := (-2)) hx hb hr (fun t ht hW => ⟨⟨(-2), _, rfl, ⟨rfl, rfl⟩, by rw [ht]; exact hP, hD⟩, hS.F ht⟩) hS.2.2 dX10_beside_14
  · skip
    have h_1005 : (0 : Int) ≤ a1.toInt ∧ a1.toInt ≤ (2 : Int) := in_y h_1003 (Int32.toInt_toInt64 _) (by decide) (by decide)
    have := p_a1
    omega
