set_option maxHeartbeats 4000000 in
set_option maxRecDepth 100000 in
theorem sX10_minutes (l : Launch) (G : va_G) (y : Nat → ClassId) (sz : Nat) (ob : Nat) (a1 : Int32) (a2 : Int32) (ob_thrown : Int32) (ob_world : Nat) (ob_images : Nat) (ob_hasImage : Nat) (ob_tape : Nat) (ob_taped : Int32) (ob_five : Nat) (ob_size : Int32) (ob_at : Int32) (ob_from : Int32) (ob_token : Int32) (ob_value : Int32) (ob_faultKind : Int32) (ob_faultPlace : Int32) (ob_fresh : Nat) (ob_parts : Nat) (ob_houses : Nat) (ob_houseMany : Int32) (ob_worthOf : Nat) (ob_byCall : Nat) (ob_over : Nat) (ob_bestSet : Int32) (ob_bestOver : Int32) (ob_bestWorth : Int32) (ob_row : Nat) (ob_tenDebts : Nat) (ob_tenMany : Int32) (ob_fewestBy : Nat) (ob_covered : Nat) (ob_queue : Nat) (ob_cameBy : Nat) (ob_parent : Nat) (ob_met : Nat) (ob_calls : Nat) (ob_callMany : Int32) (ob_calledOn : Nat) (ob_saved : Nat) (ob_many : Nat) (ob_width : Nat) (ob_numbers : Nat) (ob_moving : Nat) (fob_world : Nat → Int32) (p_fob_world : RWw fob_world) (p_ob_taped : (0 : Int) ≤ ob_taped.toInt ∧ ob_taped.toInt ≤ 1400) (p_ob_size : (0 : Int) ≤ ob_size.toInt ∧ ob_size.toInt ≤ 1400) (p_ob_at : (0 : Int) ≤ ob_at.toInt ∧ ob_at.toInt ≤ 1400) (p_ob_from : (0 : Int) ≤ ob_from.toInt ∧ ob_from.toInt ≤ 1400) (p_ob_token : (0 : Int) ≤ ob_token.toInt ∧ ob_token.toInt ≤ 4) (p_ob_value : (0 : Int) ≤ ob_value.toInt ∧ ob_value.toInt ≤ 9999) (p_ob_faultKind : (0 : Int) ≤ ob_faultKind.toInt ∧ ob_faultKind.toInt ≤ 3) (p_ob_houseMany : (0 : Int) ≤ ob_houseMany.toInt ∧ ob_houseMany.toInt ≤ 10) (p_ob_bestSet : (0 : Int) ≤ ob_bestSet.toInt ∧ ob_bestSet.toInt ≤ 1023) (p_ob_bestOver : (-1 : Int) ≤ ob_bestOver.toInt ∧ ob_bestOver.toInt ≤ 180) (p_ob_tenMany : (0 : Int) ≤ ob_tenMany.toInt ∧ ob_tenMany.toInt ≤ 10) (p_ob_callMany : (0 : Int) ≤ ob_callMany.toInt ∧ ob_callMany.toInt ≤ 16) (p_a1 : (0 : Int) ≤ a1.toInt ∧ a1.toInt ≤ 15) (p_a2 : (0 : Int) ≤ a2.toInt ∧ a2.toInt ≤ 15) : Met l yX10_minutes (Cond.code yX10_minutes cX10_minutes 3 (some .int) :: wAll) ({ frames := 1, cells := 0, slots := 0, locals := 22 }) (va_Pc [.ref ob, .int a1, .int a2] (kp G y sz [(ce_X10 ob ob_thrown ob_world ob_images ob_hasImage ob_tape ob_taped ob_five ob_size ob_at ob_from ob_token ob_value ob_faultKind ob_faultPlace ob_fresh ob_parts ob_houses ob_houseMany ob_worthOf ob_byCall ob_over ob_bestSet ob_bestOver ob_bestWorth ob_row ob_tenDebts ob_tenMany ob_fewestBy ob_covered ob_queue ob_cameBy ob_parent ob_met ob_calls ob_callMany ob_calledOn ob_saved ob_many ob_width ob_numbers ob_moving), (ce_i9080 y ob_world fob_world)])) (va_Qi (fun (r : Int32) (w : va_W) => (∃ (v_27 : Int32), ((0 : Int) ≤ v_27.toInt ∧ v_27.toInt ≤ 198) ∧ r = v_27 ∧ w = [(ce_X10 ob ob_thrown ob_world ob_images ob_hasImage ob_tape ob_taped ob_five ob_size ob_at ob_from ob_token ob_value ob_faultKind ob_faultPlace ob_fresh ob_parts ob_houses ob_houseMany ob_worthOf ob_byCall ob_over ob_bestSet ob_bestOver ob_bestWorth ob_row ob_tenDebts ob_tenMany ob_fewestBy ob_covered ob_queue ob_cameBy ob_parent ob_met ob_calls ob_callMany ob_calledOn ob_saved ob_many ob_width ob_numbers ob_moving), (ce_i9080 y ob_world fob_world)])) (kq G (va_A [(ce_X10 ob ob_thrown ob_world ob_images ob_hasImage ob_tape ob_taped ob_five ob_size ob_at ob_from ob_token ob_value ob_faultKind ob_faultPlace ob_fresh ob_parts ob_houses ob_houseMany ob_worthOf ob_byCall ob_over ob_bestSet ob_bestOver ob_bestWorth ob_row ob_tenDebts ob_tenMany ob_fewestBy ob_covered ob_queue ob_cameBy ob_parent ob_met ob_calls ob_callMany ob_calledOn ob_saved ob_many ob_width ob_numbers ob_moving), (ce_i9080 y ob_world fob_world)] sz)) (va_A [(ce_X10 ob ob_thrown ob_world ob_images ob_hasImage ob_tape ob_taped ob_five ob_size ob_at ob_from ob_token ob_value ob_faultKind ob_faultPlace ob_fresh ob_parts ob_houses ob_houseMany ob_worthOf ob_byCall ob_over ob_bestSet ob_bestOver ob_bestWorth ob_row ob_tenDebts ob_tenMany ob_fewestBy ob_covered ob_queue ob_cameBy ob_parent ob_met ob_calls ob_callMany ob_calledOn ob_saved ob_many ob_width ob_numbers ob_moving), (ce_i9080 y ob_world fob_world)] sz)) 0 0 (va_A [(ce_X10 ob ob_thrown ob_world ob_images ob_hasImage ob_tape ob_taped ob_five ob_size ob_at ob_from ob_token ob_value ob_faultKind ob_faultPlace ob_fresh ob_parts ob_houses ob_houseMany ob_worthOf ob_byCall ob_over ob_bestSet ob_bestOver ob_bestWorth ob_row ob_tenDebts ob_tenMany ob_fewestBy ob_covered ob_queue ob_cameBy ob_parent ob_met ob_calls ob_callMany ob_calledOn ob_saved ob_many ob_width ob_numbers ob_moving), (ce_i9080 y ob_world fob_world)] sz) := by
  refine Met.ofW (cc := cX10_minutes) (maxL := 3) (ret := (some .int)) (by decide) rfl ?_
  intro p e s m args below meth c s₁ B hml hv
  obtain ⟨rfl, hsz, hP, hK, hD0⟩ := hv
  have hx := B.exec
  have hb := B.bytes
  have hr := B.returns
  have hw0 : ∀ w ∈ wAll, w.before _ s = true := fun w h => atoms_spec (ws := Cond.code yX10_minutes cX10_minutes 3 (some .int) :: wAll) B.pre w (List.mem_cons_of_mem _ h)
  have hown : s.vm.findClass RX10 = some m.cls := findClass_of_methodNamed B.named
  subst hsz
  have hD := hD0.self (sz := s.heap.size)
  generalize hAe : va_A [(ce_X10 ob ob_thrown ob_world ob_images ob_hasImage ob_tape ob_taped ob_five ob_size ob_at ob_from ob_token ob_value ob_faultKind ob_faultPlace ob_fresh ob_parts ob_houses ob_houseMany ob_worthOf ob_byCall ob_over ob_bestSet ob_bestOver ob_bestWorth ob_row ob_tenDebts ob_tenMany ob_fewestBy ob_covered ob_queue ob_cameBy ob_parent ob_met ob_calls ob_callMany ob_calledOn ob_saved ob_many ob_width ob_numbers ob_moving), (ce_i9080 y ob_world fob_world)] s.heap.size = A at hD ⊢
  have hA : ∀ q : Nat, s.heap.size ≤ q → A q := fun q h => by rw [← hAe]; exact Or.inr h
  have hS : va_S A s.heap s.heap [] := va_S.rf
  have hP : va_P G vwCl [(ce_X10 ob ob_thrown ob_world ob_images ob_hasImage ob_tape ob_taped ob_five ob_size ob_at ob_from ob_token ob_value ob_faultKind ob_faultPlace ob_fresh ob_parts ob_houses ob_houseMany ob_worthOf ob_byCall ob_over ob_bestSet ob_bestOver ob_bestWorth ob_row ob_tenDebts ob_tenMany ob_fewestBy ob_covered ob_queue ob_cameBy ob_parent ob_met ob_calls ob_callMany ob_calledOn ob_saved ob_many ob_width ob_numbers ob_moving), (ce_i9080 y ob_world fob_world)] s.heap := hP
  have hl := lv_entry ([.ref ob, .int a1, .int a2]) (n := 3) (Nat.le_of_ble_eq_true rfl)
  rw [lg_entry_eq]
  generalize (lg_sl ([.ref ob, .int a1, .int a2]) ++ List.replicate (3 - (lg_sl ([.ref ob, .int a1, .int a2])).length) Slot.unset).toArray = ls at hl ⊢
  have hl : lv_has ls 3 [(0, .ref ob), (1, .int a1), (2, .int a2)] := hl
  refine lv_aload_n hx hb dX10_minutes_0 rfl (lv_at hl 0 rfl) ?_
  refine lv_iload_n hx hb dX10_minutes_1 rfl (lv_at hl 1 rfl) ?_
  refine lv_iconst (v := 0) hx hb dX10_minutes_2 (by decide) ?_
  refine cVim (As := [.int a1, .int 0]) (rest := []) ⟨hx, hb, hml, hown, hw0⟩ hA hK hP hD hS [true, true] (sofHouse0 l G y _ ob a1 ob_thrown ob_world ob_images ob_hasImage ob_tape ob_taped ob_five ob_size ob_at ob_from ob_token ob_value ob_faultKind ob_faultPlace ob_fresh ob_parts ob_houses ob_houseMany ob_worthOf ob_byCall ob_over ob_bestSet ob_bestOver ob_bestWorth ob_row ob_tenDebts ob_tenMany ob_fewestBy ob_covered ob_queue ob_cameBy ob_parent ob_met ob_calls ob_callMany ob_calledOn ob_saved ob_many ob_width ob_numbers ob_moving fob_world p_fob_world p_ob_taped p_ob_size p_ob_at p_ob_from p_ob_token p_ob_value p_ob_faultKind p_ob_houseMany p_ob_bestSet p_ob_bestOver p_ob_tenMany p_ob_callMany p_a1) rfl ⟨(callB_of 2 hw0 (gA m_577) rfl rfl rfl (hw0 _ m_41) (hw0 _ m_388) cb_X10_ofHouse ⟨Nat.le_of_ble_eq_true rfl, Nat.le_of_ble_eq_true rfl⟩), (hw0 _ m_389), (hw0 _ m_390)⟩ (ci := 10) (q := (RX10, TX10, 41)) rfl rfl rfl hl.1 (Nat.le_of_ble_eq_true rfl) dX10_minutes_3 ⟨Nat.le_of_ble_eq_true rfl, Nat.le_of_ble_eq_true rfl⟩ (fun r_1001 w_1001 H locs hw_1001 hP hD hS => ?_)
  obtain ⟨v_1002, bv_1002, er_1001, rfl⟩ := hw_1001
  subst r_1001
  obtain ⟨hP, hD⟩ : vPD G A H [(ce_X10 ob ob_thrown ob_world ob_images ob_hasImage ob_tape ob_taped ob_five ob_size ob_at ob_from ob_token ob_value ob_faultKind ob_faultPlace ob_fresh ob_parts ob_houses ob_houseMany ob_worthOf ob_byCall ob_over ob_bestSet ob_bestOver ob_bestWorth ob_row ob_tenDebts ob_tenMany ob_fewestBy ob_covered ob_queue ob_cameBy ob_parent ob_met ob_calls ob_callMany ob_calledOn ob_saved ob_many ob_width ob_numbers ob_moving), (ce_i9080 y ob_world fob_world)] := ⟨hP, hD⟩
  refine lv_aload_n hx hb dX10_minutes_6 rfl (lv_at hl 0 rfl) ?_
  refine lv_iload_n hx hb dX10_minutes_7 rfl (lv_at hl 2 rfl) ?_
  refine lv_iconst (v := 0) hx hb dX10_minutes_8 (by decide) ?_
  refine cVim (As := [.int a2, .int 0]) (rest := [.int v_1002]) ⟨hx, hb, hml, hown, hw0⟩ hA hK hP hD hS [true, true] (sofHouse0 l G y _ ob a2 ob_thrown ob_world ob_images ob_hasImage ob_tape ob_taped ob_five ob_size ob_at ob_from ob_token ob_value ob_faultKind ob_faultPlace ob_fresh ob_parts ob_houses ob_houseMany ob_worthOf ob_byCall ob_over ob_bestSet ob_bestOver ob_bestWorth ob_row ob_tenDebts ob_tenMany ob_fewestBy ob_covered ob_queue ob_cameBy ob_parent ob_met ob_calls ob_callMany ob_calledOn ob_saved ob_many ob_width ob_numbers ob_moving fob_world p_fob_world p_ob_taped p_ob_size p_ob_at p_ob_from p_ob_token p_ob_value p_ob_faultKind p_ob_houseMany p_ob_bestSet p_ob_bestOver p_ob_tenMany p_ob_callMany p_a2) rfl ⟨(callB_of 2 hw0 (gA m_577) rfl rfl rfl (hw0 _ m_41) (hw0 _ m_388) cb_X10_ofHouse ⟨Nat.le_of_ble_eq_true rfl, Nat.le_of_ble_eq_true rfl⟩), (hw0 _ m_389), (hw0 _ m_390)⟩ (ci := 10) (q := (RX10, TX10, 41)) rfl rfl rfl hl.1 (Nat.le_of_ble_eq_true rfl) dX10_minutes_9 ⟨Nat.le_of_ble_eq_true rfl, Nat.le_of_ble_eq_true rfl⟩ (fun r_1003 w_1003 H locs hw_1003 hP hD hS => ?_)
  obtain ⟨v_1004, bv_1004, er_1003, rfl⟩ := hw_1003
  subst r_1003
  obtain ⟨hP, hD⟩ : vPD G A H [(ce_X10 ob ob_thrown ob_world ob_images ob_hasImage ob_tape ob_taped ob_five ob_size ob_at ob_from ob_token ob_value ob_faultKind ob_faultPlace ob_fresh ob_parts ob_houses ob_houseMany ob_worthOf ob_byCall ob_over ob_bestSet ob_bestOver ob_bestWorth ob_row ob_tenDebts ob_tenMany ob_fewestBy ob_covered ob_queue ob_cameBy ob_parent ob_met ob_calls ob_callMany ob_calledOn ob_saved ob_many ob_width ob_numbers ob_moving), (ce_i9080 y ob_world fob_world)] := ⟨hP, hD⟩
  refine lv_isub hx hb dX10_minutes_12 ?_
  refine lv_topi (fun v_1005 ev_1005 => ?_)
  have qv_1005 := ba_sub ev_1005 bv_1002 bv_1004 (by decide)
  have bv_1005 : (-99 : Int) ≤ v_1005.toInt ∧ v_1005.toInt ≤ 99 := bq_sub qv_1005 bv_1002 bv_1004 _ _ (by decide)
  refine va_mabs (own := RX10) hx hb (by rw [hml]; exact hl.1.symm) hown (hw0 _ m_561) (hw0 _ m_562) (hw0 _ m_283) (hw0 _ m_563) (Nat.le_of_ble_eq_true rfl) (Nat.le_of_ble_eq_true rfl) (Nat.zero_le _) (Nat.zero_le _) dX10_minutes_13 ?_
  refine lv_topi (fun v_1006 ev_1006 => ?_)
  have bv_1006 : (0 : Int) ≤ v_1006.toInt ∧ v_1006.toInt ≤ 99 := mab ev_1006 bv_1005 (by decide)
  refine lv_aload_n hx hb dX10_minutes_16 rfl (lv_at hl 0 rfl) ?_
  refine lv_iload_n hx hb dX10_minutes_17 rfl (lv_at hl 1 rfl) ?_
  refine lv_iconst (v := 1) hx hb dX10_minutes_18 (by decide) ?_
  refine cVim (As := [.int a1, .int 1]) (rest := [.int v_1006]) ⟨hx, hb, hml, hown, hw0⟩ hA hK hP hD hS [true, true] (sofHouse1 l G y _ ob a1 ob_thrown ob_world ob_images ob_hasImage ob_tape ob_taped ob_five ob_size ob_at ob_from ob_token ob_value ob_faultKind ob_faultPlace ob_fresh ob_parts ob_houses ob_houseMany ob_worthOf ob_byCall ob_over ob_bestSet ob_bestOver ob_bestWorth ob_row ob_tenDebts ob_tenMany ob_fewestBy ob_covered ob_queue ob_cameBy ob_parent ob_met ob_calls ob_callMany ob_calledOn ob_saved ob_many ob_width ob_numbers ob_moving fob_world p_fob_world p_ob_taped p_ob_size p_ob_at p_ob_from p_ob_token p_ob_value p_ob_faultKind p_ob_houseMany p_ob_bestSet p_ob_bestOver p_ob_tenMany p_ob_callMany p_a1) rfl ⟨(callB_of 2 hw0 (gA m_577) rfl rfl rfl (hw0 _ m_41) (hw0 _ m_388) cb_X10_ofHouse ⟨Nat.le_of_ble_eq_true rfl, Nat.le_of_ble_eq_true rfl⟩), (hw0 _ m_389), (hw0 _ m_390)⟩ (ci := 10) (q := (RX10, TX10, 41)) rfl rfl rfl hl.1 (Nat.le_of_ble_eq_true rfl) dX10_minutes_19 ⟨Nat.le_of_ble_eq_true rfl, Nat.le_of_ble_eq_true rfl⟩ (fun r_1007 w_1007 H locs hw_1007 hP hD hS => ?_)
  obtain ⟨v_1008, bv_1008, er_1007, rfl⟩ := hw_1007
  subst r_1007
  obtain ⟨hP, hD⟩ : vPD G A H [(ce_X10 ob ob_thrown ob_world ob_images ob_hasImage ob_tape ob_taped ob_five ob_size ob_at ob_from ob_token ob_value ob_faultKind ob_faultPlace ob_fresh ob_parts ob_houses ob_houseMany ob_worthOf ob_byCall ob_over ob_bestSet ob_bestOver ob_bestWorth ob_row ob_tenDebts ob_tenMany ob_fewestBy ob_covered ob_queue ob_cameBy ob_parent ob_met ob_calls ob_callMany ob_calledOn ob_saved ob_many ob_width ob_numbers ob_moving), (ce_i9080 y ob_world fob_world)] := ⟨hP, hD⟩
  refine lv_aload_n hx hb dX10_minutes_22 rfl (lv_at hl 0 rfl) ?_
  refine lv_iload_n hx hb dX10_minutes_23 rfl (lv_at hl 2 rfl) ?_
  refine lv_iconst (v := 1) hx hb dX10_minutes_24 (by decide) ?_
  refine cVim (As := [.int a2, .int 1]) (rest := [.int v_1008, .int v_1006]) ⟨hx, hb, hml, hown, hw0⟩ hA hK hP hD hS [true, true] (sofHouse1 l G y _ ob a2 ob_thrown ob_world ob_images ob_hasImage ob_tape ob_taped ob_five ob_size ob_at ob_from ob_token ob_value ob_faultKind ob_faultPlace ob_fresh ob_parts ob_houses ob_houseMany ob_worthOf ob_byCall ob_over ob_bestSet ob_bestOver ob_bestWorth ob_row ob_tenDebts ob_tenMany ob_fewestBy ob_covered ob_queue ob_cameBy ob_parent ob_met ob_calls ob_callMany ob_calledOn ob_saved ob_many ob_width ob_numbers ob_moving fob_world p_fob_world p_ob_taped p_ob_size p_ob_at p_ob_from p_ob_token p_ob_value p_ob_faultKind p_ob_houseMany p_ob_bestSet p_ob_bestOver p_ob_tenMany p_ob_callMany p_a2) rfl ⟨(callB_of 2 hw0 (gA m_577) rfl rfl rfl (hw0 _ m_41) (hw0 _ m_388) cb_X10_ofHouse ⟨Nat.le_of_ble_eq_true rfl, Nat.le_of_ble_eq_true rfl⟩), (hw0 _ m_389), (hw0 _ m_390)⟩ (ci := 10) (q := (RX10, TX10, 41)) rfl rfl rfl hl.1 (Nat.le_of_ble_eq_true rfl) dX10_minutes_25 ⟨Nat.le_of_ble_eq_true rfl, Nat.le_of_ble_eq_true rfl⟩ (fun r_1009 w_1009 H locs hw_1009 hP hD hS => ?_)
  obtain ⟨v_1010, bv_1010, er_1009, rfl⟩ := hw_1009
  subst r_1009
  obtain ⟨hP, hD⟩ : vPD G A H [(ce_X10 ob ob_thrown ob_world ob_images ob_hasImage ob_tape ob_taped ob_five ob_size ob_at ob_from ob_token ob_value ob_faultKind ob_faultPlace ob_fresh ob_parts ob_houses ob_houseMany ob_worthOf ob_byCall ob_over ob_bestSet ob_bestOver ob_bestWorth ob_row ob_tenDebts ob_tenMany ob_fewestBy ob_covered ob_queue ob_cameBy ob_parent ob_met ob_calls ob_callMany ob_calledOn ob_saved ob_many ob_width ob_numbers ob_moving), (ce_i9080 y ob_world fob_world)] := ⟨hP, hD⟩
  refine lv_isub hx hb dX10_minutes_28 ?_
  refine lv_topi (fun v_1011 ev_1011 => ?_)
  have qv_1011 := ba_sub ev_1011 bv_1008 bv_1010 (by decide)
  have bv_1011 : (-99 : Int) ≤ v_1011.toInt ∧ v_1011.toInt ≤ 99 := bq_sub qv_1011 bv_1008 bv_1010 _ _ (by decide)
  refine va_mabs (own := RX10) hx hb (by rw [hml]; exact hl.1.symm) hown (hw0 _ m_561) (hw0 _ m_562) (hw0 _ m_283) (hw0 _ m_563) (Nat.le_of_ble_eq_true rfl) (Nat.le_of_ble_eq_true rfl) (Nat.zero_le _) (Nat.zero_le _) dX10_minutes_29 ?_
  refine lv_topi (fun v_1012 ev_1012 => ?_)
  have bv_1012 : (0 : Int) ≤ v_1012.toInt ∧ v_1012.toInt ≤ 99 := mab ev_1012 bv_1011 (by decide)
  refine lv_iadd hx hb dX10_minutes_32 ?_
  refine lv_topi (fun v_1013 ev_1013 => ?_)
  have qv_1013 := ba_add ev_1013 bv_1006 bv_1012 (by decide)
  have bv_1013 : (0 : Int) ≤ v_1013.toInt ∧ v_1013.toInt ≤ 198 := bq_add qv_1013 bv_1006 bv_1012 _ _ (by decide)
  exact W.iret (v := v_1013) hx hb hr (fun t ht hW => ⟨⟨v_1013, _, rfl, ⟨v_1013, bv_1013, rfl, rfl⟩, by rw [ht]; exact hP, hD⟩, hS.F ht⟩) hS.2.2 dX10_minutes_33

set_option maxHeartbeats 4000000 in
set_option maxRecDepth 100000 in
theorem sX10_weighs (l : Launch) (G : va_G) (y : Nat → ClassId) (sz : Nat) (ob : Nat) (a1 : Int32) (ob_thrown : Int32) (ob_world : Nat) (ob_images : Nat) (ob_hasImage : Nat) (ob_tape : Nat) (ob_taped : Int32) (ob_five : Nat) (ob_size : Int32) (ob_at : Int32) (ob_from : Int32) (ob_token : Int32) (ob_value : Int32) (ob_faultKind : Int32) (ob_faultPlace : Int32) (ob_fresh : Nat) (ob_parts : Nat) (ob_houses : Nat) (ob_houseMany : Int32) (ob_worthOf : Nat) (ob_byCall : Nat) (ob_over : Nat) (ob_bestSet : Int32) (ob_bestOver : Int32) (ob_bestWorth : Int32) (ob_row : Nat) (ob_tenDebts : Nat) (ob_tenMany : Int32) (ob_fewestBy : Nat) (ob_covered : Nat) (ob_queue : Nat) (ob_cameBy : Nat) (ob_parent : Nat) (ob_met : Nat) (ob_calls : Nat) (ob_callMany : Int32) (ob_calledOn : Nat) (ob_saved : Nat) (ob_many : Nat) (ob_width : Nat) (ob_numbers : Nat) (ob_moving : Nat) (fob_world : Nat → Int32) (fob_worthOf : Nat → Int32) (fob_byCall : Nat → Int32) (p_fob_world : RWw fob_world) (p_ob_taped : (0 : Int) ≤ ob_taped.toInt ∧ ob_taped.toInt ≤ 1400) (p_ob_size : (0 : Int) ≤ ob_size.toInt ∧ ob_size.toInt ≤ 1400) (p_ob_at : (0 : Int) ≤ ob_at.toInt ∧ ob_at.toInt ≤ 1400) (p_ob_from : (0 : Int) ≤ ob_from.toInt ∧ ob_from.toInt ≤ 1400) (p_ob_token : (0 : Int) ≤ ob_token.toInt ∧ ob_token.toInt ≤ 4) (p_ob_value : (0 : Int) ≤ ob_value.toInt ∧ ob_value.toInt ≤ 9999) (p_ob_faultKind : (0 : Int) ≤ ob_faultKind.toInt ∧ ob_faultKind.toInt ≤ 3) (p_ob_houseMany : (0 : Int) ≤ ob_houseMany.toInt ∧ ob_houseMany.toInt ≤ 10) (p_fob_byCall : ∀ i, (0 : Int) ≤ (fob_byCall i).toInt ∧ (fob_byCall i).toInt ≤ 1) (p_ob_bestSet : (0 : Int) ≤ ob_bestSet.toInt ∧ ob_bestSet.toInt ≤ 1023) (p_ob_bestOver : (-1 : Int) ≤ ob_bestOver.toInt ∧ ob_bestOver.toInt ≤ 180) (p_ob_tenMany : (0 : Int) ≤ ob_tenMany.toInt ∧ ob_tenMany.toInt ≤ 10) (p_ob_callMany : (0 : Int) ≤ ob_callMany.toInt ∧ ob_callMany.toInt ≤ 16) : Met l yX10_weighs (Cond.code yX10_weighs cX10_weighs 4 none :: wAll) ({ frames := 1, cells := 0, slots := 0, locals := 22 }) (va_Pc [.ref ob, .int a1] (kp G y sz [(ce_X10 ob ob_thrown ob_world ob_images ob_hasImage ob_tape ob_taped ob_five ob_size ob_at ob_from ob_token ob_value ob_faultKind ob_faultPlace ob_fresh ob_parts ob_houses ob_houseMany ob_worthOf ob_byCall ob_over ob_bestSet ob_bestOver ob_bestWorth ob_row ob_tenDebts ob_tenMany ob_fewestBy ob_covered ob_queue ob_cameBy ob_parent ob_met ob_calls ob_callMany ob_calledOn ob_saved ob_many ob_width ob_numbers ob_moving), (ce_i9080 y ob_world fob_world), (ce_i16 y ob_worthOf fob_worthOf), (ce_z16 y ob_byCall fob_byCall)])) (va_Qv (fun (w : va_W) => (∃ (f_1997 : Nat → Int32) (f_1998 : Nat → Int32), (∀ i, (0 : Int) ≤ (f_1998 i).toInt ∧ (f_1998 i).toInt ≤ 1) ∧ w = [(ce_X10 ob ob_thrown ob_world ob_images ob_hasImage ob_tape ob_taped ob_five ob_size ob_at ob_from ob_token ob_value ob_faultKind ob_faultPlace ob_fresh ob_parts ob_houses ob_houseMany ob_worthOf ob_byCall ob_over ob_bestSet ob_bestOver ob_bestWorth ob_row ob_tenDebts ob_tenMany ob_fewestBy ob_covered ob_queue ob_cameBy ob_parent ob_met ob_calls ob_callMany ob_calledOn ob_saved ob_many ob_width ob_numbers ob_moving), (ce_i9080 y ob_world fob_world), (ce_i16 y ob_worthOf f_1997), (ce_z16 y ob_byCall f_1998)])) (kq G (va_A [(ce_X10 ob ob_thrown ob_world ob_images ob_hasImage ob_tape ob_taped ob_five ob_size ob_at ob_from ob_token ob_value ob_faultKind ob_faultPlace ob_fresh ob_parts ob_houses ob_houseMany ob_worthOf ob_byCall ob_over ob_bestSet ob_bestOver ob_bestWorth ob_row ob_tenDebts ob_tenMany ob_fewestBy ob_covered ob_queue ob_cameBy ob_parent ob_met ob_calls ob_callMany ob_calledOn ob_saved ob_many ob_width ob_numbers ob_moving), (ce_i9080 y ob_world fob_world), (ce_i16 y ob_worthOf fob_worthOf), (ce_z16 y ob_byCall fob_byCall)] sz)) (va_A [(ce_X10 ob ob_thrown ob_world ob_images ob_hasImage ob_tape ob_taped ob_five ob_size ob_at ob_from ob_token ob_value ob_faultKind ob_faultPlace ob_fresh ob_parts ob_houses ob_houseMany ob_worthOf ob_byCall ob_over ob_bestSet ob_bestOver ob_bestWorth ob_row ob_tenDebts ob_tenMany ob_fewestBy ob_covered ob_queue ob_cameBy ob_parent ob_met ob_calls ob_callMany ob_calledOn ob_saved ob_many ob_width ob_numbers ob_moving), (ce_i9080 y ob_world fob_world), (ce_i16 y ob_worthOf fob_worthOf), (ce_z16 y ob_byCall fob_byCall)] sz)) 0 0 (va_A [(ce_X10 ob ob_thrown ob_world ob_images ob_hasImage ob_tape ob_taped ob_five ob_size ob_at ob_from ob_token ob_value ob_faultKind ob_faultPlace ob_fresh ob_parts ob_houses ob_houseMany ob_worthOf ob_byCall ob_over ob_bestSet ob_bestOver ob_bestWorth ob_row ob_tenDebts ob_tenMany ob_fewestBy ob_covered ob_queue ob_cameBy ob_parent ob_met ob_calls ob_callMany ob_calledOn ob_saved ob_many ob_width ob_numbers ob_moving), (ce_i9080 y ob_world fob_world), (ce_i16 y ob_worthOf fob_worthOf), (ce_z16 y ob_byCall fob_byCall)] sz) := by
  refine Met.ofW (cc := cX10_weighs) (maxL := 4) (ret := none) (by decide) rfl ?_
  intro p e s m args below meth c s₁ B hml hv
  obtain ⟨rfl, hsz, hP, hK, hD0⟩ := hv
  have hx := B.exec
  have hb := B.bytes
  have hr := B.returns
  have hw0 : ∀ w ∈ wAll, w.before _ s = true := fun w h => atoms_spec (ws := Cond.code yX10_weighs cX10_weighs 4 none :: wAll) B.pre w (List.mem_cons_of_mem _ h)
  have hown : s.vm.findClass RX10 = some m.cls := findClass_of_methodNamed B.named
  subst hsz
  have hD := hD0.self (sz := s.heap.size)
  generalize hAe : va_A [(ce_X10 ob ob_thrown ob_world ob_images ob_hasImage ob_tape ob_taped ob_five ob_size ob_at ob_from ob_token ob_value ob_faultKind ob_faultPlace ob_fresh ob_parts ob_houses ob_houseMany ob_worthOf ob_byCall ob_over ob_bestSet ob_bestOver ob_bestWorth ob_row ob_tenDebts ob_tenMany ob_fewestBy ob_covered ob_queue ob_cameBy ob_parent ob_met ob_calls ob_callMany ob_calledOn ob_saved ob_many ob_width ob_numbers ob_moving), (ce_i9080 y ob_world fob_world), (ce_i16 y ob_worthOf fob_worthOf), (ce_z16 y ob_byCall fob_byCall)] s.heap.size = A at hD ⊢
  have hA : ∀ q : Nat, s.heap.size ≤ q → A q := fun q h => by rw [← hAe]; exact Or.inr h
  have hS : va_S A s.heap s.heap [] := va_S.rf
  have hP : va_P G vwCl [(ce_X10 ob ob_thrown ob_world ob_images ob_hasImage ob_tape ob_taped ob_five ob_size ob_at ob_from ob_token ob_value ob_faultKind ob_faultPlace ob_fresh ob_parts ob_houses ob_houseMany ob_worthOf ob_byCall ob_over ob_bestSet ob_bestOver ob_bestWorth ob_row ob_tenDebts ob_tenMany ob_fewestBy ob_covered ob_queue ob_cameBy ob_parent ob_met ob_calls ob_callMany ob_calledOn ob_saved ob_many ob_width ob_numbers ob_moving), (ce_i9080 y ob_world fob_world), (ce_i16 y ob_worthOf fob_worthOf), (ce_z16 y ob_byCall fob_byCall)] s.heap := hP
  have hl := lv_entry ([.ref ob, .int a1]) (n := 4) (Nat.le_of_ble_eq_true rfl)
  rw [lg_entry_eq]
  generalize (lg_sl ([.ref ob, .int a1]) ++ List.replicate (4 - (lg_sl ([.ref ob, .int a1])).length) Slot.unset).toArray = ls at hl ⊢
  have hl : lv_has ls 4 [(0, .ref ob), (1, .int a1)] := hl
  refine lv_iconst (v := 0) hx hb dX10_weighs_0 (by decide) ?_
  refine lv_istore_n (lv' := [(2, .int 0), (0, .ref ob), (1, .int a1)]) hx hb dX10_weighs_1 rfl hl (by decide) rfl (fun ls hl => ?_)
  refine loopX (fun n H locs ls st => ∃ (v_1071 : Int32) (f_1072 : Nat → Int32) (f_1073 : Nat → Int32), (16 - v_1071.toInt).toNat = n ∧ ((0 : Int) ≤ v_1071.toInt ∧ v_1071.toInt ≤ 16) ∧ (∀ i, (0 : Int) ≤ (f_1073 i).toInt ∧ (f_1073 i).toInt ≤ 1) ∧ st = [] ∧ vPD G A H [(ce_X10 ob ob_thrown ob_world ob_images ob_hasImage ob_tape ob_taped ob_five ob_size ob_at ob_from ob_token ob_value ob_faultKind ob_faultPlace ob_fresh ob_parts ob_houses ob_houseMany ob_worthOf ob_byCall ob_over ob_bestSet ob_bestOver ob_bestWorth ob_row ob_tenDebts ob_tenMany ob_fewestBy ob_covered ob_queue ob_cameBy ob_parent ob_met ob_calls ob_callMany ob_calledOn ob_saved ob_many ob_width ob_numbers ob_moving), (ce_i9080 y ob_world fob_world), (ce_i16 y ob_worthOf f_1072), (ce_z16 y ob_byCall f_1073)] ∧ va_S A s.heap H locs ∧ lv_has ls 4 [(2, .int v_1071), (0, .ref ob), (1, .int a1)]) ?_ (n := (16 - (0 : Int32).toInt).toNat) ⟨0, fob_worthOf, fob_byCall, rfl, (bw (0) (16) (bkc (x := 0) (c := 0) (by decide)) (by decide)), p_fob_byCall, rfl, ⟨hP, hD⟩, hS, lv_sub hl [0, 1, 2] rfl⟩
  rintro n ih_1077 H locs ls st ⟨v_1071, f_1072, f_1073, hn_1077, bv_1071, bf_1073, rfl, ⟨hP, hD⟩, hS, hl⟩
  refine lv_iload_n hx hb dX10_weighs_2 rfl (lv_at hl 0 rfl) ?_
  refine lv_bipush (v := 16) hx hb dX10_weighs_3 (by decide) ?_
  refine lv_icmp_ge (tgt := 28) hx hb dX10_weighs_5 (by decide) (fun c_1078 => ?_) (fun c_1078 => ?_)
  · skip
    have nc_1078 := nb_le (16) (16) c_1078 (bkc (x := 16) (c := 16) (by decide)) bv_1071 (by decide)
    refine lv_iconst (v := 0) hx hb dX10_weighs_28 (by decide) ?_
    refine lv_istore_n (lv' := [(2, .int 0), (0, .ref ob), (1, .int a1)]) hx hb dX10_weighs_29 rfl hl (by decide) rfl (fun ls hl => ?_)
    refine loopX (fun n H locs ls st => ∃ (v_1867 : Int32) (f_1868 : Nat → Int32) (f_1869 : Nat → Int32), (600 - v_1867.toInt).toNat = n ∧ ((0 : Int) ≤ v_1867.toInt ∧ v_1867.toInt ≤ 600) ∧ (∀ i, (0 : Int) ≤ (f_1869 i).toInt ∧ (f_1869 i).toInt ≤ 1) ∧ st = [] ∧ vPD G A H [(ce_X10 ob ob_thrown ob_world ob_images ob_hasImage ob_tape ob_taped ob_five ob_size ob_at ob_from ob_token ob_value ob_faultKind ob_faultPlace ob_fresh ob_parts ob_houses ob_houseMany ob_worthOf ob_byCall ob_over ob_bestSet ob_bestOver ob_bestWorth ob_row ob_tenDebts ob_tenMany ob_fewestBy ob_covered ob_queue ob_cameBy ob_parent ob_met ob_calls ob_callMany ob_calledOn ob_saved ob_many ob_width ob_numbers ob_moving), (ce_i9080 y ob_world fob_world), (ce_i16 y ob_worthOf f_1868), (ce_z16 y ob_byCall f_1869)] ∧ va_S A s.heap H locs ∧ lv_has ls 4 [(2, .int v_1867), (0, .ref ob), (1, .int a1)]) ?_ (n := (600 - (0 : Int32).toInt).toNat) ⟨0, f_1072, f_1073, rfl, (bw (0) (600) (bkc (x := 0) (c := 0) (by decide)) (by decide)), bf_1073, rfl, ⟨hP, hD⟩, hS, lv_sub hl [0, 1, 2] rfl⟩
    rintro n ih_1932 H locs ls st ⟨v_1867, f_1868, f_1869, hn_1932, bv_1867, bf_1869, rfl, ⟨hP, hD⟩, hS, hl⟩
    refine lv_iload_n hx hb dX10_weighs_30 rfl (lv_at hl 0 rfl) ?_
    refine lv_aload_n hx hb dX10_weighs_31 rfl (lv_at hl 1 rfl) ?_
    refine va_get (D := G) (ci := 10) (v := .ref ob_world) (C := RX10) (T := TX10) (N := 41) hx hb hw0 inA_wsX100 hown hK.1 hP 0 rfl rfl 1 (by decide) (hw0 _ m_352) (fun _ h9 => h9) rfl dX10_weighs_32 ?_
    refine lv_bipush (v := 7) hx hb dX10_weighs_35 (by decide) ?_
    refine va_iald hx hb hK.1 hP 1 1 rfl rfl (vi (bkc (x := 7) (c := 7) (by decide)) (by decide)) dX10_weighs_37 ?_
    refine lv_topi (fun v_1933 ev_1933 => ?_)
    have bv_1933 : (0 : Int) ≤ v_1933.toInt ∧ v_1933.toInt ≤ 600 := rdk ev_1933 (p_fob_world).1.1 (by decide)
    refine lv_icmp_ge (tgt := 114) hx hb dX10_weighs_38 (by decide) (fun c_1934 => ?_) (fun c_1934 => ?_)
    · skip
      have nc_1934 := nb_le (600) (0) c_1934 bv_1933 bv_1867 (by decide)
      exact W.vret hx hb hr (fun t ht hW => ⟨⟨_, rfl, ⟨f_1868, f_1869, bf_1869, rfl⟩, by rw [ht]; exact hP, hD⟩, hS.F ht⟩) hS.2.2 dX10_weighs_114
    · skip
      have nc_1934 := nb_nle (599) (1) c_1934 bv_1867 bv_1933 (by decide)
      refine lv_aload_n hx hb dX10_weighs_41 rfl (lv_at hl 1 rfl) ?_
      refine lv_iload_n hx hb dX10_weighs_42 rfl (lv_at hl 0 rfl) ?_
      refine lv_iconst (v := 0) hx hb dX10_weighs_43 (by decide) ?_
      refine cVim (As := [.int v_1867, .int 0]) (rest := []) ⟨hx, hb, hml, hown, hw0⟩ hA hK hP hD hS [true, true] (sofDebt0 l G y _ ob v_1867 ob_thrown ob_world ob_images ob_hasImage ob_tape ob_taped ob_five ob_size ob_at ob_from ob_token ob_value ob_faultKind ob_faultPlace ob_fresh ob_parts ob_houses ob_houseMany ob_worthOf ob_byCall ob_over ob_bestSet ob_bestOver ob_bestWorth ob_row ob_tenDebts ob_tenMany ob_fewestBy ob_covered ob_queue ob_cameBy ob_parent ob_met ob_calls ob_callMany ob_calledOn ob_saved ob_many ob_width ob_numbers ob_moving fob_world p_fob_world p_ob_taped p_ob_size p_ob_at p_ob_from p_ob_token p_ob_value p_ob_faultKind p_ob_houseMany p_ob_bestSet p_ob_bestOver p_ob_tenMany p_ob_callMany (bw (0) (959) nc_1934.1 (by decide))) rfl ⟨(callB_of 2 hw0 (gA m_576) rfl rfl rfl (hw0 _ m_41) (hw0 _ m_402) cb_X10_ofDebt ⟨Nat.le_of_ble_eq_true rfl, Nat.le_of_ble_eq_true rfl⟩), (hw0 _ m_403), (hw0 _ m_404)⟩ (ci := 10) (q := (RX10, TX10, 41)) rfl rfl rfl hl.1 (Nat.le_of_ble_eq_true rfl) dX10_weighs_44 ⟨Nat.le_of_ble_eq_true rfl, Nat.le_of_ble_eq_true rfl⟩ (fun r_1935 w_1935 H locs hw_1935 hP hD hS => ?_)
      obtain ⟨v_1936, bv_1936, er_1935, rfl⟩ := hw_1935
      subst r_1935
      obtain ⟨hP, hD⟩ : vPD G A H [(ce_X10 ob ob_thrown ob_world ob_images ob_hasImage ob_tape ob_taped ob_five ob_size ob_at ob_from ob_token ob_value ob_faultKind ob_faultPlace ob_fresh ob_parts ob_houses ob_houseMany ob_worthOf ob_byCall ob_over ob_bestSet ob_bestOver ob_bestWorth ob_row ob_tenDebts ob_tenMany ob_fewestBy ob_covered ob_queue ob_cameBy ob_parent ob_met ob_calls ob_callMany ob_calledOn ob_saved ob_many ob_width ob_numbers ob_moving), (ce_i9080 y ob_world fob_world), (ce_i16 y ob_worthOf f_1868), (ce_z16 y ob_byCall f_1869)] := ⟨hP, hD⟩
      refine lv_iload_n hx hb dX10_weighs_47 rfl (lv_at hl 2 rfl) ?_
      refine cutW 108 (fun H locs ls st => ∃ (f_1965 : Nat → Int32) (f_1966 : Nat → Int32), (∀ i, (0 : Int) ≤ (f_1966 i).toInt ∧ (f_1966 i).toInt ≤ 1) ∧ st = [] ∧ vPD G A H [(ce_X10 ob ob_thrown ob_world ob_images ob_hasImage ob_tape ob_taped ob_five ob_size ob_at ob_from ob_token ob_value ob_faultKind ob_faultPlace ob_fresh ob_parts ob_houses ob_houseMany ob_worthOf ob_byCall ob_over ob_bestSet ob_bestOver ob_bestWorth ob_row ob_tenDebts ob_tenMany ob_fewestBy ob_covered ob_queue ob_cameBy ob_parent ob_met ob_calls ob_callMany ob_calledOn ob_saved ob_many ob_width ob_numbers ob_moving), (ce_i9080 y ob_world fob_world), (ce_i16 y ob_worthOf f_1965), (ce_z16 y ob_byCall f_1966)] ∧ va_S A s.heap H locs ∧ lv_has ls 4 [(2, .int v_1867), (0, .ref ob), (1, .int a1)]) ?_ (fun J_108_1966 => ?_)
      · rintro H locs ls st ⟨f_1965, f_1966, bf_1966, rfl, ⟨hP, hD⟩, hS, hl⟩
        obtain ⟨v_1967, ev_1967⟩ : ∃ z : Int32, z = v_1867 + 1 := ⟨_, rfl⟩
        have qv_1967 := ba_add ev_1967 nc_1934.1 (bkc (x := 1) (c := 1) (by decide)) (by decide)
        have bv_1967 : (1 : Int) ≤ v_1967.toInt ∧ v_1967.toInt ≤ 600 := bq_add qv_1967 nc_1934.1 (bkc (x := 1) (c := 1) (by decide)) _ _ (by decide)
        have qv_1967 : v_1967.toInt = v_1867.toInt + (1) := qv_1967
        refine lv_iinc (v := v_1967) (lv' := [(2, .int v_1967), (0, .ref ob), (1, .int a1)]) hx hb dX10_weighs_108 hl (k := 0) rfl (ev_1967.symm) (by decide) rfl (fun ls hl => ?_)
        refine lv_goto (tgt := 30) hx hb dX10_weighs_111 (by decide) ?_
        exact ih_1932 _ (ml_inc (hi := 600) hn_1932 qv_1967 (by decide) ((bw (0) (600) bv_1967 (by decide))).2) _ _ _ _ ⟨v_1967, f_1965, f_1966, rfl, (bw (0) (600) bv_1967 (by decide)), bf_1966, rfl, ⟨hP, hD⟩, hS, lv_sub hl [0, 1, 2] rfl⟩
      · skip
        refine lv_icmp_eq (tgt := 54) hx hb dX10_weighs_48 (by decide) (fun c_1968 => ?_) (fun c_1968 => ?_)
        · skip
          have nc_1968 := nb_eq (0) (15) c_1968 bv_1936 (btop a1) (by decide)
          refine lv_aload_n hx hb dX10_weighs_54 rfl (lv_at hl 1 rfl) ?_
          refine lv_iload_n hx hb dX10_weighs_55 rfl (lv_at hl 0 rfl) ?_
          refine lv_iconst (v := 1) hx hb dX10_weighs_56 (by decide) ?_
          refine cVim (As := [.int v_1867, .int 1]) (rest := []) ⟨hx, hb, hml, hown, hw0⟩ hA hK hP hD hS [true, true] (sofDebt1 l G y _ ob v_1867 ob_thrown ob_world ob_images ob_hasImage ob_tape ob_taped ob_five ob_size ob_at ob_from ob_token ob_value ob_faultKind ob_faultPlace ob_fresh ob_parts ob_houses ob_houseMany ob_worthOf ob_byCall ob_over ob_bestSet ob_bestOver ob_bestWorth ob_row ob_tenDebts ob_tenMany ob_fewestBy ob_covered ob_queue ob_cameBy ob_parent ob_met ob_calls ob_callMany ob_calledOn ob_saved ob_many ob_width ob_numbers ob_moving fob_world p_fob_world p_ob_taped p_ob_size p_ob_at p_ob_from p_ob_token p_ob_value p_ob_faultKind p_ob_houseMany p_ob_bestSet p_ob_bestOver p_ob_tenMany p_ob_callMany (bw (0) (959) nc_1934.1 (by decide))) rfl ⟨(callB_of 2 hw0 (gA m_576) rfl rfl rfl (hw0 _ m_41) (hw0 _ m_402) cb_X10_ofDebt ⟨Nat.le_of_ble_eq_true rfl, Nat.le_of_ble_eq_true rfl⟩), (hw0 _ m_403), (hw0 _ m_404)⟩ (ci := 10) (q := (RX10, TX10, 41)) rfl rfl rfl hl.1 (Nat.le_of_ble_eq_true rfl) dX10_weighs_57 ⟨Nat.le_of_ble_eq_true rfl, Nat.le_of_ble_eq_true rfl⟩ (fun r_1969 w_1969 H locs hw_1969 hP hD hS => ?_)
          obtain ⟨v_1970, bv_1970, er_1969, rfl⟩ := hw_1969
          subst r_1969
          obtain ⟨hP, hD⟩ : vPD G A H [(ce_X10 ob ob_thrown ob_world ob_images ob_hasImage ob_tape ob_taped ob_five ob_size ob_at ob_from ob_token ob_value ob_faultKind ob_faultPlace ob_fresh ob_parts ob_houses ob_houseMany ob_worthOf ob_byCall ob_over ob_bestSet ob_bestOver ob_bestWorth ob_row ob_tenDebts ob_tenMany ob_fewestBy ob_covered ob_queue ob_cameBy ob_parent ob_met ob_calls ob_callMany ob_calledOn ob_saved ob_many ob_width ob_numbers ob_moving), (ce_i9080 y ob_world fob_world), (ce_i16 y ob_worthOf f_1868), (ce_z16 y ob_byCall f_1869)] := ⟨hP, hD⟩
          refine lv_istore_n (lv' := [(3, .int v_1970), (2, .int v_1867), (0, .ref ob), (1, .int a1)]) hx hb dX10_weighs_60 rfl hl (by decide) rfl (fun ls hl => ?_)
          refine lv_aload_n hx hb dX10_weighs_61 rfl (lv_at hl 2 rfl) ?_
          refine va_get (D := G) (ci := 10) (v := .ref ob_worthOf) (C := RX10) (T := TX10) (N := 41) hx hb hw0 inA_wsX100 hown hK.1 hP 0 rfl rfl 18 (by decide) (hw0 _ m_449) (fun _ h9 => h9) rfl dX10_weighs_62 ?_
          refine lv_iload_n hx hb dX10_weighs_65 rfl (lv_at hl 0 rfl) ?_
          refine lv_dup2_11 hx hb dX10_weighs_66 rfl rfl ?_
          refine va_iald hx hb hK.1 hP 2 1 rfl rfl (vi bv_1970 (by decide)) dX10_weighs_67 ?_
          refine lv_topi (fun v_1971 ev_1971 => ?_)
          refine lv_aload_n hx hb dX10_weighs_68 rfl (lv_at hl 2 rfl) ?_
          refine lv_iload_n hx hb dX10_weighs_69 rfl (lv_at hl 1 rfl) ?_
          refine lv_iconst (v := 2) hx hb dX10_weighs_70 (by decide) ?_
          refine cVim (As := [.int v_1867, .int 2]) (rest := [.int v_1971, .int v_1970, .ref ob_worthOf]) ⟨hx, hb, hml, hown, hw0⟩ hA hK hP hD hS [true, true] (sofDebt2 l G y _ ob v_1867 ob_thrown ob_world ob_images ob_hasImage ob_tape ob_taped ob_five ob_size ob_at ob_from ob_token ob_value ob_faultKind ob_faultPlace ob_fresh ob_parts ob_houses ob_houseMany ob_worthOf ob_byCall ob_over ob_bestSet ob_bestOver ob_bestWorth ob_row ob_tenDebts ob_tenMany ob_fewestBy ob_covered ob_queue ob_cameBy ob_parent ob_met ob_calls ob_callMany ob_calledOn ob_saved ob_many ob_width ob_numbers ob_moving fob_world p_fob_world p_ob_taped p_ob_size p_ob_at p_ob_from p_ob_token p_ob_value p_ob_faultKind p_ob_houseMany p_ob_bestSet p_ob_bestOver p_ob_tenMany p_ob_callMany (bw (0) (959) nc_1934.1 (by decide))) rfl ⟨(callB_of 2 hw0 (gA m_576) rfl rfl rfl (hw0 _ m_41) (hw0 _ m_402) cb_X10_ofDebt ⟨Nat.le_of_ble_eq_true rfl, Nat.le_of_ble_eq_true rfl⟩), (hw0 _ m_403), (hw0 _ m_404)⟩ (ci := 10) (q := (RX10, TX10, 41)) rfl rfl rfl hl.1 (Nat.le_of_ble_eq_true rfl) dX10_weighs_71 ⟨Nat.le_of_ble_eq_true rfl, Nat.le_of_ble_eq_true rfl⟩ (fun r_1972 w_1972 H locs hw_1972 hP hD hS => ?_)
          obtain ⟨v_1973, er_1972, rfl⟩ := hw_1972
          subst r_1972
          obtain ⟨hP, hD⟩ : vPD G A H [(ce_X10 ob ob_thrown ob_world ob_images ob_hasImage ob_tape ob_taped ob_five ob_size ob_at ob_from ob_token ob_value ob_faultKind ob_faultPlace ob_fresh ob_parts ob_houses ob_houseMany ob_worthOf ob_byCall ob_over ob_bestSet ob_bestOver ob_bestWorth ob_row ob_tenDebts ob_tenMany ob_fewestBy ob_covered ob_queue ob_cameBy ob_parent ob_met ob_calls ob_callMany ob_calledOn ob_saved ob_many ob_width ob_numbers ob_moving), (ce_i9080 y ob_world fob_world), (ce_i16 y ob_worthOf f_1868), (ce_z16 y ob_byCall f_1869)] := ⟨hP, hD⟩
          refine lv_iconst (v := 1) hx hb dX10_weighs_74 (by decide) ?_
          refine lv_iadd hx hb dX10_weighs_75 ?_
          refine lv_topi (fun v_1974 ev_1974 => ?_)
          refine lv_iadd hx hb dX10_weighs_76 ?_
          refine lv_topi (fun v_1975 ev_1975 => ?_)
          refine va_iast hx hb hK.1 hP hD hS 2 1 rfl rfl (vi bv_1970 (by decide)) dX10_weighs_77 (fun H locs hP hD hS => ?_)
          generalize hf_1976 : (upd f_1868 (v_1970 : Int32).toNatClampNeg v_1975) = f_1976 at hP hD
          obtain ⟨hP, hD⟩ : vPD G A H [(ce_X10 ob ob_thrown ob_world ob_images ob_hasImage ob_tape ob_taped ob_five ob_size ob_at ob_from ob_token ob_value ob_faultKind ob_faultPlace ob_fresh ob_parts ob_houses ob_houseMany ob_worthOf ob_byCall ob_over ob_bestSet ob_bestOver ob_bestWorth ob_row ob_tenDebts ob_tenMany ob_fewestBy ob_covered ob_queue ob_cameBy ob_parent ob_met ob_calls ob_callMany ob_calledOn ob_saved ob_many ob_width ob_numbers ob_moving), (ce_i9080 y ob_world fob_world), (ce_i16 y ob_worthOf f_1976), (ce_z16 y ob_byCall f_1869)] := ⟨hP, hD⟩
          refine lv_aload_n hx hb dX10_weighs_78 rfl (lv_at hl 2 rfl) ?_
          refine va_get (D := G) (ci := 10) (v := .ref ob_byCall) (C := RX10) (T := TX10) (N := 41) hx hb hw0 inA_wsX100 hown hK.1 hP 0 rfl rfl 19 (by decide) (hw0 _ m_523) (fun _ h9 => h9) rfl dX10_weighs_79 ?_
          refine lv_iload_n hx hb dX10_weighs_82 rfl (lv_at hl 0 rfl) ?_
          refine lv_aload_n hx hb dX10_weighs_83 rfl (lv_at hl 2 rfl) ?_
          refine va_get (D := G) (ci := 10) (v := .ref ob_byCall) (C := RX10) (T := TX10) (N := 41) hx hb hw0 inA_wsX100 hown hK.1 hP 0 rfl rfl 19 (by decide) (hw0 _ m_523) (fun _ h9 => h9) rfl dX10_weighs_84 ?_
          refine lv_iload_n hx hb dX10_weighs_87 rfl (lv_at hl 0 rfl) ?_
          refine va_zald hx hb hK.1 hP 3 3 rfl rfl (vi bv_1970 (by decide)) dX10_weighs_88 ?_
          refine lv_topi (fun v_1977 ev_1977 => ?_)
          have bv_1977 : (0 : Int) ≤ v_1977.toInt ∧ v_1977.toInt ≤ 1 := rd_b ev_1977 bf_1869
          refine cutW 107 (fun H locs ls st => ∃ (v_1986 : Int32), ((0 : Int) ≤ v_1986.toInt ∧ v_1986.toInt ≤ 1) ∧ st = [.int v_1986, .int v_1970, .ref ob_byCall] ∧ vPD G A H [(ce_X10 ob ob_thrown ob_world ob_images ob_hasImage ob_tape ob_taped ob_five ob_size ob_at ob_from ob_token ob_value ob_faultKind ob_faultPlace ob_fresh ob_parts ob_houses ob_houseMany ob_worthOf ob_byCall ob_over ob_bestSet ob_bestOver ob_bestWorth ob_row ob_tenDebts ob_tenMany ob_fewestBy ob_covered ob_queue ob_cameBy ob_parent ob_met ob_calls ob_callMany ob_calledOn ob_saved ob_many ob_width ob_numbers ob_moving), (ce_i9080 y ob_world fob_world), (ce_i16 y ob_worthOf f_1976), (ce_z16 y ob_byCall f_1869)] ∧ va_S A s.heap H locs ∧ lv_has ls 4 [(2, .int v_1867), (0, .ref ob), (1, .int a1)]) ?_ (fun J_107_1986 => ?_)
          · rintro H locs ls st ⟨v_1986, bv_1986, rfl, ⟨hP, hD⟩, hS, hl⟩
            refine va_zast hx hb hK.1 hP hD hS 3 3 rfl rfl (vi bv_1970 (by decide)) dX10_weighs_107 (fun H locs hP hD hS => ?_)
            generalize hf_1987 : (upd f_1869 (v_1970 : Int32).toNatClampNeg (vp_nar .boolean v_1986)) = f_1987 at hP hD
            have bf_1987 : ∀ i, (0 : Int) ≤ (f_1987 i).toInt ∧ (f_1987 i).toInt ≤ 1 := hf_1987 ▸ up_z bf_1869 bv_1986
            obtain ⟨hP, hD⟩ : vPD G A H [(ce_X10 ob ob_thrown ob_world ob_images ob_hasImage ob_tape ob_taped ob_five ob_size ob_at ob_from ob_token ob_value ob_faultKind ob_faultPlace ob_fresh ob_parts ob_houses ob_houseMany ob_worthOf ob_byCall ob_over ob_bestSet ob_bestOver ob_bestWorth ob_row ob_tenDebts ob_tenMany ob_fewestBy ob_covered ob_queue ob_cameBy ob_parent ob_met ob_calls ob_callMany ob_calledOn ob_saved ob_many ob_width ob_numbers ob_moving), (ce_i9080 y ob_world fob_world), (ce_i16 y ob_worthOf f_1976), (ce_z16 y ob_byCall f_1987)] := ⟨hP, hD⟩
            exact J_108_1966 _ _ _ _ ⟨f_1976, f_1987, bf_1987, rfl, ⟨hP, hD⟩, hS, lv_sub hl [0, 1, 2] rfl⟩
          · skip
            refine cutW 102 (fun H locs ls st => st = [.int v_1970, .ref ob_byCall] ∧ vPD G A H [(ce_X10 ob ob_thrown ob_world ob_images ob_hasImage ob_tape ob_taped ob_five ob_size ob_at ob_from ob_token ob_value ob_faultKind ob_faultPlace ob_fresh ob_parts ob_houses ob_houseMany ob_worthOf ob_byCall ob_over ob_bestSet ob_bestOver ob_bestWorth ob_row ob_tenDebts ob_tenMany ob_fewestBy ob_covered ob_queue ob_cameBy ob_parent ob_met ob_calls ob_callMany ob_calledOn ob_saved ob_many ob_width ob_numbers ob_moving), (ce_i9080 y ob_world fob_world), (ce_i16 y ob_worthOf f_1976), (ce_z16 y ob_byCall f_1869)] ∧ va_S A s.heap H locs ∧ lv_has ls 4 [(2, .int v_1867), (0, .ref ob), (1, .int a1)]) ?_ (fun J_102_1991 => ?_)
            · rintro H locs ls st ⟨rfl, ⟨hP, hD⟩, hS, hl⟩
              refine lv_iconst (v := 1) hx hb dX10_weighs_102 (by decide) ?_
              refine lv_goto (tgt := 107) hx hb dX10_weighs_103 (by decide) ?_
              exact J_107_1986 _ _ _ _ ⟨1, (bw (0) (1) (bkc (x := 1) (c := 1) (by decide)) (by decide)), rfl, ⟨hP, hD⟩, hS, lv_sub hl [0, 1, 2] rfl⟩
            · skip
              refine lv_if_ne (tgt := 102) hx hb dX10_weighs_89 (by decide) (fun c_1992 => ?_) (fun c_1992 => ?_)
              · skip
                have nc_1992 := nb_ne (1) (1) c_1992 bv_1977 (k := 0) (by decide) (by decide)
                exact J_102_1991 _ _ _ _ ⟨rfl, ⟨hP, hD⟩, hS, lv_sub hl [1, 2, 3] rfl⟩
              · skip
                have nc_1992 := nb_eq (0) (0) c_1992 bv_1977 (bkc (x := 0) (c := 0) (by decide)) (by decide)
                refine lv_aload_n hx hb dX10_weighs_92 rfl (lv_at hl 2 rfl) ?_
                refine lv_iload_n hx hb dX10_weighs_93 rfl (lv_at hl 1 rfl) ?_
                refine lv_iconst (v := 2) hx hb dX10_weighs_94 (by decide) ?_
                refine cVim (As := [.int v_1867, .int 2]) (rest := [.int v_1970, .ref ob_byCall]) ⟨hx, hb, hml, hown, hw0⟩ hA hK hP hD hS [true, true] (sofDebt2 l G y _ ob v_1867 ob_thrown ob_world ob_images ob_hasImage ob_tape ob_taped ob_five ob_size ob_at ob_from ob_token ob_value ob_faultKind ob_faultPlace ob_fresh ob_parts ob_houses ob_houseMany ob_worthOf ob_byCall ob_over ob_bestSet ob_bestOver ob_bestWorth ob_row ob_tenDebts ob_tenMany ob_fewestBy ob_covered ob_queue ob_cameBy ob_parent ob_met ob_calls ob_callMany ob_calledOn ob_saved ob_many ob_width ob_numbers ob_moving fob_world p_fob_world p_ob_taped p_ob_size p_ob_at p_ob_from p_ob_token p_ob_value p_ob_faultKind p_ob_houseMany p_ob_bestSet p_ob_bestOver p_ob_tenMany p_ob_callMany (bw (0) (959) nc_1934.1 (by decide))) rfl ⟨(callB_of 2 hw0 (gA m_576) rfl rfl rfl (hw0 _ m_41) (hw0 _ m_402) cb_X10_ofDebt ⟨Nat.le_of_ble_eq_true rfl, Nat.le_of_ble_eq_true rfl⟩), (hw0 _ m_403), (hw0 _ m_404)⟩ (ci := 10) (q := (RX10, TX10, 41)) rfl rfl rfl hl.1 (Nat.le_of_ble_eq_true rfl) dX10_weighs_95 ⟨Nat.le_of_ble_eq_true rfl, Nat.le_of_ble_eq_true rfl⟩ (fun r_1993 w_1993 H locs hw_1993 hP hD hS => ?_)
                obtain ⟨v_1994, er_1993, rfl⟩ := hw_1993
                subst r_1993
                obtain ⟨hP, hD⟩ : vPD G A H [(ce_X10 ob ob_thrown ob_world ob_images ob_hasImage ob_tape ob_taped ob_five ob_size ob_at ob_from ob_token ob_value ob_faultKind ob_faultPlace ob_fresh ob_parts ob_houses ob_houseMany ob_worthOf ob_byCall ob_over ob_bestSet ob_bestOver ob_bestWorth ob_row ob_tenDebts ob_tenMany ob_fewestBy ob_covered ob_queue ob_cameBy ob_parent ob_met ob_calls ob_callMany ob_calledOn ob_saved ob_many ob_width ob_numbers ob_moving), (ce_i9080 y ob_world fob_world), (ce_i16 y ob_worthOf f_1976), (ce_z16 y ob_byCall f_1869)] := ⟨hP, hD⟩
                refine lv_iconst (v := 2) hx hb dX10_weighs_98 (by decide) ?_
                refine lv_icmp_lt (tgt := 106) hx hb dX10_weighs_99 (by decide) (fun c_1995 => ?_) (fun c_1995 => ?_)
                · skip
                  have nc_1995 := nb_lt (1) (2) c_1995 (btop v_1994) (bkc (x := 2) (c := 2) (by decide)) (by decide)
                  refine lv_iconst (v := 0) hx hb dX10_weighs_106 (by decide) ?_
                  exact J_107_1986 _ _ _ _ ⟨0, (bw (0) (1) (bkc (x := 0) (c := 0) (by decide)) (by decide)), rfl, ⟨hP, hD⟩, hS, lv_sub hl [1, 2, 3] rfl⟩
                · skip
                  have nc_1995 := nb_nlt (2) (2) c_1995 (bkc (x := 2) (c := 2) (by decide)) (btop v_1994) (by decide)
                  exact J_102_1991 _ _ _ _ ⟨rfl, ⟨hP, hD⟩, hS, lv_sub hl [1, 2, 3] rfl⟩
        · skip
          refine lv_goto (tgt := 108) hx hb dX10_weighs_51 (by decide) ?_
          exact J_108_1966 _ _ _ _ ⟨f_1868, f_1869, bf_1869, rfl, ⟨hP, hD⟩, hS, lv_sub hl [0, 1, 2] rfl⟩
  · skip
    have nc_1078 := nb_nle (15) (16) c_1078 bv_1071 (bkc (x := 16) (c := 16) (by decide)) (by decide)
    refine lv_aload_n hx hb dX10_weighs_8 rfl (lv_at hl 1 rfl) ?_
    refine va_get (D := G) (ci := 10) (v := .ref ob_worthOf) (C := RX10) (T := TX10) (N := 41) hx hb hw0 inA_wsX100 hown hK.1 hP 0 rfl rfl 18 (by decide) (hw0 _ m_449) (fun _ h9 => h9) rfl dX10_weighs_9 ?_
    refine lv_iload_n hx hb dX10_weighs_12 rfl (lv_at hl 0 rfl) ?_
    refine lv_iconst (v := 0) hx hb dX10_weighs_13 (by decide) ?_
    refine va_iast hx hb hK.1 hP hD hS 2 1 rfl rfl (vi nc_1078.1 (by decide)) dX10_weighs_14 (fun H locs hP hD hS => ?_)
    generalize hf_1996 : (upd f_1072 (v_1071 : Int32).toNatClampNeg 0) = f_1996 at hP hD
    obtain ⟨hP, hD⟩ : vPD G A H [(ce_X10 ob ob_thrown ob_world ob_images ob_hasImage ob_tape ob_taped ob_five ob_size ob_at ob_from ob_token ob_value ob_faultKind ob_faultPlace ob_fresh ob_parts ob_houses ob_houseMany ob_worthOf ob_byCall ob_over ob_bestSet ob_bestOver ob_bestWorth ob_row ob_tenDebts ob_tenMany ob_fewestBy ob_covered ob_queue ob_cameBy ob_parent ob_met ob_calls ob_callMany ob_calledOn ob_saved ob_many ob_width ob_numbers ob_moving), (ce_i9080 y ob_world fob_world), (ce_i16 y ob_worthOf f_1996), (ce_z16 y ob_byCall f_1073)] := ⟨hP, hD⟩
    refine lv_aload_n hx hb dX10_weighs_15 rfl (lv_at hl 1 rfl) ?_
    refine va_get (D := G) (ci := 10) (v := .ref ob_byCall) (C := RX10) (T := TX10) (N := 41) hx hb hw0 inA_wsX100 hown hK.1 hP 0 rfl rfl 19 (by decide) (hw0 _ m_523) (fun _ h9 => h9) rfl dX10_weighs_16 ?_
    refine lv_iload_n hx hb dX10_weighs_19 rfl (lv_at hl 0 rfl) ?_
    refine lv_iconst (v := 0) hx hb dX10_weighs_20 (by decide) ?_
    refine va_zast hx hb hK.1 hP hD hS 3 3 rfl rfl (vi nc_1078.1 (by decide)) dX10_weighs_21 (fun H locs hP hD hS => ?_)
    generalize hf_1997 : (upd f_1073 (v_1071 : Int32).toNatClampNeg (vp_nar .boolean 0)) = f_1997 at hP hD
    have bf_1997 : ∀ i, (0 : Int) ≤ (f_1997 i).toInt ∧ (f_1997 i).toInt ≤ 1 := hf_1997 ▸ up_z bf_1073 (bw (0) (1) (bkc (x := 0) (c := 0) (by decide)) (by decide))
    obtain ⟨hP, hD⟩ : vPD G A H [(ce_X10 ob ob_thrown ob_world ob_images ob_hasImage ob_tape ob_taped ob_five ob_size ob_at ob_from ob_token ob_value ob_faultKind ob_faultPlace ob_fresh ob_parts ob_houses ob_houseMany ob_worthOf ob_byCall ob_over ob_bestSet ob_bestOver ob_bestWorth ob_row ob_tenDebts ob_tenMany ob_fewestBy ob_covered ob_queue ob_cameBy ob_parent ob_met ob_calls ob_callMany ob_calledOn ob_saved ob_many ob_width ob_numbers ob_moving), (ce_i9080 y ob_world fob_world), (ce_i16 y ob_worthOf f_1996), (ce_z16 y ob_byCall f_1997)] := ⟨hP, hD⟩
    obtain ⟨v_1998, ev_1998⟩ : ∃ z : Int32, z = v_1071 + 1 := ⟨_, rfl⟩
    have qv_1998 := ba_add ev_1998 nc_1078.1 (bkc (x := 1) (c := 1) (by decide)) (by decide)
    have bv_1998 : (1 : Int) ≤ v_1998.toInt ∧ v_1998.toInt ≤ 16 := bq_add qv_1998 nc_1078.1 (bkc (x := 1) (c := 1) (by decide)) _ _ (by decide)
    have qv_1998 : v_1998.toInt = v_1071.toInt + (1) := qv_1998
    refine lv_iinc (v := v_1998) (lv' := [(2, .int v_1998), (0, .ref ob), (1, .int a1)]) hx hb dX10_weighs_22 hl (k := 0) rfl (ev_1998.symm) (by decide) rfl (fun ls hl => ?_)
    refine lv_goto (tgt := 2) hx hb dX10_weighs_25 (by decide) ?_
    exact ih_1077 _ (ml_inc (hi := 16) hn_1077 qv_1998 (by decide) ((bw (0) (16) bv_1998 (by decide))).2) _ _ _ _ ⟨v_1998, f_1996, f_1997, rfl, (bw (0) (16) bv_1998 (by decide)), bf_1997, rfl, ⟨hP, hD⟩, hS, lv_sub hl [0, 1, 2] rfl⟩

set_option maxHeartbeats 4000000 in
set_option maxRecDepth 100000 in
theorem sX10_lists (l : Launch) (G : va_G) (y : Nat → ClassId) (sz : Nat) (ob : Nat) (a1 : Int32) (ob_thrown : Int32) (ob_world : Nat) (ob_images : Nat) (ob_hasImage : Nat) (ob_tape : Nat) (ob_taped : Int32) (ob_five : Nat) (ob_size : Int32) (ob_at : Int32) (ob_from : Int32) (ob_token : Int32) (ob_value : Int32) (ob_faultKind : Int32) (ob_faultPlace : Int32) (ob_fresh : Nat) (ob_parts : Nat) (ob_houses : Nat) (ob_houseMany : Int32) (ob_worthOf : Nat) (ob_byCall : Nat) (ob_over : Nat) (ob_bestSet : Int32) (ob_bestOver : Int32) (ob_bestWorth : Int32) (ob_row : Nat) (ob_tenDebts : Nat) (ob_tenMany : Int32) (ob_fewestBy : Nat) (ob_covered : Nat) (ob_queue : Nat) (ob_cameBy : Nat) (ob_parent : Nat) (ob_met : Nat) (ob_calls : Nat) (ob_callMany : Int32) (ob_calledOn : Nat) (ob_saved : Nat) (ob_many : Nat) (ob_width : Nat) (ob_numbers : Nat) (ob_moving : Nat) (fob_world : Nat → Int32) (fob_houses : Nat → Int32) (fob_worthOf : Nat → Int32) (fob_byCall : Nat → Int32) (p_fob_world : RWw fob_world) (p_ob_taped : (0 : Int) ≤ ob_taped.toInt ∧ ob_taped.toInt ≤ 1400) (p_ob_size : (0 : Int) ≤ ob_size.toInt ∧ ob_size.toInt ≤ 1400) (p_ob_at : (0 : Int) ≤ ob_at.toInt ∧ ob_at.toInt ≤ 1400) (p_ob_from : (0 : Int) ≤ ob_from.toInt ∧ ob_from.toInt ≤ 1400) (p_ob_token : (0 : Int) ≤ ob_token.toInt ∧ ob_token.toInt ≤ 4) (p_ob_value : (0 : Int) ≤ ob_value.toInt ∧ ob_value.toInt ≤ 9999) (p_ob_faultKind : (0 : Int) ≤ ob_faultKind.toInt ∧ ob_faultKind.toInt ≤ 3) (p_fob_houses : ∀ i, (0 : Int) ≤ (fob_houses i).toInt ∧ (fob_houses i).toInt ≤ 15) (p_ob_houseMany : (0 : Int) ≤ ob_houseMany.toInt ∧ ob_houseMany.toInt ≤ 10) (p_fob_byCall : ∀ i, (0 : Int) ≤ (fob_byCall i).toInt ∧ (fob_byCall i).toInt ≤ 1) (p_ob_bestSet : (0 : Int) ≤ ob_bestSet.toInt ∧ ob_bestSet.toInt ≤ 1023) (p_ob_bestOver : (-1 : Int) ≤ ob_bestOver.toInt ∧ ob_bestOver.toInt ≤ 180) (p_ob_tenMany : (0 : Int) ≤ ob_tenMany.toInt ∧ ob_tenMany.toInt ≤ 10) (p_ob_callMany : (0 : Int) ≤ ob_callMany.toInt ∧ ob_callMany.toInt ≤ 16) : Met l yX10_lists (Cond.code yX10_lists cX10_lists 3 none :: wAll) ({ frames := 2, cells := 0, slots := 0, locals := 45 }) (va_Pc [.ref ob, .int a1] (kp G y sz [(ce_X10 ob ob_thrown ob_world ob_images ob_hasImage ob_tape ob_taped ob_five ob_size ob_at ob_from ob_token ob_value ob_faultKind ob_faultPlace ob_fresh ob_parts ob_houses ob_houseMany ob_worthOf ob_byCall ob_over ob_bestSet ob_bestOver ob_bestWorth ob_row ob_tenDebts ob_tenMany ob_fewestBy ob_covered ob_queue ob_cameBy ob_parent ob_met ob_calls ob_callMany ob_calledOn ob_saved ob_many ob_width ob_numbers ob_moving), (ce_i9080 y ob_world fob_world), (ce_i16 y ob_houses fob_houses), (ce_i16 y ob_worthOf fob_worthOf), (ce_z16 y ob_byCall fob_byCall)])) (va_Qv (fun (w : va_W) => (∃ (v_391 : Int32) (f_392 : Nat → Int32) (f_393 : Nat → Int32) (f_394 : Nat → Int32), ((0 : Int) ≤ v_391.toInt ∧ v_391.toInt ≤ 10) ∧ (∀ i, (0 : Int) ≤ (f_392 i).toInt ∧ (f_392 i).toInt ≤ 15) ∧ (∀ i, (0 : Int) ≤ (f_394 i).toInt ∧ (f_394 i).toInt ≤ 1) ∧ w = [(ce_X10 ob ob_thrown ob_world ob_images ob_hasImage ob_tape ob_taped ob_five ob_size ob_at ob_from ob_token ob_value ob_faultKind ob_faultPlace ob_fresh ob_parts ob_houses v_391 ob_worthOf ob_byCall ob_over ob_bestSet ob_bestOver ob_bestWorth ob_row ob_tenDebts ob_tenMany ob_fewestBy ob_covered ob_queue ob_cameBy ob_parent ob_met ob_calls ob_callMany ob_calledOn ob_saved ob_many ob_width ob_numbers ob_moving), (ce_i9080 y ob_world fob_world), (ce_i16 y ob_houses f_392), (ce_i16 y ob_worthOf f_393), (ce_z16 y ob_byCall f_394)])) (kq G (va_A [(ce_X10 ob ob_thrown ob_world ob_images ob_hasImage ob_tape ob_taped ob_five ob_size ob_at ob_from ob_token ob_value ob_faultKind ob_faultPlace ob_fresh ob_parts ob_houses ob_houseMany ob_worthOf ob_byCall ob_over ob_bestSet ob_bestOver ob_bestWorth ob_row ob_tenDebts ob_tenMany ob_fewestBy ob_covered ob_queue ob_cameBy ob_parent ob_met ob_calls ob_callMany ob_calledOn ob_saved ob_many ob_width ob_numbers ob_moving), (ce_i9080 y ob_world fob_world), (ce_i16 y ob_houses fob_houses), (ce_i16 y ob_worthOf fob_worthOf), (ce_z16 y ob_byCall fob_byCall)] sz)) (va_A [(ce_X10 ob ob_thrown ob_world ob_images ob_hasImage ob_tape ob_taped ob_five ob_size ob_at ob_from ob_token ob_value ob_faultKind ob_faultPlace ob_fresh ob_parts ob_houses ob_houseMany ob_worthOf ob_byCall ob_over ob_bestSet ob_bestOver ob_bestWorth ob_row ob_tenDebts ob_tenMany ob_fewestBy ob_covered ob_queue ob_cameBy ob_parent ob_met ob_calls ob_callMany ob_calledOn ob_saved ob_many ob_width ob_numbers ob_moving), (ce_i9080 y ob_world fob_world), (ce_i16 y ob_houses fob_houses), (ce_i16 y ob_worthOf fob_worthOf), (ce_z16 y ob_byCall fob_byCall)] sz)) 0 0 (va_A [(ce_X10 ob ob_thrown ob_world ob_images ob_hasImage ob_tape ob_taped ob_five ob_size ob_at ob_from ob_token ob_value ob_faultKind ob_faultPlace ob_fresh ob_parts ob_houses ob_houseMany ob_worthOf ob_byCall ob_over ob_bestSet ob_bestOver ob_bestWorth ob_row ob_tenDebts ob_tenMany ob_fewestBy ob_covered ob_queue ob_cameBy ob_parent ob_met ob_calls ob_callMany ob_calledOn ob_saved ob_many ob_width ob_numbers ob_moving), (ce_i9080 y ob_world fob_world), (ce_i16 y ob_houses fob_houses), (ce_i16 y ob_worthOf fob_worthOf), (ce_z16 y ob_byCall fob_byCall)] sz) := by
  refine Met.ofW (cc := cX10_lists) (maxL := 3) (ret := none) (by decide) rfl ?_
  intro p e s m args below meth c s₁ B hml hv
  obtain ⟨rfl, hsz, hP, hK, hD0⟩ := hv
  have hx := B.exec
  have hb := B.bytes
  have hr := B.returns
  have hw0 : ∀ w ∈ wAll, w.before _ s = true := fun w h => atoms_spec (ws := Cond.code yX10_lists cX10_lists 3 none :: wAll) B.pre w (List.mem_cons_of_mem _ h)
  have hown : s.vm.findClass RX10 = some m.cls := findClass_of_methodNamed B.named
  subst hsz
  have hD := hD0.self (sz := s.heap.size)
  generalize hAe : va_A [(ce_X10 ob ob_thrown ob_world ob_images ob_hasImage ob_tape ob_taped ob_five ob_size ob_at ob_from ob_token ob_value ob_faultKind ob_faultPlace ob_fresh ob_parts ob_houses ob_houseMany ob_worthOf ob_byCall ob_over ob_bestSet ob_bestOver ob_bestWorth ob_row ob_tenDebts ob_tenMany ob_fewestBy ob_covered ob_queue ob_cameBy ob_parent ob_met ob_calls ob_callMany ob_calledOn ob_saved ob_many ob_width ob_numbers ob_moving), (ce_i9080 y ob_world fob_world), (ce_i16 y ob_houses fob_houses), (ce_i16 y ob_worthOf fob_worthOf), (ce_z16 y ob_byCall fob_byCall)] s.heap.size = A at hD ⊢
  have hA : ∀ q : Nat, s.heap.size ≤ q → A q := fun q h => by rw [← hAe]; exact Or.inr h
  have hS : va_S A s.heap s.heap [] := va_S.rf
  have hP : va_P G vwCl [(ce_X10 ob ob_thrown ob_world ob_images ob_hasImage ob_tape ob_taped ob_five ob_size ob_at ob_from ob_token ob_value ob_faultKind ob_faultPlace ob_fresh ob_parts ob_houses ob_houseMany ob_worthOf ob_byCall ob_over ob_bestSet ob_bestOver ob_bestWorth ob_row ob_tenDebts ob_tenMany ob_fewestBy ob_covered ob_queue ob_cameBy ob_parent ob_met ob_calls ob_callMany ob_calledOn ob_saved ob_many ob_width ob_numbers ob_moving), (ce_i9080 y ob_world fob_world), (ce_i16 y ob_houses fob_houses), (ce_i16 y ob_worthOf fob_worthOf), (ce_z16 y ob_byCall fob_byCall)] s.heap := hP
  have hl := lv_entry ([.ref ob, .int a1]) (n := 3) (Nat.le_of_ble_eq_true rfl)
  rw [lg_entry_eq]
  generalize (lg_sl ([.ref ob, .int a1]) ++ List.replicate (3 - (lg_sl ([.ref ob, .int a1])).length) Slot.unset).toArray = ls at hl ⊢
  have hl : lv_has ls 3 [(0, .ref ob), (1, .int a1)] := hl
  refine lv_aload_n hx hb dX10_lists_0 rfl (lv_at hl 0 rfl) ?_
  refine lv_iload_n hx hb dX10_lists_1 rfl (lv_at hl 1 rfl) ?_
  refine cVvm (As := [.int a1]) (rest := []) ⟨hx, hb, hml, hown, hw0⟩ hA hK hP hD hS [true, true, false, true, true] (sX10_weighs l G y _ ob a1 ob_thrown ob_world ob_images ob_hasImage ob_tape ob_taped ob_five ob_size ob_at ob_from ob_token ob_value ob_faultKind ob_faultPlace ob_fresh ob_parts ob_houses ob_houseMany ob_worthOf ob_byCall ob_over ob_bestSet ob_bestOver ob_bestWorth ob_row ob_tenDebts ob_tenMany ob_fewestBy ob_covered ob_queue ob_cameBy ob_parent ob_met ob_calls ob_callMany ob_calledOn ob_saved ob_many ob_width ob_numbers ob_moving fob_world fob_worthOf fob_byCall p_fob_world p_ob_taped p_ob_size p_ob_at p_ob_from p_ob_token p_ob_value p_ob_faultKind p_ob_houseMany p_fob_byCall p_ob_bestSet p_ob_bestOver p_ob_tenMany p_ob_callMany) rfl ⟨(callB_of 1 hw0 (gA m_696) rfl rfl rfl (hw0 _ m_41) (hw0 _ m_441) cb_X10_weighs ⟨Nat.le_of_ble_eq_true rfl, Nat.le_of_ble_eq_true rfl⟩), (hw0 _ m_442), (hw0 _ m_443)⟩ (ci := 10) (q := (RX10, TX10, 41)) rfl rfl rfl hl.1 (Nat.le_of_ble_eq_true rfl) dX10_lists_2 ⟨Nat.le_of_ble_eq_true rfl, Nat.le_of_ble_eq_true rfl⟩ (fun w_1001 H locs hw_1001 hP hD hS => ?_)
  obtain ⟨f_1002, f_1003, bf_1003, rfl⟩ := hw_1001
  obtain ⟨hP, hD⟩ : vPD G A H [(ce_X10 ob ob_thrown ob_world ob_images ob_hasImage ob_tape ob_taped ob_five ob_size ob_at ob_from ob_token ob_value ob_faultKind ob_faultPlace ob_fresh ob_parts ob_houses ob_houseMany ob_worthOf ob_byCall ob_over ob_bestSet ob_bestOver ob_bestWorth ob_row ob_tenDebts ob_tenMany ob_fewestBy ob_covered ob_queue ob_cameBy ob_parent ob_met ob_calls ob_callMany ob_calledOn ob_saved ob_many ob_width ob_numbers ob_moving), (ce_i9080 y ob_world fob_world), (ce_i16 y ob_houses fob_houses), (ce_i16 y ob_worthOf f_1002), (ce_z16 y ob_byCall f_1003)] := ⟨hP, hD⟩
  refine lv_aload_n hx hb dX10_lists_5 rfl (lv_at hl 0 rfl) ?_
  refine lv_iconst (v := 0) hx hb dX10_lists_6 (by decide) ?_
  refine va_put (D := G) (ci := 10) (v := .int 0) (ty := .int) (C := RX10) (T := TX10) (N := 41) hx hb hw0 inA_wsX100 tyX10 tyX10_ok nmX10 hown hK.1 hP hD hS 0 rfl rfl 17 (by decide) (hw0 _ m_409) (fun _ h9 => h9) rfl fd_X10_17 rfl rfl (Nat.le_of_ble_eq_true rfl) dX10_lists_7 (fun H locs hP hD hS => ?_)
  obtain ⟨hP, hD⟩ : vPD G A H [(ce_X10 ob ob_thrown ob_world ob_images ob_hasImage ob_tape ob_taped ob_five ob_size ob_at ob_from ob_token ob_value ob_faultKind ob_faultPlace ob_fresh ob_parts ob_houses 0 ob_worthOf ob_byCall ob_over ob_bestSet ob_bestOver ob_bestWorth ob_row ob_tenDebts ob_tenMany ob_fewestBy ob_covered ob_queue ob_cameBy ob_parent ob_met ob_calls ob_callMany ob_calledOn ob_saved ob_many ob_width ob_numbers ob_moving), (ce_i9080 y ob_world fob_world), (ce_i16 y ob_houses fob_houses), (ce_i16 y ob_worthOf f_1002), (ce_z16 y ob_byCall f_1003)] := ⟨hP, hD⟩
  refine lv_iconst (v := 0) hx hb dX10_lists_10 (by decide) ?_
  refine lv_istore_n (lv' := [(2, .int 0), (0, .ref ob), (1, .int a1)]) hx hb dX10_lists_11 rfl hl (by decide) rfl (fun ls hl => ?_)
  refine loopX (fun n H locs ls st => ∃ (v_1169 : Int32) (v_1170 : Int32) (f_1171 : Nat → Int32), (16 - v_1169.toInt).toNat = n ∧ ((0 : Int) ≤ v_1169.toInt ∧ v_1169.toInt ≤ 16) ∧ ((0 : Int) ≤ v_1170.toInt ∧ v_1170.toInt ≤ 10) ∧ (∀ i, (0 : Int) ≤ (f_1171 i).toInt ∧ (f_1171 i).toInt ≤ 15) ∧ st = [] ∧ vPD G A H [(ce_X10 ob ob_thrown ob_world ob_images ob_hasImage ob_tape ob_taped ob_five ob_size ob_at ob_from ob_token ob_value ob_faultKind ob_faultPlace ob_fresh ob_parts ob_houses v_1170 ob_worthOf ob_byCall ob_over ob_bestSet ob_bestOver ob_bestWorth ob_row ob_tenDebts ob_tenMany ob_fewestBy ob_covered ob_queue ob_cameBy ob_parent ob_met ob_calls ob_callMany ob_calledOn ob_saved ob_many ob_width ob_numbers ob_moving), (ce_i9080 y ob_world fob_world), (ce_i16 y ob_houses f_1171), (ce_i16 y ob_worthOf f_1002), (ce_z16 y ob_byCall f_1003)] ∧ va_S A s.heap H locs ∧ lv_has ls 3 [(2, .int v_1169), (0, .ref ob)]) ?_ (n := (16 - (0 : Int32).toInt).toNat) ⟨0, 0, fob_houses, rfl, (bw (0) (16) (bkc (x := 0) (c := 0) (by decide)) (by decide)), (bw (0) (10) (bkc (x := 0) (c := 0) (by decide)) (by decide)), p_fob_houses, rfl, ⟨hP, hD⟩, hS, lv_sub hl [0, 1] rfl⟩
  rintro n ih_1183 H locs ls st ⟨v_1169, v_1170, f_1171, hn_1183, bv_1169, bv_1170, bf_1171, rfl, ⟨hP, hD⟩, hS, hl⟩
  refine lv_iload_n hx hb dX10_lists_12 rfl (lv_at hl 0 rfl) ?_
  refine lv_bipush (v := 16) hx hb dX10_lists_13 (by decide) ?_
  refine lv_icmp_ge (tgt := 65) hx hb dX10_lists_15 (by decide) (fun c_1184 => ?_) (fun c_1184 => ?_)
  · skip
    have nc_1184 := nb_le (16) (16) c_1184 (bkc (x := 16) (c := 16) (by decide)) bv_1169 (by decide)
    exact W.vret hx hb hr (fun t ht hW => ⟨⟨_, rfl, ⟨v_1170, f_1171, f_1002, f_1003, bv_1170, bf_1171, bf_1003, rfl⟩, by rw [ht]; exact hP, hD⟩, hS.F ht⟩) hS.2.2 dX10_lists_65
  · skip
    have nc_1184 := nb_nle (15) (16) c_1184 bv_1169 (bkc (x := 16) (c := 16) (by decide)) (by decide)
    refine lv_aload_n hx hb dX10_lists_18 rfl (lv_at hl 1 rfl) ?_
    refine va_get (D := G) (ci := 10) (v := .int v_1170) (C := RX10) (T := TX10) (N := 41) hx hb hw0 inA_wsX100 hown hK.1 hP 0 rfl rfl 17 (by decide) (hw0 _ m_409) (fun _ h9 => h9) rfl dX10_lists_19 ?_
    refine lv_bipush (v := 10) hx hb dX10_lists_22 (by decide) ?_
    refine lv_icmp_ge (tgt := 65) hx hb dX10_lists_24 (by decide) (fun c_1185 => ?_) (fun c_1185 => ?_)
    · skip
      have nc_1185 := nb_le (10) (10) c_1185 (bkc (x := 10) (c := 10) (by decide)) bv_1170 (by decide)
      exact W.vret hx hb hr (fun t ht hW => ⟨⟨_, rfl, ⟨v_1170, f_1171, f_1002, f_1003, (bw (0) (10) nc_1185.2.1 (by decide)), bf_1171, bf_1003, rfl⟩, by rw [ht]; exact hP, hD⟩, hS.F ht⟩) hS.2.2 dX10_lists_65
    · skip
      have nc_1185 := nb_nle (9) (10) c_1185 bv_1170 (bkc (x := 10) (c := 10) (by decide)) (by decide)
      refine lv_aload_n hx hb dX10_lists_27 rfl (lv_at hl 1 rfl) ?_
      refine va_get (D := G) (ci := 10) (v := .ref ob_worthOf) (C := RX10) (T := TX10) (N := 41) hx hb hw0 inA_wsX100 hown hK.1 hP 0 rfl rfl 18 (by decide) (hw0 _ m_449) (fun _ h9 => h9) rfl dX10_lists_28 ?_
      refine lv_iload_n hx hb dX10_lists_31 rfl (lv_at hl 0 rfl) ?_
      refine va_iald hx hb hK.1 hP 3 1 rfl rfl (vi nc_1184.1 (by decide)) dX10_lists_32 ?_
      refine lv_topi (fun v_1186 ev_1186 => ?_)
      refine cutW 59 (fun H locs ls st => ∃ (v_1190 : Int32) (f_1191 : Nat → Int32), ((0 : Int) ≤ v_1190.toInt ∧ v_1190.toInt ≤ 10) ∧ (∀ i, (0 : Int) ≤ (f_1191 i).toInt ∧ (f_1191 i).toInt ≤ 15) ∧ st = [] ∧ vPD G A H [(ce_X10 ob ob_thrown ob_world ob_images ob_hasImage ob_tape ob_taped ob_five ob_size ob_at ob_from ob_token ob_value ob_faultKind ob_faultPlace ob_fresh ob_parts ob_houses v_1190 ob_worthOf ob_byCall ob_over ob_bestSet ob_bestOver ob_bestWorth ob_row ob_tenDebts ob_tenMany ob_fewestBy ob_covered ob_queue ob_cameBy ob_parent ob_met ob_calls ob_callMany ob_calledOn ob_saved ob_many ob_width ob_numbers ob_moving), (ce_i9080 y ob_world fob_world), (ce_i16 y ob_houses f_1191), (ce_i16 y ob_worthOf f_1002), (ce_z16 y ob_byCall f_1003)] ∧ va_S A s.heap H locs ∧ lv_has ls 3 [(2, .int v_1169), (0, .ref ob)]) ?_ (fun J_59_1191 => ?_)
      · rintro H locs ls st ⟨v_1190, f_1191, bv_1190, bf_1191, rfl, ⟨hP, hD⟩, hS, hl⟩
        obtain ⟨v_1192, ev_1192⟩ : ∃ z : Int32, z = v_1169 + 1 := ⟨_, rfl⟩
        have qv_1192 := ba_add ev_1192 nc_1184.1 (bkc (x := 1) (c := 1) (by decide)) (by decide)
        have bv_1192 : (1 : Int) ≤ v_1192.toInt ∧ v_1192.toInt ≤ 16 := bq_add qv_1192 nc_1184.1 (bkc (x := 1) (c := 1) (by decide)) _ _ (by decide)
        have qv_1192 : v_1192.toInt = v_1169.toInt + (1) := qv_1192
        refine lv_iinc (v := v_1192) (lv' := [(2, .int v_1192), (0, .ref ob)]) hx hb dX10_lists_59 hl (k := 0) rfl (ev_1192.symm) (by decide) rfl (fun ls hl => ?_)
        refine lv_goto (tgt := 12) hx hb dX10_lists_62 (by decide) ?_
        exact ih_1183 _ (ml_inc (hi := 16) hn_1183 qv_1192 (by decide) ((bw (0) (16) bv_1192 (by decide))).2) _ _ _ _ ⟨v_1192, v_1190, f_1191, rfl, (bw (0) (16) bv_1192 (by decide)), bv_1190, bf_1191, rfl, ⟨hP, hD⟩, hS, lv_sub hl [0, 1] rfl⟩
      · skip
        refine lv_if_ne (tgt := 39) hx hb dX10_lists_33 (by decide) (fun c_1193 => ?_) (fun c_1193 => ?_)
        · skip
          have nc_1193 := nb_ne (-2147483648) (2147483647) c_1193 (btop v_1186) (k := 0) (by decide) (by decide)
          refine lv_aload_n hx hb dX10_lists_39 rfl (lv_at hl 1 rfl) ?_
          refine va_get (D := G) (ci := 10) (v := .ref ob_houses) (C := RX10) (T := TX10) (N := 41) hx hb hw0 inA_wsX100 hown hK.1 hP 0 rfl rfl 16 (by decide) (hw0 _ m_410) (fun _ h9 => h9) rfl dX10_lists_40 ?_
          refine lv_aload_n hx hb dX10_lists_43 rfl (lv_at hl 1 rfl) ?_
          refine va_get (D := G) (ci := 10) (v := .int v_1170) (C := RX10) (T := TX10) (N := 41) hx hb hw0 inA_wsX100 hown hK.1 hP 0 rfl rfl 17 (by decide) (hw0 _ m_409) (fun _ h9 => h9) rfl dX10_lists_44 ?_
          refine lv_iload_n hx hb dX10_lists_47 rfl (lv_at hl 0 rfl) ?_
          refine va_iast hx hb hK.1 hP hD hS 2 1 rfl rfl (vi nc_1185.1 (by decide)) dX10_lists_48 (fun H locs hP hD hS => ?_)
          generalize hf_1194 : (upd f_1171 (v_1170 : Int32).toNatClampNeg v_1169) = f_1194 at hP hD
          have bf_1194 : ∀ i, (0 : Int) ≤ (f_1194 i).toInt ∧ (f_1194 i).toInt ≤ 15 := hf_1194 ▸ up_b bf_1171 nc_1184.1
          obtain ⟨hP, hD⟩ : vPD G A H [(ce_X10 ob ob_thrown ob_world ob_images ob_hasImage ob_tape ob_taped ob_five ob_size ob_at ob_from ob_token ob_value ob_faultKind ob_faultPlace ob_fresh ob_parts ob_houses v_1170 ob_worthOf ob_byCall ob_over ob_bestSet ob_bestOver ob_bestWorth ob_row ob_tenDebts ob_tenMany ob_fewestBy ob_covered ob_queue ob_cameBy ob_parent ob_met ob_calls ob_callMany ob_calledOn ob_saved ob_many ob_width ob_numbers ob_moving), (ce_i9080 y ob_world fob_world), (ce_i16 y ob_houses f_1194), (ce_i16 y ob_worthOf f_1002), (ce_z16 y ob_byCall f_1003)] := ⟨hP, hD⟩
          refine lv_aload_n hx hb dX10_lists_49 rfl (lv_at hl 1 rfl) ?_
          refine lv_dup hx hb dX10_lists_50 rfl ?_
          refine va_get (D := G) (ci := 10) (v := .int v_1170) (C := RX10) (T := TX10) (N := 41) hx hb hw0 inA_wsX100 hown hK.1 hP 0 rfl rfl 17 (by decide) (hw0 _ m_409) (fun _ h9 => h9) rfl dX10_lists_51 ?_
          refine lv_iconst (v := 1) hx hb dX10_lists_54 (by decide) ?_
          refine lv_iadd hx hb dX10_lists_55 ?_
          refine lv_topi (fun v_1195 ev_1195 => ?_)
          have qv_1195 := ba_add ev_1195 nc_1185.1 (bkc (x := 1) (c := 1) (by decide)) (by decide)
          have bv_1195 : (1 : Int) ≤ v_1195.toInt ∧ v_1195.toInt ≤ 10 := bq_add qv_1195 nc_1185.1 (bkc (x := 1) (c := 1) (by decide)) _ _ (by decide)
          have qv_1195 : v_1195.toInt = v_1170.toInt + (1) := qv_1195
          refine va_put (D := G) (ci := 10) (v := .int v_1195) (ty := .int) (C := RX10) (T := TX10) (N := 41) hx hb hw0 inA_wsX100 tyX10 tyX10_ok nmX10 hown hK.1 hP hD hS 0 rfl rfl 17 (by decide) (hw0 _ m_409) (fun _ h9 => h9) rfl fd_X10_17 rfl rfl (Nat.le_of_ble_eq_true rfl) dX10_lists_56 (fun H locs hP hD hS => ?_)
          obtain ⟨hP, hD⟩ : vPD G A H [(ce_X10 ob ob_thrown ob_world ob_images ob_hasImage ob_tape ob_taped ob_five ob_size ob_at ob_from ob_token ob_value ob_faultKind ob_faultPlace ob_fresh ob_parts ob_houses v_1195 ob_worthOf ob_byCall ob_over ob_bestSet ob_bestOver ob_bestWorth ob_row ob_tenDebts ob_tenMany ob_fewestBy ob_covered ob_queue ob_cameBy ob_parent ob_met ob_calls ob_callMany ob_calledOn ob_saved ob_many ob_width ob_numbers ob_moving), (ce_i9080 y ob_world fob_world), (ce_i16 y ob_houses f_1194), (ce_i16 y ob_worthOf f_1002), (ce_z16 y ob_byCall f_1003)] := ⟨hP, hD⟩
          exact J_59_1191 _ _ _ _ ⟨v_1195, f_1194, (bw (0) (10) bv_1195 (by decide)), bf_1194, rfl, ⟨hP, hD⟩, hS, lv_sub hl [0, 1] rfl⟩
        · skip
          have nc_1193 := nb_eq (0) (0) c_1193 (btop v_1186) (bkc (x := 0) (c := 0) (by decide)) (by decide)
          refine lv_goto (tgt := 59) hx hb dX10_lists_36 (by decide) ?_
          exact J_59_1191 _ _ _ _ ⟨v_1170, f_1171, (bw (0) (10) nc_1185.1 (by decide)), bf_1171, rfl, ⟨hP, hD⟩, hS, lv_sub hl [0, 1] rfl⟩

set_option maxHeartbeats 4000000 in
set_option maxRecDepth 100000 in
theorem sX10_hangs (l : Launch) (G : va_G) (y : Nat → ClassId) (sz : Nat) (ob : Nat) (a1 : Int32) (a2 : Int32) (a3 : Int32) (ob_thrown : Int32) (ob_world : Nat) (ob_images : Nat) (ob_hasImage : Nat) (ob_tape : Nat) (ob_taped : Int32) (ob_five : Nat) (ob_size : Int32) (ob_at : Int32) (ob_from : Int32) (ob_token : Int32) (ob_value : Int32) (ob_faultKind : Int32) (ob_faultPlace : Int32) (ob_fresh : Nat) (ob_parts : Nat) (ob_houses : Nat) (ob_houseMany : Int32) (ob_worthOf : Nat) (ob_byCall : Nat) (ob_over : Nat) (ob_bestSet : Int32) (ob_bestOver : Int32) (ob_bestWorth : Int32) (ob_row : Nat) (ob_tenDebts : Nat) (ob_tenMany : Int32) (ob_fewestBy : Nat) (ob_covered : Nat) (ob_queue : Nat) (ob_cameBy : Nat) (ob_parent : Nat) (ob_met : Nat) (ob_calls : Nat) (ob_callMany : Int32) (ob_calledOn : Nat) (ob_saved : Nat) (ob_many : Nat) (ob_width : Nat) (ob_numbers : Nat) (ob_moving : Nat) (fob_world : Nat → Int32) (p_fob_world : RWw fob_world) (p_ob_taped : (0 : Int) ≤ ob_taped.toInt ∧ ob_taped.toInt ≤ 1400) (p_ob_size : (0 : Int) ≤ ob_size.toInt ∧ ob_size.toInt ≤ 1400) (p_ob_at : (0 : Int) ≤ ob_at.toInt ∧ ob_at.toInt ≤ 1400) (p_ob_from : (0 : Int) ≤ ob_from.toInt ∧ ob_from.toInt ≤ 1400) (p_ob_token : (0 : Int) ≤ ob_token.toInt ∧ ob_token.toInt ≤ 4) (p_ob_value : (0 : Int) ≤ ob_value.toInt ∧ ob_value.toInt ≤ 9999) (p_ob_faultKind : (0 : Int) ≤ ob_faultKind.toInt ∧ ob_faultKind.toInt ≤ 3) (p_ob_houseMany : (0 : Int) ≤ ob_houseMany.toInt ∧ ob_houseMany.toInt ≤ 10) (p_ob_bestSet : (0 : Int) ≤ ob_bestSet.toInt ∧ ob_bestSet.toInt ≤ 1023) (p_ob_bestOver : (-1 : Int) ≤ ob_bestOver.toInt ∧ ob_bestOver.toInt ≤ 180) (p_ob_tenMany : (0 : Int) ≤ ob_tenMany.toInt ∧ ob_tenMany.toInt ≤ 10) (p_ob_callMany : (0 : Int) ≤ ob_callMany.toInt ∧ ob_callMany.toInt ≤ 16) (p_a1 : (0 : Int) ≤ a1.toInt ∧ a1.toInt ≤ 15) : Met l yX10_hangs (Cond.code yX10_hangs cX10_hangs 8 (some .int) :: wAll) ({ frames := 1, cells := 0, slots := 0, locals := 21 }) (va_Pc [.ref ob, .int a1, .int a2, .int a3] (kp G y sz [(ce_X10 ob ob_thrown ob_world ob_images ob_hasImage ob_tape ob_taped ob_five ob_size ob_at ob_from ob_token ob_value ob_faultKind ob_faultPlace ob_fresh ob_parts ob_houses ob_houseMany ob_worthOf ob_byCall ob_over ob_bestSet ob_bestOver ob_bestWorth ob_row ob_tenDebts ob_tenMany ob_fewestBy ob_covered ob_queue ob_cameBy ob_parent ob_met ob_calls ob_callMany ob_calledOn ob_saved ob_many ob_width ob_numbers ob_moving), (ce_i9080 y ob_world fob_world)])) (va_Qi (fun (r : Int32) (w : va_W) => (∃ (v_8369 : Int32), ((0 : Int) ≤ v_8369.toInt ∧ v_8369.toInt ≤ 65535) ∧ r = v_8369 ∧ w = [(ce_X10 ob ob_thrown ob_world ob_images ob_hasImage ob_tape ob_taped ob_five ob_size ob_at ob_from ob_token ob_value ob_faultKind ob_faultPlace ob_fresh ob_parts ob_houses ob_houseMany ob_worthOf ob_byCall ob_over ob_bestSet ob_bestOver ob_bestWorth ob_row ob_tenDebts ob_tenMany ob_fewestBy ob_covered ob_queue ob_cameBy ob_parent ob_met ob_calls ob_callMany ob_calledOn ob_saved ob_many ob_width ob_numbers ob_moving), (ce_i9080 y ob_world fob_world)])) (kq G (va_A [(ce_X10 ob ob_thrown ob_world ob_images ob_hasImage ob_tape ob_taped ob_five ob_size ob_at ob_from ob_token ob_value ob_faultKind ob_faultPlace ob_fresh ob_parts ob_houses ob_houseMany ob_worthOf ob_byCall ob_over ob_bestSet ob_bestOver ob_bestWorth ob_row ob_tenDebts ob_tenMany ob_fewestBy ob_covered ob_queue ob_cameBy ob_parent ob_met ob_calls ob_callMany ob_calledOn ob_saved ob_many ob_width ob_numbers ob_moving), (ce_i9080 y ob_world fob_world)] sz)) (va_A [(ce_X10 ob ob_thrown ob_world ob_images ob_hasImage ob_tape ob_taped ob_five ob_size ob_at ob_from ob_token ob_value ob_faultKind ob_faultPlace ob_fresh ob_parts ob_houses ob_houseMany ob_worthOf ob_byCall ob_over ob_bestSet ob_bestOver ob_bestWorth ob_row ob_tenDebts ob_tenMany ob_fewestBy ob_covered ob_queue ob_cameBy ob_parent ob_met ob_calls ob_callMany ob_calledOn ob_saved ob_many ob_width ob_numbers ob_moving), (ce_i9080 y ob_world fob_world)] sz)) 0 0 (va_A [(ce_X10 ob ob_thrown ob_world ob_images ob_hasImage ob_tape ob_taped ob_five ob_size ob_at ob_from ob_token ob_value ob_faultKind ob_faultPlace ob_fresh ob_parts ob_houses ob_houseMany ob_worthOf ob_byCall ob_over ob_bestSet ob_bestOver ob_bestWorth ob_row ob_tenDebts ob_tenMany ob_fewestBy ob_covered ob_queue ob_cameBy ob_parent ob_met ob_calls ob_callMany ob_calledOn ob_saved ob_many ob_width ob_numbers ob_moving), (ce_i9080 y ob_world fob_world)] sz) := by
  refine Met.ofW (cc := cX10_hangs) (maxL := 8) (ret := (some .int)) (by decide) rfl ?_
  intro p e s m args below meth c s₁ B hml hv
  obtain ⟨rfl, hsz, hP, hK, hD0⟩ := hv
  have hx := B.exec
  have hb := B.bytes
  have hr := B.returns
  have hw0 : ∀ w ∈ wAll, w.before _ s = true := fun w h => atoms_spec (ws := Cond.code yX10_hangs cX10_hangs 8 (some .int) :: wAll) B.pre w (List.mem_cons_of_mem _ h)
  have hown : s.vm.findClass RX10 = some m.cls := findClass_of_methodNamed B.named
  subst hsz
  have hD := hD0.self (sz := s.heap.size)
  generalize hAe : va_A [(ce_X10 ob ob_thrown ob_world ob_images ob_hasImage ob_tape ob_taped ob_five ob_size ob_at ob_from ob_token ob_value ob_faultKind ob_faultPlace ob_fresh ob_parts ob_houses ob_houseMany ob_worthOf ob_byCall ob_over ob_bestSet ob_bestOver ob_bestWorth ob_row ob_tenDebts ob_tenMany ob_fewestBy ob_covered ob_queue ob_cameBy ob_parent ob_met ob_calls ob_callMany ob_calledOn ob_saved ob_many ob_width ob_numbers ob_moving), (ce_i9080 y ob_world fob_world)] s.heap.size = A at hD ⊢
  have hA : ∀ q : Nat, s.heap.size ≤ q → A q := fun q h => by rw [← hAe]; exact Or.inr h
  have hS : va_S A s.heap s.heap [] := va_S.rf
  have hP : va_P G vwCl [(ce_X10 ob ob_thrown ob_world ob_images ob_hasImage ob_tape ob_taped ob_five ob_size ob_at ob_from ob_token ob_value ob_faultKind ob_faultPlace ob_fresh ob_parts ob_houses ob_houseMany ob_worthOf ob_byCall ob_over ob_bestSet ob_bestOver ob_bestWorth ob_row ob_tenDebts ob_tenMany ob_fewestBy ob_covered ob_queue ob_cameBy ob_parent ob_met ob_calls ob_callMany ob_calledOn ob_saved ob_many ob_width ob_numbers ob_moving), (ce_i9080 y ob_world fob_world)] s.heap := hP
  have hl := lv_entry ([.ref ob, .int a1, .int a2, .int a3]) (n := 8) (Nat.le_of_ble_eq_true rfl)
  rw [lg_entry_eq]
  generalize (lg_sl ([.ref ob, .int a1, .int a2, .int a3]) ++ List.replicate (8 - (lg_sl ([.ref ob, .int a1, .int a2, .int a3])).length) Slot.unset).toArray = ls at hl ⊢
  have hl : lv_has ls 8 [(0, .ref ob), (1, .int a1), (2, .int a2), (3, .int a3)] := hl
  have h0z : (0 : Int32).toInt = 0 := by decide
  refine lv_iconst (v := 1) hx hb dX10_hangs_0 (by decide) ?_
  refine lv_iload_n hx hb dX10_hangs_1 rfl (lv_at hl 1 rfl) ?_
  refine lv_ishl hx hb dX10_hangs_2 ?_
  refine lv_topi (fun v_1001 ev_1001 => ?_)
  have bv_1001 : (1 : Int) ≤ v_1001.toInt ∧ v_1001.toInt ≤ 32768 := ba_shl 0 15 ev_1001 p_a1 (by decide)
  refine lv_istore (lv' := [(4, .int v_1001), (0, .ref ob), (1, .int a1), (2, .int a2), (3, .int a3)]) hx hb dX10_hangs_3 hl (by decide) rfl (fun ls hl => ?_)
  refine lv_iconst (v := 0) hx hb dX10_hangs_5 (by decide) ?_
  refine lv_istore (lv' := [(5, .int 0), (4, .int v_1001), (0, .ref ob), (1, .int a1), (2, .int a2), (3, .int a3)]) hx hb dX10_hangs_6 hl (by decide) rfl (fun ls hl => ?_)
  refine loopX (fun n H locs ls st => ∃ (v_3791 : Int32) (v_3792 : Int32), (131070 - v_3791.toInt - v_3792.toInt).toNat = n ∧ ((0 : Int) ≤ v_3791.toInt ∧ v_3791.toInt ≤ 65535) ∧ ((0 : Int) ≤ v_3792.toInt ∧ v_3792.toInt ≤ 65535) ∧ (v_3791.toInt ≤ v_3792.toInt) ∧ st = [] ∧ vPD G A H [(ce_X10 ob ob_thrown ob_world ob_images ob_hasImage ob_tape ob_taped ob_five ob_size ob_at ob_from ob_token ob_value ob_faultKind ob_faultPlace ob_fresh ob_parts ob_houses ob_houseMany ob_worthOf ob_byCall ob_over ob_bestSet ob_bestOver ob_bestWorth ob_row ob_tenDebts ob_tenMany ob_fewestBy ob_covered ob_queue ob_cameBy ob_parent ob_met ob_calls ob_callMany ob_calledOn ob_saved ob_many ob_width ob_numbers ob_moving), (ce_i9080 y ob_world fob_world)] ∧ va_S A s.heap H locs ∧ lv_has ls 8 [(5, .int v_3791), (4, .int v_3792), (0, .ref ob), (2, .int a2), (3, .int a3)]) ?_ (n := (131070 - (0 : Int32).toInt - v_1001.toInt).toNat) ⟨0, v_1001, rfl, (bw (0) (65535) (bkc (x := 0) (c := 0) (by decide)) (by decide)), (bw (0) (65535) bv_1001 (by decide)), (by have h90 : Int32.toInt 0 = 0 := (by decide); omega), rfl, ⟨hP, hD⟩, hS, lv_sub hl [0, 1, 2, 4, 5] rfl⟩
  rintro n ih_4488 H locs ls st ⟨v_3791, v_3792, hn_4488, bv_3791, bv_3792, rl3792_0, rfl, ⟨hP, hD⟩, hS, hl⟩
  refine lv_iload hx hb dX10_hangs_8 (lv_at hl 0 rfl) ?_
  refine lv_iload hx hb dX10_hangs_10 (lv_at hl 1 rfl) ?_
  refine lv_icmp_eq (tgt := 107) hx hb dX10_hangs_12 (by decide) (fun c_4489 => ?_) (fun c_4489 => ?_)
  · skip
    have nc_4489 := nb_eq (0) (65535) c_4489 bv_3791 bv_3792 (by decide)
    refine lv_iload hx hb dX10_hangs_107 (lv_at hl 1 rfl) ?_
    exact W.iret (v := v_3792) hx hb hr (fun t ht hW => ⟨⟨v_3792, _, rfl, ⟨v_3792, nc_4489.2.1, rfl, rfl⟩, by rw [ht]; exact hP, hD⟩, hS.F ht⟩) hS.2.2 dX10_hangs_109
  · skip
    have nc_4489 : v_3791.toInt ≠ v_3792.toInt := fun h9 => c_4489 (Int32.toInt_inj.mp h9)
    refine lv_iload hx hb dX10_hangs_15 (lv_at hl 1 rfl) ?_
    refine lv_istore (lv' := [(5, .int v_3792), (4, .int v_3792), (0, .ref ob), (2, .int a2), (3, .int a3)]) hx hb dX10_hangs_17 hl (by decide) rfl (fun ls hl => ?_)
    refine lv_iconst (v := 0) hx hb dX10_hangs_19 (by decide) ?_
    refine lv_istore (lv' := [(6, .int 0), (5, .int v_3792), (4, .int v_3792), (0, .ref ob), (2, .int a2), (3, .int a3)]) hx hb dX10_hangs_20 hl (by decide) rfl (fun ls hl => ?_)
    refine loopX (fun n H locs ls st => ∃ (v_5087 : Int32) (v_5088 : Int32), (16 - v_5087.toInt).toNat = n ∧ ((0 : Int) ≤ v_5087.toInt ∧ v_5087.toInt ≤ 16) ∧ ((0 : Int) ≤ v_5088.toInt ∧ v_5088.toInt ≤ 65535) ∧ (v_3792.toInt ≤ v_5088.toInt) ∧ st = [] ∧ vPD G A H [(ce_X10 ob ob_thrown ob_world ob_images ob_hasImage ob_tape ob_taped ob_five ob_size ob_at ob_from ob_token ob_value ob_faultKind ob_faultPlace ob_fresh ob_parts ob_houses ob_houseMany ob_worthOf ob_byCall ob_over ob_bestSet ob_bestOver ob_bestWorth ob_row ob_tenDebts ob_tenMany ob_fewestBy ob_covered ob_queue ob_cameBy ob_parent ob_met ob_calls ob_callMany ob_calledOn ob_saved ob_many ob_width ob_numbers ob_moving), (ce_i9080 y ob_world fob_world)] ∧ va_S A s.heap H locs ∧ lv_has ls 8 [(6, .int v_5087), (5, .int v_3792), (4, .int v_5088), (0, .ref ob), (2, .int a2), (3, .int a3)]) ?_ (n := (16 - (0 : Int32).toInt).toNat) ⟨0, v_3792, rfl, (bw (0) (16) (bkc (x := 0) (c := 0) (by decide)) (by decide)), bv_3792, (by have h90 : Int32.toInt 0 = 0 := (by decide); omega), rfl, ⟨hP, hD⟩, hS, lv_sub hl [0, 1, 2, 3, 4, 5] rfl⟩
    rintro n ih_5136 H locs ls st ⟨v_5087, v_5088, hn_5136, bv_5087, bv_5088, rl5088_0, rfl, ⟨hP, hD⟩, hS, hl⟩
    refine lv_iload hx hb dX10_hangs_22 (lv_at hl 0 rfl) ?_
    refine lv_aload_n hx hb dX10_hangs_24 rfl (lv_at hl 3 rfl) ?_
    refine va_get (D := G) (ci := 10) (v := .ref ob_world) (C := RX10) (T := TX10) (N := 41) hx hb hw0 inA_wsX100 hown hK.1 hP 0 rfl rfl 1 (by decide) (hw0 _ m_352) (fun _ h9 => h9) rfl dX10_hangs_25 ?_
    refine lv_iconst (v := 0) hx hb dX10_hangs_28 (by decide) ?_
    refine va_iald hx hb hK.1 hP 1 1 rfl rfl (vi (bkc (x := 0) (c := 0) (by decide)) (by decide)) dX10_hangs_29 ?_
    refine lv_topi (fun v_5137 ev_5137 => ?_)
    have bv_5137 : (0 : Int) ≤ v_5137.toInt ∧ v_5137.toInt ≤ 16 := rdk ev_5137 (p_fob_world).1.1 (by decide)
    refine lv_icmp_ge (tgt := 104) hx hb dX10_hangs_30 (by decide) (fun c_5138 => ?_) (fun c_5138 => ?_)
    · skip
      have nc_5138 := nb_le (16) (0) c_5138 bv_5137 bv_5087 (by decide)
      refine lv_goto (tgt := 8) hx hb dX10_hangs_104 (by decide) ?_
      exact ih_4488 _ (by omega) _ _ _ _ ⟨v_3792, v_5088, rfl, bv_3792, bv_5088, (by omega), rfl, ⟨hP, hD⟩, hS, lv_sub hl [1, 2, 3, 4, 5] rfl⟩
    · skip
      have nc_5138 := nb_nle (15) (1) c_5138 bv_5087 bv_5137 (by decide)
      refine lv_iload hx hb dX10_hangs_33 (lv_at hl 1 rfl) ?_
      refine lv_iload hx hb dX10_hangs_35 (lv_at hl 0 rfl) ?_
      refine cutW 98 (fun H locs ls st => ∃ (v_5161 : Int32), ((0 : Int) ≤ v_5161.toInt ∧ v_5161.toInt ≤ 65535) ∧ (v_3792.toInt ≤ v_5161.toInt) ∧ st = [] ∧ vPD G A H [(ce_X10 ob ob_thrown ob_world ob_images ob_hasImage ob_tape ob_taped ob_five ob_size ob_at ob_from ob_token ob_value ob_faultKind ob_faultPlace ob_fresh ob_parts ob_houses ob_houseMany ob_worthOf ob_byCall ob_over ob_bestSet ob_bestOver ob_bestWorth ob_row ob_tenDebts ob_tenMany ob_fewestBy ob_covered ob_queue ob_cameBy ob_parent ob_met ob_calls ob_callMany ob_calledOn ob_saved ob_many ob_width ob_numbers ob_moving), (ce_i9080 y ob_world fob_world)] ∧ va_S A s.heap H locs ∧ lv_has ls 8 [(6, .int v_5087), (5, .int v_3792), (4, .int v_5161), (0, .ref ob), (2, .int a2), (3, .int a3)]) ?_ (fun J_98_5161 => ?_)
      · rintro H locs ls st ⟨v_5161, bv_5161, rl5161_0, rfl, ⟨hP, hD⟩, hS, hl⟩
        obtain ⟨v_5162, ev_5162⟩ : ∃ z : Int32, z = v_5087 + 1 := ⟨_, rfl⟩
        have qv_5162 := ba_add ev_5162 nc_5138.1 (bkc (x := 1) (c := 1) (by decide)) (by decide)
        have bv_5162 : (1 : Int) ≤ v_5162.toInt ∧ v_5162.toInt ≤ 16 := bq_add qv_5162 nc_5138.1 (bkc (x := 1) (c := 1) (by decide)) _ _ (by decide)
        have qv_5162 : v_5162.toInt = v_5087.toInt + (1) := qv_5162
        refine lv_iinc (v := v_5162) (lv' := [(6, .int v_5162), (5, .int v_3792), (4, .int v_5161), (0, .ref ob), (2, .int a2), (3, .int a3)]) hx hb dX10_hangs_98 hl (k := 0) rfl (ev_5162.symm) (by decide) rfl (fun ls hl => ?_)
        refine lv_goto (tgt := 22) hx hb dX10_hangs_101 (by decide) ?_
        exact ih_5136 _ (ml_inc (hi := 16) hn_5136 qv_5162 (by decide) ((bw (0) (16) bv_5162 (by decide))).2) _ _ _ _ ⟨v_5162, v_5161, rfl, (bw (0) (16) bv_5162 (by decide)), bv_5161, (by omega), rfl, ⟨hP, hD⟩, hS, lv_sub hl [0, 1, 2, 3, 4, 5] rfl⟩
      · skip
        refine cSim (As := [.int v_3792, .int v_5087]) (rest := []) ⟨hx, hb, hml, hown, hw0⟩ hA hK hP hD hS [] (sX10_holds l G y _ v_3792 v_5087 ) rfl ⟨(callB_of 2 hw0 (gA m_512) rfl rfl rfl (hw0 _ m_41) (hw0 _ m_353) cb_X10_holds ⟨Nat.le_of_ble_eq_true rfl, Nat.le_of_ble_eq_true rfl⟩), (hw0 _ m_354)⟩ rfl hl.1 (Nat.le_of_ble_eq_true rfl) dX10_hangs_37 ⟨Nat.le_of_ble_eq_true rfl, Nat.le_of_ble_eq_true rfl⟩ (fun r_5163 w_5163 H locs hw_5163 hP hD hS => ?_)
        rcases hw_5163 with ⟨rfl, rfl⟩ | ⟨rfl, rfl⟩
        · skip
          obtain ⟨hP, hD⟩ : vPD G A H [(ce_X10 ob ob_thrown ob_world ob_images ob_hasImage ob_tape ob_taped ob_five ob_size ob_at ob_from ob_token ob_value ob_faultKind ob_faultPlace ob_fresh ob_parts ob_houses ob_houseMany ob_worthOf ob_byCall ob_over ob_bestSet ob_bestOver ob_bestWorth ob_row ob_tenDebts ob_tenMany ob_fewestBy ob_covered ob_queue ob_cameBy ob_parent ob_met ob_calls ob_callMany ob_calledOn ob_saved ob_many ob_width ob_numbers ob_moving), (ce_i9080 y ob_world fob_world)] := ⟨hP, hD⟩
          refine lv_if_ne (tgt := 46) hx hb dX10_hangs_40 (by decide) (fun c9 => absurd (by decide) c9) (fun _ => ?_)
          refine lv_goto (tgt := 98) hx hb dX10_hangs_43 (by decide) ?_
          exact J_98_5161 _ _ _ _ ⟨v_5088, bv_5088, (by omega), rfl, ⟨hP, hD⟩, hS, lv_sub hl [0, 1, 2, 3, 4, 5] rfl⟩
        · skip
          obtain ⟨hP, hD⟩ : vPD G A H [(ce_X10 ob ob_thrown ob_world ob_images ob_hasImage ob_tape ob_taped ob_five ob_size ob_at ob_from ob_token ob_value ob_faultKind ob_faultPlace ob_fresh ob_parts ob_houses ob_houseMany ob_worthOf ob_byCall ob_over ob_bestSet ob_bestOver ob_bestWorth ob_row ob_tenDebts ob_tenMany ob_fewestBy ob_covered ob_queue ob_cameBy ob_parent ob_met ob_calls ob_callMany ob_calledOn ob_saved ob_many ob_width ob_numbers ob_moving), (ce_i9080 y ob_world fob_world)] := ⟨hP, hD⟩
          refine lv_if_ne (tgt := 46) hx hb dX10_hangs_40 (by decide) (fun _ => ?_) (fun c9 => absurd c9 (by decide))
          refine lv_aload_n hx hb dX10_hangs_46 rfl (lv_at hl 3 rfl) ?_
          refine va_get (D := G) (ci := 10) (v := .ref ob_world) (C := RX10) (T := TX10) (N := 41) hx hb hw0 inA_wsX100 hown hK.1 hP 0 rfl rfl 1 (by decide) (hw0 _ m_352) (fun _ h9 => h9) rfl dX10_hangs_47 ?_
          refine lv_sipush (v := 1864) hx hb dX10_hangs_50 (by decide) ?_
          refine lv_iload hx hb dX10_hangs_53 (lv_at hl 0 rfl) ?_
          refine lv_iadd hx hb dX10_hangs_55 ?_
          refine lv_topi (fun v_5164 ev_5164 => ?_)
          have qv_5164 := ba_add ev_5164 (bkc (x := 1864) (c := 1864) (by decide)) nc_5138.1 (by decide)
          have bv_5164 : (1864 : Int) ≤ v_5164.toInt ∧ v_5164.toInt ≤ 1879 := bq_add qv_5164 (bkc (x := 1864) (c := 1864) (by decide)) nc_5138.1 _ _ (by decide)
          have qv_5164 : v_5164.toInt = (1864) + v_5087.toInt := qv_5164
          refine va_iald hx hb hK.1 hP 1 1 rfl rfl (vi bv_5164 (by decide)) dX10_hangs_56 ?_
          refine lv_topi (fun v_5165 ev_5165 => ?_)
          have bv_5165 : (0 : Int) ≤ v_5165.toInt ∧ v_5165.toInt ≤ 65535 := rdw ev_5165 (p_fob_world).1.1 pl_8 (by omega) (nc_5138.1)
          refine lv_istore (lv' := [(7, .int v_5165), (6, .int v_5087), (5, .int v_3792), (4, .int v_5088), (0, .ref ob), (2, .int a2), (3, .int a3)]) hx hb dX10_hangs_57 hl (by decide) rfl (fun ls hl => ?_)
          refine lv_iload hx hb dX10_hangs_59 (lv_at hl 1 rfl) ?_
          refine lv_iload_n hx hb dX10_hangs_61 rfl (lv_at hl 5 rfl) ?_
          refine cutW 75 (fun H locs ls st => ∃ (v_5170 : Int32), ((0 : Int) ≤ v_5170.toInt ∧ v_5170.toInt ≤ 65535) ∧ st = [] ∧ vPD G A H [(ce_X10 ob ob_thrown ob_world ob_images ob_hasImage ob_tape ob_taped ob_five ob_size ob_at ob_from ob_token ob_value ob_faultKind ob_faultPlace ob_fresh ob_parts ob_houses ob_houseMany ob_worthOf ob_byCall ob_over ob_bestSet ob_bestOver ob_bestWorth ob_row ob_tenDebts ob_tenMany ob_fewestBy ob_covered ob_queue ob_cameBy ob_parent ob_met ob_calls ob_callMany ob_calledOn ob_saved ob_many ob_width ob_numbers ob_moving), (ce_i9080 y ob_world fob_world)] ∧ va_S A s.heap H locs ∧ lv_has ls 8 [(7, .int v_5170), (6, .int v_5087), (5, .int v_3792), (4, .int v_5088), (0, .ref ob), (2, .int a2), (3, .int a3)]) ?_ (fun J_75_5170 => ?_)
          · rintro H locs ls st ⟨v_5170, bv_5170, rfl, ⟨hP, hD⟩, hS, hl⟩
            refine lv_iload hx hb dX10_hangs_75 (lv_at hl 1 rfl) ?_
            refine lv_iload_n hx hb dX10_hangs_77 rfl (lv_at hl 6 rfl) ?_
            refine cutW 91 (fun H locs ls st => ∃ (v_5175 : Int32), ((0 : Int) ≤ v_5175.toInt ∧ v_5175.toInt ≤ 65535) ∧ st = [] ∧ vPD G A H [(ce_X10 ob ob_thrown ob_world ob_images ob_hasImage ob_tape ob_taped ob_five ob_size ob_at ob_from ob_token ob_value ob_faultKind ob_faultPlace ob_fresh ob_parts ob_houses ob_houseMany ob_worthOf ob_byCall ob_over ob_bestSet ob_bestOver ob_bestWorth ob_row ob_tenDebts ob_tenMany ob_fewestBy ob_covered ob_queue ob_cameBy ob_parent ob_met ob_calls ob_callMany ob_calledOn ob_saved ob_many ob_width ob_numbers ob_moving), (ce_i9080 y ob_world fob_world)] ∧ va_S A s.heap H locs ∧ lv_has ls 8 [(7, .int v_5175), (6, .int v_5087), (5, .int v_3792), (4, .int v_5088), (0, .ref ob), (2, .int a2), (3, .int a3)]) ?_ (fun J_91_5175 => ?_)
            · rintro H locs ls st ⟨v_5175, bv_5175, rfl, ⟨hP, hD⟩, hS, hl⟩
              refine lv_iload hx hb dX10_hangs_91 (lv_at hl 3 rfl) ?_
              refine lv_iload hx hb dX10_hangs_93 (lv_at hl 0 rfl) ?_
              refine lv_ior hx hb dX10_hangs_95 ?_
              refine lv_topi (fun v_5176 ev_5176 => ?_)
              have bv_5176 : (0 : Int) ≤ v_5176.toInt ∧ v_5176.toInt ≤ 65535 := ba_or 16 ev_5176 bv_5088 bv_5175 (by decide)
              have ov_5176 := or_ge ev_5176 bv_5088 bv_5175 (by decide)
              refine lv_istore (lv' := [(4, .int v_5176), (7, .int v_5175), (6, .int v_5087), (5, .int v_3792), (0, .ref ob), (2, .int a2), (3, .int a3)]) hx hb dX10_hangs_96 hl (by decide) rfl (fun ls hl => ?_)
              exact J_98_5161 _ _ _ _ ⟨v_5176, bv_5176, (by omega), rfl, ⟨hP, hD⟩, hS, lv_sub hl [2, 3, 0, 4, 5, 6] rfl⟩
            · skip
              refine lv_icmp_ne (tgt := 91) hx hb dX10_hangs_78 (by decide) (fun c_5177 => ?_) (fun c_5177 => ?_)
              · skip
                have nc_5177 : v_5087.toInt ≠ a3.toInt := fun h9 => c_5177 (Int32.toInt_inj.mp h9)
                exact J_91_5175 _ _ _ _ ⟨v_5170, bv_5170, rfl, ⟨hP, hD⟩, hS, lv_sub hl [0, 1, 2, 3, 4, 5, 6] rfl⟩
              · skip
                have nc_5177 := nb_eq (0) (15) c_5177 nc_5138.1 (btop a3) (by decide)
                refine lv_iload hx hb dX10_hangs_81 (lv_at hl 0 rfl) ?_
                refine lv_iconst (v := 1) hx hb dX10_hangs_83 (by decide) ?_
                refine lv_iload_n hx hb dX10_hangs_84 rfl (lv_at hl 5 rfl) ?_
                refine lv_ishl hx hb dX10_hangs_85 ?_
                refine lv_topi (fun v_5178 ev_5178 => ?_)
                refine lv_iconst (v := (-1)) hx hb dX10_hangs_86 (by decide) ?_
                refine lv_ixor hx hb dX10_hangs_87 ?_
                refine lv_topi (fun v_5179 ev_5179 => ?_)
                refine lv_iand hx hb dX10_hangs_88 ?_
                refine lv_topi (fun v_5180 ev_5180 => ?_)
                have bv_5180 : (0 : Int) ≤ v_5180.toInt ∧ v_5180.toInt ≤ 65535 := ba_andl ev_5180 bv_5170 (by decide)
                refine lv_istore (lv' := [(7, .int v_5180), (6, .int v_5087), (5, .int v_3792), (4, .int v_5088), (0, .ref ob), (2, .int a2), (3, .int a3)]) hx hb dX10_hangs_89 hl (by decide) rfl (fun ls hl => ?_)
                exact J_91_5175 _ _ _ _ ⟨v_5180, bv_5180, rfl, ⟨hP, hD⟩, hS, lv_sub hl [0, 1, 2, 3, 4, 5, 6] rfl⟩
          · skip
            refine lv_icmp_ne (tgt := 75) hx hb dX10_hangs_62 (by decide) (fun c_5181 => ?_) (fun c_5181 => ?_)
            · skip
              have nc_5181 : v_5087.toInt ≠ a2.toInt := fun h9 => c_5181 (Int32.toInt_inj.mp h9)
              exact J_75_5170 _ _ _ _ ⟨v_5165, bv_5165, rfl, ⟨hP, hD⟩, hS, lv_sub hl [0, 1, 2, 3, 4, 5, 6] rfl⟩
            · skip
              have nc_5181 := nb_eq (0) (15) c_5181 nc_5138.1 (btop a2) (by decide)
              refine lv_iload hx hb dX10_hangs_65 (lv_at hl 0 rfl) ?_
              refine lv_iconst (v := 1) hx hb dX10_hangs_67 (by decide) ?_
              refine lv_iload_n hx hb dX10_hangs_68 rfl (lv_at hl 6 rfl) ?_
              refine lv_ishl hx hb dX10_hangs_69 ?_
              refine lv_topi (fun v_5182 ev_5182 => ?_)
              refine lv_iconst (v := (-1)) hx hb dX10_hangs_70 (by decide) ?_
              refine lv_ixor hx hb dX10_hangs_71 ?_
              refine lv_topi (fun v_5183 ev_5183 => ?_)
              refine lv_iand hx hb dX10_hangs_72 ?_
              refine lv_topi (fun v_5184 ev_5184 => ?_)
              have bv_5184 : (0 : Int) ≤ v_5184.toInt ∧ v_5184.toInt ≤ 65535 := ba_andl ev_5184 bv_5165 (by decide)
              refine lv_istore (lv' := [(7, .int v_5184), (6, .int v_5087), (5, .int v_3792), (4, .int v_5088), (0, .ref ob), (2, .int a2), (3, .int a3)]) hx hb dX10_hangs_73 hl (by decide) rfl (fun ls hl => ?_)
              exact J_75_5170 _ _ _ _ ⟨v_5184, bv_5184, rfl, ⟨hP, hD⟩, hS, lv_sub hl [0, 1, 2, 3, 4, 5, 6] rfl⟩

set_option maxHeartbeats 4000000 in
set_option maxRecDepth 100000 in
theorem sX10_reach (l : Launch) (G : va_G) (y : Nat → ClassId) (sz : Nat) (ob : Nat) (a1 : Int32) (ob_thrown : Int32) (ob_world : Nat) (ob_images : Nat) (ob_hasImage : Nat) (ob_tape : Nat) (ob_taped : Int32) (ob_five : Nat) (ob_size : Int32) (ob_at : Int32) (ob_from : Int32) (ob_token : Int32) (ob_value : Int32) (ob_faultKind : Int32) (ob_faultPlace : Int32) (ob_fresh : Nat) (ob_parts : Nat) (ob_houses : Nat) (ob_houseMany : Int32) (ob_worthOf : Nat) (ob_byCall : Nat) (ob_over : Nat) (ob_bestSet : Int32) (ob_bestOver : Int32) (ob_bestWorth : Int32) (ob_row : Nat) (ob_tenDebts : Nat) (ob_tenMany : Int32) (ob_fewestBy : Nat) (ob_covered : Nat) (ob_queue : Nat) (ob_cameBy : Nat) (ob_parent : Nat) (ob_met : Nat) (ob_calls : Nat) (ob_callMany : Int32) (ob_calledOn : Nat) (ob_saved : Nat) (ob_many : Nat) (ob_width : Nat) (ob_numbers : Nat) (ob_moving : Nat) (fob_world : Nat → Int32) (p_fob_world : RWw fob_world) (p_ob_taped : (0 : Int) ≤ ob_taped.toInt ∧ ob_taped.toInt ≤ 1400) (p_ob_size : (0 : Int) ≤ ob_size.toInt ∧ ob_size.toInt ≤ 1400) (p_ob_at : (0 : Int) ≤ ob_at.toInt ∧ ob_at.toInt ≤ 1400) (p_ob_from : (0 : Int) ≤ ob_from.toInt ∧ ob_from.toInt ≤ 1400) (p_ob_token : (0 : Int) ≤ ob_token.toInt ∧ ob_token.toInt ≤ 4) (p_ob_value : (0 : Int) ≤ ob_value.toInt ∧ ob_value.toInt ≤ 9999) (p_ob_faultKind : (0 : Int) ≤ ob_faultKind.toInt ∧ ob_faultKind.toInt ≤ 3) (p_ob_houseMany : (0 : Int) ≤ ob_houseMany.toInt ∧ ob_houseMany.toInt ≤ 10) (p_ob_bestSet : (0 : Int) ≤ ob_bestSet.toInt ∧ ob_bestSet.toInt ≤ 1023) (p_ob_bestOver : (-1 : Int) ≤ ob_bestOver.toInt ∧ ob_bestOver.toInt ≤ 180) (p_ob_tenMany : (0 : Int) ≤ ob_tenMany.toInt ∧ ob_tenMany.toInt ≤ 10) (p_ob_callMany : (0 : Int) ≤ ob_callMany.toInt ∧ ob_callMany.toInt ≤ 16) : Met l yX10_reach (Cond.code yX10_reach cX10_reach 2 (some .int) :: wAll) ({ frames := 2, cells := 0, slots := 0, locals := 48 }) (va_Pc [.ref ob, .int a1] (kp G y sz [(ce_X10 ob ob_thrown ob_world ob_images ob_hasImage ob_tape ob_taped ob_five ob_size ob_at ob_from ob_token ob_value ob_faultKind ob_faultPlace ob_fresh ob_parts ob_houses ob_houseMany ob_worthOf ob_byCall ob_over ob_bestSet ob_bestOver ob_bestWorth ob_row ob_tenDebts ob_tenMany ob_fewestBy ob_covered ob_queue ob_cameBy ob_parent ob_met ob_calls ob_callMany ob_calledOn ob_saved ob_many ob_width ob_numbers ob_moving), (ce_i9080 y ob_world fob_world)])) (va_Qi (fun (r : Int32) (w : va_W) => (∃ (v_9 : Int32), ((-2 : Int) ≤ v_9.toInt ∧ v_9.toInt ≤ 65535) ∧ r = v_9 ∧ w = [(ce_X10 ob ob_thrown ob_world ob_images ob_hasImage ob_tape ob_taped ob_five ob_size ob_at ob_from ob_token ob_value ob_faultKind ob_faultPlace ob_fresh ob_parts ob_houses ob_houseMany ob_worthOf ob_byCall ob_over ob_bestSet ob_bestOver ob_bestWorth ob_row ob_tenDebts ob_tenMany ob_fewestBy ob_covered ob_queue ob_cameBy ob_parent ob_met ob_calls ob_callMany ob_calledOn ob_saved ob_many ob_width ob_numbers ob_moving), (ce_i9080 y ob_world fob_world)])) (kq G (va_A [(ce_X10 ob ob_thrown ob_world ob_images ob_hasImage ob_tape ob_taped ob_five ob_size ob_at ob_from ob_token ob_value ob_faultKind ob_faultPlace ob_fresh ob_parts ob_houses ob_houseMany ob_worthOf ob_byCall ob_over ob_bestSet ob_bestOver ob_bestWorth ob_row ob_tenDebts ob_tenMany ob_fewestBy ob_covered ob_queue ob_cameBy ob_parent ob_met ob_calls ob_callMany ob_calledOn ob_saved ob_many ob_width ob_numbers ob_moving), (ce_i9080 y ob_world fob_world)] sz)) (va_A [(ce_X10 ob ob_thrown ob_world ob_images ob_hasImage ob_tape ob_taped ob_five ob_size ob_at ob_from ob_token ob_value ob_faultKind ob_faultPlace ob_fresh ob_parts ob_houses ob_houseMany ob_worthOf ob_byCall ob_over ob_bestSet ob_bestOver ob_bestWorth ob_row ob_tenDebts ob_tenMany ob_fewestBy ob_covered ob_queue ob_cameBy ob_parent ob_met ob_calls ob_callMany ob_calledOn ob_saved ob_many ob_width ob_numbers ob_moving), (ce_i9080 y ob_world fob_world)] sz)) 0 0 (va_A [(ce_X10 ob ob_thrown ob_world ob_images ob_hasImage ob_tape ob_taped ob_five ob_size ob_at ob_from ob_token ob_value ob_faultKind ob_faultPlace ob_fresh ob_parts ob_houses ob_houseMany ob_worthOf ob_byCall ob_over ob_bestSet ob_bestOver ob_bestWorth ob_row ob_tenDebts ob_tenMany ob_fewestBy ob_covered ob_queue ob_cameBy ob_parent ob_met ob_calls ob_callMany ob_calledOn ob_saved ob_many ob_width ob_numbers ob_moving), (ce_i9080 y ob_world fob_world)] sz) := by
  refine Met.ofW (cc := cX10_reach) (maxL := 2) (ret := (some .int)) (by decide) rfl ?_
  intro p e s m args below meth c s₁ B hml hv
  obtain ⟨rfl, hsz, hP, hK, hD0⟩ := hv
  have hx := B.exec
  have hb := B.bytes
  have hr := B.returns
  have hw0 : ∀ w ∈ wAll, w.before _ s = true := fun w h => atoms_spec (ws := Cond.code yX10_reach cX10_reach 2 (some .int) :: wAll) B.pre w (List.mem_cons_of_mem _ h)
  have hown : s.vm.findClass RX10 = some m.cls := findClass_of_methodNamed B.named
  subst hsz
  have hD := hD0.self (sz := s.heap.size)
  generalize hAe : va_A [(ce_X10 ob ob_thrown ob_world ob_images ob_hasImage ob_tape ob_taped ob_five ob_size ob_at ob_from ob_token ob_value ob_faultKind ob_faultPlace ob_fresh ob_parts ob_houses ob_houseMany ob_worthOf ob_byCall ob_over ob_bestSet ob_bestOver ob_bestWorth ob_row ob_tenDebts ob_tenMany ob_fewestBy ob_covered ob_queue ob_cameBy ob_parent ob_met ob_calls ob_callMany ob_calledOn ob_saved ob_many ob_width ob_numbers ob_moving), (ce_i9080 y ob_world fob_world)] s.heap.size = A at hD ⊢
  have hA : ∀ q : Nat, s.heap.size ≤ q → A q := fun q h => by rw [← hAe]; exact Or.inr h
  have hS : va_S A s.heap s.heap [] := va_S.rf
  have hP : va_P G vwCl [(ce_X10 ob ob_thrown ob_world ob_images ob_hasImage ob_tape ob_taped ob_five ob_size ob_at ob_from ob_token ob_value ob_faultKind ob_faultPlace ob_fresh ob_parts ob_houses ob_houseMany ob_worthOf ob_byCall ob_over ob_bestSet ob_bestOver ob_bestWorth ob_row ob_tenDebts ob_tenMany ob_fewestBy ob_covered ob_queue ob_cameBy ob_parent ob_met ob_calls ob_callMany ob_calledOn ob_saved ob_many ob_width ob_numbers ob_moving), (ce_i9080 y ob_world fob_world)] s.heap := hP
  have hl := lv_entry ([.ref ob, .int a1]) (n := 2) (Nat.le_of_ble_eq_true rfl)
  rw [lg_entry_eq]
  generalize (lg_sl ([.ref ob, .int a1]) ++ List.replicate (2 - (lg_sl ([.ref ob, .int a1])).length) Slot.unset).toArray = ls at hl ⊢
  have hl : lv_has ls 2 [(0, .ref ob), (1, .int a1)] := hl
  refine lv_aload_n hx hb dX10_reach_0 rfl (lv_at hl 0 rfl) ?_
  refine lv_iload_n hx hb dX10_reach_1 rfl (lv_at hl 1 rfl) ?_
  refine cVim (As := [.int a1]) (rest := []) ⟨hx, hb, hml, hown, hw0⟩ hA hK hP hD hS [true, true] (sX10_isHouse l G y _ ob a1 ob_thrown ob_world ob_images ob_hasImage ob_tape ob_taped ob_five ob_size ob_at ob_from ob_token ob_value ob_faultKind ob_faultPlace ob_fresh ob_parts ob_houses ob_houseMany ob_worthOf ob_byCall ob_over ob_bestSet ob_bestOver ob_bestWorth ob_row ob_tenDebts ob_tenMany ob_fewestBy ob_covered ob_queue ob_cameBy ob_parent ob_met ob_calls ob_callMany ob_calledOn ob_saved ob_many ob_width ob_numbers ob_moving fob_world p_fob_world p_ob_taped p_ob_size p_ob_at p_ob_from p_ob_token p_ob_value p_ob_faultKind p_ob_houseMany p_ob_bestSet p_ob_bestOver p_ob_tenMany p_ob_callMany) rfl ⟨(callB_of 1 hw0 (gA m_537) rfl rfl rfl (hw0 _ m_41) (hw0 _ m_356) cb_X10_isHouse ⟨Nat.le_of_ble_eq_true rfl, Nat.le_of_ble_eq_true rfl⟩), (hw0 _ m_357), (hw0 _ m_358)⟩ (ci := 10) (q := (RX10, TX10, 41)) rfl rfl rfl hl.1 (Nat.le_of_ble_eq_true rfl) dX10_reach_2 ⟨Nat.le_of_ble_eq_true rfl, Nat.le_of_ble_eq_true rfl⟩ (fun r_1001 w_1001 H locs hw_1001 hP hD hS => ?_)
  rcases hw_1001 with ⟨rfl, rfl⟩ | ⟨h_1002, rfl, rfl⟩
  · skip
    obtain ⟨hP, hD⟩ : vPD G A H [(ce_X10 ob ob_thrown ob_world ob_images ob_hasImage ob_tape ob_taped ob_five ob_size ob_at ob_from ob_token ob_value ob_faultKind ob_faultPlace ob_fresh ob_parts ob_houses ob_houseMany ob_worthOf ob_byCall ob_over ob_bestSet ob_bestOver ob_bestWorth ob_row ob_tenDebts ob_tenMany ob_fewestBy ob_covered ob_queue ob_cameBy ob_parent ob_met ob_calls ob_callMany ob_calledOn ob_saved ob_many ob_width ob_numbers ob_moving), (ce_i9080 y ob_world fob_world)] := ⟨hP, hD⟩
    refine lv_if_eq (tgt := 18) hx hb dX10_reach_5 (by decide) (fun _ => ?_) (fun c9 => absurd (by decide) c9)
    refine lv_bipush (v := (-2)) hx hb dX10_reach_18 (by decide) ?_
    exact W.iret (v := (-2)) hx hb hr (fun t ht hW => ⟨⟨(-2), _, rfl, ⟨(-2), (bw (-2) (65535) (bkc (x := (-2)) (c := -2) (by decide)) (by decide)), rfl, rfl⟩, by rw [ht]; exact hP, hD⟩, hS.F ht⟩) hS.2.2 dX10_reach_20
  · skip
    obtain ⟨hP, hD⟩ : vPD G A H [(ce_X10 ob ob_thrown ob_world ob_images ob_hasImage ob_tape ob_taped ob_five ob_size ob_at ob_from ob_token ob_value ob_faultKind ob_faultPlace ob_fresh ob_parts ob_houses ob_houseMany ob_worthOf ob_byCall ob_over ob_bestSet ob_bestOver ob_bestWorth ob_row ob_tenDebts ob_tenMany ob_fewestBy ob_covered ob_queue ob_cameBy ob_parent ob_met ob_calls ob_callMany ob_calledOn ob_saved ob_many ob_width ob_numbers ob_moving), (ce_i9080 y ob_world fob_world)] := ⟨hP, hD⟩
    refine lv_if_eq (tgt := 18) hx hb dX10_reach_5 (by decide) (fun c9 => absurd c9 (by decide)) (fun _ => ?_)
    refine lv_aload_n hx hb dX10_reach_8 rfl (lv_at hl 0 rfl) ?_
    refine lv_iload_n hx hb dX10_reach_9 rfl (lv_at hl 1 rfl) ?_
    refine lv_iconst (v := (-1)) hx hb dX10_reach_10 (by decide) ?_
    refine lv_iconst (v := (-1)) hx hb dX10_reach_11 (by decide) ?_
    refine cVim (As := [.int a1, .int (-1), .int (-1)]) (rest := []) ⟨hx, hb, hml, hown, hw0⟩ hA hK hP hD hS [true, true] (sX10_hangs l G y _ ob a1 (-1) (-1) ob_thrown ob_world ob_images ob_hasImage ob_tape ob_taped ob_five ob_size ob_at ob_from ob_token ob_value ob_faultKind ob_faultPlace ob_fresh ob_parts ob_houses ob_houseMany ob_worthOf ob_byCall ob_over ob_bestSet ob_bestOver ob_bestWorth ob_row ob_tenDebts ob_tenMany ob_fewestBy ob_covered ob_queue ob_cameBy ob_parent ob_met ob_calls ob_callMany ob_calledOn ob_saved ob_many ob_width ob_numbers ob_moving fob_world p_fob_world p_ob_taped p_ob_size p_ob_at p_ob_from p_ob_token p_ob_value p_ob_faultKind p_ob_houseMany p_ob_bestSet p_ob_bestOver p_ob_tenMany p_ob_callMany h_1002) rfl ⟨(callB_of 3 hw0 (gA m_511) rfl rfl rfl (hw0 _ m_41) (hw0 _ m_444) cb_X10_hangs ⟨Nat.le_of_ble_eq_true rfl, Nat.le_of_ble_eq_true rfl⟩), (hw0 _ m_445), (hw0 _ m_446)⟩ (ci := 10) (q := (RX10, TX10, 41)) rfl rfl rfl hl.1 (Nat.le_of_ble_eq_true rfl) dX10_reach_12 ⟨Nat.le_of_ble_eq_true rfl, Nat.le_of_ble_eq_true rfl⟩ (fun r_1003 w_1003 H locs hw_1003 hP hD hS => ?_)
    obtain ⟨v_1004, bv_1004, er_1003, rfl⟩ := hw_1003
    subst r_1003
    obtain ⟨hP, hD⟩ : vPD G A H [(ce_X10 ob ob_thrown ob_world ob_images ob_hasImage ob_tape ob_taped ob_five ob_size ob_at ob_from ob_token ob_value ob_faultKind ob_faultPlace ob_fresh ob_parts ob_houses ob_houseMany ob_worthOf ob_byCall ob_over ob_bestSet ob_bestOver ob_bestWorth ob_row ob_tenDebts ob_tenMany ob_fewestBy ob_covered ob_queue ob_cameBy ob_parent ob_met ob_calls ob_callMany ob_calledOn ob_saved ob_many ob_width ob_numbers ob_moving), (ce_i9080 y ob_world fob_world)] := ⟨hP, hD⟩
    refine lv_goto (tgt := 20) hx hb dX10_reach_15 (by decide) ?_
    exact W.iret (v := v_1004) hx hb hr (fun t ht hW => ⟨⟨v_1004, _, rfl, ⟨v_1004, (bw (-2) (65535) bv_1004 (by decide)), rfl, rfl⟩, by rw [ht]; exact hP, hD⟩, hS.F ht⟩) hS.2.2 dX10_reach_20

set_option maxHeartbeats 4000000 in
set_option maxRecDepth 100000 in
theorem sX10_drop (l : Launch) (G : va_G) (y : Nat → ClassId) (sz : Nat) (ob : Nat) (a1 : Int32) (ob_thrown : Int32) (ob_world : Nat) (ob_images : Nat) (ob_hasImage : Nat) (ob_tape : Nat) (ob_taped : Int32) (ob_five : Nat) (ob_size : Int32) (ob_at : Int32) (ob_from : Int32) (ob_token : Int32) (ob_value : Int32) (ob_faultKind : Int32) (ob_faultPlace : Int32) (ob_fresh : Nat) (ob_parts : Nat) (ob_houses : Nat) (ob_houseMany : Int32) (ob_worthOf : Nat) (ob_byCall : Nat) (ob_over : Nat) (ob_bestSet : Int32) (ob_bestOver : Int32) (ob_bestWorth : Int32) (ob_row : Nat) (ob_tenDebts : Nat) (ob_tenMany : Int32) (ob_fewestBy : Nat) (ob_covered : Nat) (ob_queue : Nat) (ob_cameBy : Nat) (ob_parent : Nat) (ob_met : Nat) (ob_calls : Nat) (ob_callMany : Int32) (ob_calledOn : Nat) (ob_saved : Nat) (ob_many : Nat) (ob_width : Nat) (ob_numbers : Nat) (ob_moving : Nat) (fob_world : Nat → Int32) (fob_worthOf : Nat → Int32) (fob_byCall : Nat → Int32) (p_fob_world : RWw fob_world) (p_ob_taped : (0 : Int) ≤ ob_taped.toInt ∧ ob_taped.toInt ≤ 1400) (p_ob_size : (0 : Int) ≤ ob_size.toInt ∧ ob_size.toInt ≤ 1400) (p_ob_at : (0 : Int) ≤ ob_at.toInt ∧ ob_at.toInt ≤ 1400) (p_ob_from : (0 : Int) ≤ ob_from.toInt ∧ ob_from.toInt ≤ 1400) (p_ob_token : (0 : Int) ≤ ob_token.toInt ∧ ob_token.toInt ≤ 4) (p_ob_value : (0 : Int) ≤ ob_value.toInt ∧ ob_value.toInt ≤ 9999) (p_ob_faultKind : (0 : Int) ≤ ob_faultKind.toInt ∧ ob_faultKind.toInt ≤ 3) (p_ob_houseMany : (0 : Int) ≤ ob_houseMany.toInt ∧ ob_houseMany.toInt ≤ 10) (p_fob_byCall : ∀ i, (0 : Int) ≤ (fob_byCall i).toInt ∧ (fob_byCall i).toInt ≤ 1) (p_ob_bestSet : (0 : Int) ≤ ob_bestSet.toInt ∧ ob_bestSet.toInt ≤ 1023) (p_ob_bestOver : (-1 : Int) ≤ ob_bestOver.toInt ∧ ob_bestOver.toInt ≤ 180) (p_ob_tenMany : (0 : Int) ≤ ob_tenMany.toInt ∧ ob_tenMany.toInt ≤ 10) (p_ob_callMany : (0 : Int) ≤ ob_callMany.toInt ∧ ob_callMany.toInt ≤ 16) : Met l yX10_drop (Cond.code yX10_drop cX10_drop 5 (some .int) :: wAll) ({ frames := 2, cells := 0, slots := 0, locals := 48 }) (va_Pc [.ref ob, .int a1] (kp G y sz [(ce_X10 ob ob_thrown ob_world ob_images ob_hasImage ob_tape ob_taped ob_five ob_size ob_at ob_from ob_token ob_value ob_faultKind ob_faultPlace ob_fresh ob_parts ob_houses ob_houseMany ob_worthOf ob_byCall ob_over ob_bestSet ob_bestOver ob_bestWorth ob_row ob_tenDebts ob_tenMany ob_fewestBy ob_covered ob_queue ob_cameBy ob_parent ob_met ob_calls ob_callMany ob_calledOn ob_saved ob_many ob_width ob_numbers ob_moving), (ce_i9080 y ob_world fob_world), (ce_i16 y ob_worthOf fob_worthOf), (ce_z16 y ob_byCall fob_byCall)])) (va_Qi (fun (r : Int32) (w : va_W) => (∃ (v_1249 : Int32) (f_1250 : Nat → Int32) (f_1251 : Nat → Int32), ((-2 : Int) ≤ v_1249.toInt ∧ v_1249.toInt ≤ 15) ∧ (∀ i, (0 : Int) ≤ (f_1251 i).toInt ∧ (f_1251 i).toInt ≤ 1) ∧ r = v_1249 ∧ w = [(ce_X10 ob ob_thrown ob_world ob_images ob_hasImage ob_tape ob_taped ob_five ob_size ob_at ob_from ob_token ob_value ob_faultKind ob_faultPlace ob_fresh ob_parts ob_houses ob_houseMany ob_worthOf ob_byCall ob_over ob_bestSet ob_bestOver ob_bestWorth ob_row ob_tenDebts ob_tenMany ob_fewestBy ob_covered ob_queue ob_cameBy ob_parent ob_met ob_calls ob_callMany ob_calledOn ob_saved ob_many ob_width ob_numbers ob_moving), (ce_i9080 y ob_world fob_world), (ce_i16 y ob_worthOf f_1250), (ce_z16 y ob_byCall f_1251)])) (kq G (va_A [(ce_X10 ob ob_thrown ob_world ob_images ob_hasImage ob_tape ob_taped ob_five ob_size ob_at ob_from ob_token ob_value ob_faultKind ob_faultPlace ob_fresh ob_parts ob_houses ob_houseMany ob_worthOf ob_byCall ob_over ob_bestSet ob_bestOver ob_bestWorth ob_row ob_tenDebts ob_tenMany ob_fewestBy ob_covered ob_queue ob_cameBy ob_parent ob_met ob_calls ob_callMany ob_calledOn ob_saved ob_many ob_width ob_numbers ob_moving), (ce_i9080 y ob_world fob_world), (ce_i16 y ob_worthOf fob_worthOf), (ce_z16 y ob_byCall fob_byCall)] sz)) (va_A [(ce_X10 ob ob_thrown ob_world ob_images ob_hasImage ob_tape ob_taped ob_five ob_size ob_at ob_from ob_token ob_value ob_faultKind ob_faultPlace ob_fresh ob_parts ob_houses ob_houseMany ob_worthOf ob_byCall ob_over ob_bestSet ob_bestOver ob_bestWorth ob_row ob_tenDebts ob_tenMany ob_fewestBy ob_covered ob_queue ob_cameBy ob_parent ob_met ob_calls ob_callMany ob_calledOn ob_saved ob_many ob_width ob_numbers ob_moving), (ce_i9080 y ob_world fob_world), (ce_i16 y ob_worthOf fob_worthOf), (ce_z16 y ob_byCall fob_byCall)] sz)) 0 0 (va_A [(ce_X10 ob ob_thrown ob_world ob_images ob_hasImage ob_tape ob_taped ob_five ob_size ob_at ob_from ob_token ob_value ob_faultKind ob_faultPlace ob_fresh ob_parts ob_houses ob_houseMany ob_worthOf ob_byCall ob_over ob_bestSet ob_bestOver ob_bestWorth ob_row ob_tenDebts ob_tenMany ob_fewestBy ob_covered ob_queue ob_cameBy ob_parent ob_met ob_calls ob_callMany ob_calledOn ob_saved ob_many ob_width ob_numbers ob_moving), (ce_i9080 y ob_world fob_world), (ce_i16 y ob_worthOf fob_worthOf), (ce_z16 y ob_byCall fob_byCall)] sz) := by
  refine Met.ofW (cc := cX10_drop) (maxL := 5) (ret := (some .int)) (by decide) rfl ?_
  intro p e s m args below meth c s₁ B hml hv
  obtain ⟨rfl, hsz, hP, hK, hD0⟩ := hv
  have hx := B.exec
  have hb := B.bytes
  have hr := B.returns
  have hw0 : ∀ w ∈ wAll, w.before _ s = true := fun w h => atoms_spec (ws := Cond.code yX10_drop cX10_drop 5 (some .int) :: wAll) B.pre w (List.mem_cons_of_mem _ h)
  have hown : s.vm.findClass RX10 = some m.cls := findClass_of_methodNamed B.named
  subst hsz
  have hD := hD0.self (sz := s.heap.size)
  generalize hAe : va_A [(ce_X10 ob ob_thrown ob_world ob_images ob_hasImage ob_tape ob_taped ob_five ob_size ob_at ob_from ob_token ob_value ob_faultKind ob_faultPlace ob_fresh ob_parts ob_houses ob_houseMany ob_worthOf ob_byCall ob_over ob_bestSet ob_bestOver ob_bestWorth ob_row ob_tenDebts ob_tenMany ob_fewestBy ob_covered ob_queue ob_cameBy ob_parent ob_met ob_calls ob_callMany ob_calledOn ob_saved ob_many ob_width ob_numbers ob_moving), (ce_i9080 y ob_world fob_world), (ce_i16 y ob_worthOf fob_worthOf), (ce_z16 y ob_byCall fob_byCall)] s.heap.size = A at hD ⊢
  have hA : ∀ q : Nat, s.heap.size ≤ q → A q := fun q h => by rw [← hAe]; exact Or.inr h
  have hS : va_S A s.heap s.heap [] := va_S.rf
  have hP : va_P G vwCl [(ce_X10 ob ob_thrown ob_world ob_images ob_hasImage ob_tape ob_taped ob_five ob_size ob_at ob_from ob_token ob_value ob_faultKind ob_faultPlace ob_fresh ob_parts ob_houses ob_houseMany ob_worthOf ob_byCall ob_over ob_bestSet ob_bestOver ob_bestWorth ob_row ob_tenDebts ob_tenMany ob_fewestBy ob_covered ob_queue ob_cameBy ob_parent ob_met ob_calls ob_callMany ob_calledOn ob_saved ob_many ob_width ob_numbers ob_moving), (ce_i9080 y ob_world fob_world), (ce_i16 y ob_worthOf fob_worthOf), (ce_z16 y ob_byCall fob_byCall)] s.heap := hP
  have hl := lv_entry ([.ref ob, .int a1]) (n := 5) (Nat.le_of_ble_eq_true rfl)
  rw [lg_entry_eq]
  generalize (lg_sl ([.ref ob, .int a1]) ++ List.replicate (5 - (lg_sl ([.ref ob, .int a1])).length) Slot.unset).toArray = ls at hl ⊢
  have hl : lv_has ls 5 [(0, .ref ob), (1, .int a1)] := hl
  refine lv_aload_n hx hb dX10_drop_0 rfl (lv_at hl 0 rfl) ?_
  refine lv_iload_n hx hb dX10_drop_1 rfl (lv_at hl 1 rfl) ?_
  refine cVim (As := [.int a1]) (rest := []) ⟨hx, hb, hml, hown, hw0⟩ hA hK hP hD hS [true, true] (sX10_isHouse l G y _ ob a1 ob_thrown ob_world ob_images ob_hasImage ob_tape ob_taped ob_five ob_size ob_at ob_from ob_token ob_value ob_faultKind ob_faultPlace ob_fresh ob_parts ob_houses ob_houseMany ob_worthOf ob_byCall ob_over ob_bestSet ob_bestOver ob_bestWorth ob_row ob_tenDebts ob_tenMany ob_fewestBy ob_covered ob_queue ob_cameBy ob_parent ob_met ob_calls ob_callMany ob_calledOn ob_saved ob_many ob_width ob_numbers ob_moving fob_world p_fob_world p_ob_taped p_ob_size p_ob_at p_ob_from p_ob_token p_ob_value p_ob_faultKind p_ob_houseMany p_ob_bestSet p_ob_bestOver p_ob_tenMany p_ob_callMany) rfl ⟨(callB_of 1 hw0 (gA m_537) rfl rfl rfl (hw0 _ m_41) (hw0 _ m_356) cb_X10_isHouse ⟨Nat.le_of_ble_eq_true rfl, Nat.le_of_ble_eq_true rfl⟩), (hw0 _ m_357), (hw0 _ m_358)⟩ (ci := 10) (q := (RX10, TX10, 41)) rfl rfl rfl hl.1 (Nat.le_of_ble_eq_true rfl) dX10_drop_2 ⟨Nat.le_of_ble_eq_true rfl, Nat.le_of_ble_eq_true rfl⟩ (fun r_1001 w_1001 H locs hw_1001 hP hD hS => ?_)
  rcases hw_1001 with ⟨rfl, rfl⟩ | ⟨h_1002, rfl, rfl⟩
  · skip
    obtain ⟨hP, hD⟩ : vPD G A H [(ce_X10 ob ob_thrown ob_world ob_images ob_hasImage ob_tape ob_taped ob_five ob_size ob_at ob_from ob_token ob_value ob_faultKind ob_faultPlace ob_fresh ob_parts ob_houses ob_houseMany ob_worthOf ob_byCall ob_over ob_bestSet ob_bestOver ob_bestWorth ob_row ob_tenDebts ob_tenMany ob_fewestBy ob_covered ob_queue ob_cameBy ob_parent ob_met ob_calls ob_callMany ob_calledOn ob_saved ob_many ob_width ob_numbers ob_moving), (ce_i9080 y ob_world fob_world), (ce_i16 y ob_worthOf fob_worthOf), (ce_z16 y ob_byCall fob_byCall)] := ⟨hP, hD⟩
    refine lv_if_ne (tgt := 11) hx hb dX10_drop_5 (by decide) (fun c9 => absurd (by decide) c9) (fun _ => ?_)
    refine lv_bipush (v := (-2)) hx hb dX10_drop_8 (by decide) ?_
    exact W.iret (v := (-2)) hx hb hr (fun t ht hW => ⟨⟨(-2), _, rfl, ⟨(-2), fob_worthOf, fob_byCall, (bw (-2) (15) (bkc (x := (-2)) (c := -2) (by decide)) (by decide)), p_fob_byCall, rfl, rfl⟩, by rw [ht]; exact hP, hD⟩, hS.F ht⟩) hS.2.2 dX10_drop_10
  · skip
    obtain ⟨hP, hD⟩ : vPD G A H [(ce_X10 ob ob_thrown ob_world ob_images ob_hasImage ob_tape ob_taped ob_five ob_size ob_at ob_from ob_token ob_value ob_faultKind ob_faultPlace ob_fresh ob_parts ob_houses ob_houseMany ob_worthOf ob_byCall ob_over ob_bestSet ob_bestOver ob_bestWorth ob_row ob_tenDebts ob_tenMany ob_fewestBy ob_covered ob_queue ob_cameBy ob_parent ob_met ob_calls ob_callMany ob_calledOn ob_saved ob_many ob_width ob_numbers ob_moving), (ce_i9080 y ob_world fob_world), (ce_i16 y ob_worthOf fob_worthOf), (ce_z16 y ob_byCall fob_byCall)] := ⟨hP, hD⟩
    refine lv_if_ne (tgt := 11) hx hb dX10_drop_5 (by decide) (fun _ => ?_) (fun c9 => absurd c9 (by decide))
    refine lv_aload_n hx hb dX10_drop_11 rfl (lv_at hl 0 rfl) ?_
    refine lv_iload_n hx hb dX10_drop_12 rfl (lv_at hl 1 rfl) ?_
    refine cVvm (As := [.int a1]) (rest := []) ⟨hx, hb, hml, hown, hw0⟩ hA hK hP hD hS [true, true, true, true] (sX10_weighs l G y _ ob a1 ob_thrown ob_world ob_images ob_hasImage ob_tape ob_taped ob_five ob_size ob_at ob_from ob_token ob_value ob_faultKind ob_faultPlace ob_fresh ob_parts ob_houses ob_houseMany ob_worthOf ob_byCall ob_over ob_bestSet ob_bestOver ob_bestWorth ob_row ob_tenDebts ob_tenMany ob_fewestBy ob_covered ob_queue ob_cameBy ob_parent ob_met ob_calls ob_callMany ob_calledOn ob_saved ob_many ob_width ob_numbers ob_moving fob_world fob_worthOf fob_byCall p_fob_world p_ob_taped p_ob_size p_ob_at p_ob_from p_ob_token p_ob_value p_ob_faultKind p_ob_houseMany p_fob_byCall p_ob_bestSet p_ob_bestOver p_ob_tenMany p_ob_callMany) rfl ⟨(callB_of 1 hw0 (gA m_696) rfl rfl rfl (hw0 _ m_41) (hw0 _ m_441) cb_X10_weighs ⟨Nat.le_of_ble_eq_true rfl, Nat.le_of_ble_eq_true rfl⟩), (hw0 _ m_442), (hw0 _ m_443)⟩ (ci := 10) (q := (RX10, TX10, 41)) rfl rfl rfl hl.1 (Nat.le_of_ble_eq_true rfl) dX10_drop_13 ⟨Nat.le_of_ble_eq_true rfl, Nat.le_of_ble_eq_true rfl⟩ (fun w_1003 H locs hw_1003 hP hD hS => ?_)
    obtain ⟨f_1004, f_1005, bf_1005, rfl⟩ := hw_1003
    obtain ⟨hP, hD⟩ : vPD G A H [(ce_X10 ob ob_thrown ob_world ob_images ob_hasImage ob_tape ob_taped ob_five ob_size ob_at ob_from ob_token ob_value ob_faultKind ob_faultPlace ob_fresh ob_parts ob_houses ob_houseMany ob_worthOf ob_byCall ob_over ob_bestSet ob_bestOver ob_bestWorth ob_row ob_tenDebts ob_tenMany ob_fewestBy ob_covered ob_queue ob_cameBy ob_parent ob_met ob_calls ob_callMany ob_calledOn ob_saved ob_many ob_width ob_numbers ob_moving), (ce_i9080 y ob_world fob_world), (ce_i16 y ob_worthOf f_1004), (ce_z16 y ob_byCall f_1005)] := ⟨hP, hD⟩
    refine lv_iconst (v := (-1)) hx hb dX10_drop_16 (by decide) ?_
    refine lv_istore_n (lv' := [(2, .int (-1)), (0, .ref ob), (1, .int a1)]) hx hb dX10_drop_17 rfl hl (by decide) rfl (fun ls hl => ?_)
    refine lv_aload_n hx hb dX10_drop_18 rfl (lv_at hl 1 rfl) ?_
    refine lv_iload_n hx hb dX10_drop_19 rfl (lv_at hl 2 rfl) ?_
    refine lv_iconst (v := (-1)) hx hb dX10_drop_20 (by decide) ?_
    refine lv_iconst (v := (-1)) hx hb dX10_drop_21 (by decide) ?_
    refine cVim (As := [.int a1, .int (-1), .int (-1)]) (rest := []) ⟨hx, hb, hml, hown, hw0⟩ hA hK hP hD hS [true, true] (sX10_hangs l G y _ ob a1 (-1) (-1) ob_thrown ob_world ob_images ob_hasImage ob_tape ob_taped ob_five ob_size ob_at ob_from ob_token ob_value ob_faultKind ob_faultPlace ob_fresh ob_parts ob_houses ob_houseMany ob_worthOf ob_byCall ob_over ob_bestSet ob_bestOver ob_bestWorth ob_row ob_tenDebts ob_tenMany ob_fewestBy ob_covered ob_queue ob_cameBy ob_parent ob_met ob_calls ob_callMany ob_calledOn ob_saved ob_many ob_width ob_numbers ob_moving fob_world p_fob_world p_ob_taped p_ob_size p_ob_at p_ob_from p_ob_token p_ob_value p_ob_faultKind p_ob_houseMany p_ob_bestSet p_ob_bestOver p_ob_tenMany p_ob_callMany h_1002) rfl ⟨(callB_of 3 hw0 (gA m_511) rfl rfl rfl (hw0 _ m_41) (hw0 _ m_444) cb_X10_hangs ⟨Nat.le_of_ble_eq_true rfl, Nat.le_of_ble_eq_true rfl⟩), (hw0 _ m_445), (hw0 _ m_446)⟩ (ci := 10) (q := (RX10, TX10, 41)) rfl rfl rfl hl.1 (Nat.le_of_ble_eq_true rfl) dX10_drop_22 ⟨Nat.le_of_ble_eq_true rfl, Nat.le_of_ble_eq_true rfl⟩ (fun r_1006 w_1006 H locs hw_1006 hP hD hS => ?_)
    obtain ⟨v_1007, bv_1007, er_1006, rfl⟩ := hw_1006
    subst r_1006
    obtain ⟨hP, hD⟩ : vPD G A H [(ce_X10 ob ob_thrown ob_world ob_images ob_hasImage ob_tape ob_taped ob_five ob_size ob_at ob_from ob_token ob_value ob_faultKind ob_faultPlace ob_fresh ob_parts ob_houses ob_houseMany ob_worthOf ob_byCall ob_over ob_bestSet ob_bestOver ob_bestWorth ob_row ob_tenDebts ob_tenMany ob_fewestBy ob_covered ob_queue ob_cameBy ob_parent ob_met ob_calls ob_callMany ob_calledOn ob_saved ob_many ob_width ob_numbers ob_moving), (ce_i9080 y ob_world fob_world), (ce_i16 y ob_worthOf f_1004), (ce_z16 y ob_byCall f_1005)] := ⟨hP, hD⟩
    refine cSim (As := [.int v_1007]) (rest := []) ⟨hx, hb, hml, hown, hw0⟩ hA hK hP hD hS [] (sX10_ones l G y _ v_1007 ) rfl ⟨(callB_of 1 hw0 (gA m_578) rfl rfl rfl (hw0 _ m_41) (hw0 _ m_447) cb_X10_ones ⟨Nat.le_of_ble_eq_true rfl, Nat.le_of_ble_eq_true rfl⟩), (hw0 _ m_448)⟩ rfl hl.1 (Nat.le_of_ble_eq_true rfl) dX10_drop_25 ⟨Nat.le_of_ble_eq_true rfl, Nat.le_of_ble_eq_true rfl⟩ (fun r_1008 w_1008 H locs hw_1008 hP hD hS => ?_)
    obtain ⟨v_1009, er_1008, rfl⟩ := hw_1008
    subst r_1008
    obtain ⟨hP, hD⟩ : vPD G A H [(ce_X10 ob ob_thrown ob_world ob_images ob_hasImage ob_tape ob_taped ob_five ob_size ob_at ob_from ob_token ob_value ob_faultKind ob_faultPlace ob_fresh ob_parts ob_houses ob_houseMany ob_worthOf ob_byCall ob_over ob_bestSet ob_bestOver ob_bestWorth ob_row ob_tenDebts ob_tenMany ob_fewestBy ob_covered ob_queue ob_cameBy ob_parent ob_met ob_calls ob_callMany ob_calledOn ob_saved ob_many ob_width ob_numbers ob_moving), (ce_i9080 y ob_world fob_world), (ce_i16 y ob_worthOf f_1004), (ce_z16 y ob_byCall f_1005)] := ⟨hP, hD⟩
    refine lv_istore_n (lv' := [(3, .int v_1009), (2, .int (-1)), (0, .ref ob), (1, .int a1)]) hx hb dX10_drop_28 rfl hl (by decide) rfl (fun ls hl => ?_)
    refine lv_iconst (v := 0) hx hb dX10_drop_29 (by decide) ?_
    refine lv_istore (lv' := [(4, .int 0), (3, .int v_1009), (2, .int (-1)), (0, .ref ob), (1, .int a1)]) hx hb dX10_drop_30 hl (by decide) rfl (fun ls hl => ?_)
    refine loopX (fun n H locs ls st => ∃ (v_1535 : Int32) (v_1536 : Int32), (16 - v_1535.toInt).toNat = n ∧ ((0 : Int) ≤ v_1535.toInt ∧ v_1535.toInt ≤ 16) ∧ ((-1 : Int) ≤ v_1536.toInt ∧ v_1536.toInt ≤ 15) ∧ st = [] ∧ vPD G A H [(ce_X10 ob ob_thrown ob_world ob_images ob_hasImage ob_tape ob_taped ob_five ob_size ob_at ob_from ob_token ob_value ob_faultKind ob_faultPlace ob_fresh ob_parts ob_houses ob_houseMany ob_worthOf ob_byCall ob_over ob_bestSet ob_bestOver ob_bestWorth ob_row ob_tenDebts ob_tenMany ob_fewestBy ob_covered ob_queue ob_cameBy ob_parent ob_met ob_calls ob_callMany ob_calledOn ob_saved ob_many ob_width ob_numbers ob_moving), (ce_i9080 y ob_world fob_world), (ce_i16 y ob_worthOf f_1004), (ce_z16 y ob_byCall f_1005)] ∧ va_S A s.heap H locs ∧ lv_has ls 5 [(4, .int v_1535), (3, .int v_1009), (2, .int v_1536), (0, .ref ob), (1, .int a1)]) ?_ (n := (16 - (0 : Int32).toInt).toNat) ⟨0, (-1), rfl, (bw (0) (16) (bkc (x := 0) (c := 0) (by decide)) (by decide)), (bw (-1) (15) (bkc (x := (-1)) (c := -1) (by decide)) (by decide)), rfl, ⟨hP, hD⟩, hS, lv_sub hl [0, 1, 2, 3, 4] rfl⟩
    rintro n ih_1580 H locs ls st ⟨v_1535, v_1536, hn_1580, bv_1535, bv_1536, rfl, ⟨hP, hD⟩, hS, hl⟩
    refine lv_iload hx hb dX10_drop_32 (lv_at hl 0 rfl) ?_
    refine lv_aload_n hx hb dX10_drop_34 rfl (lv_at hl 3 rfl) ?_
    refine va_get (D := G) (ci := 10) (v := .ref ob_world) (C := RX10) (T := TX10) (N := 41) hx hb hw0 inA_wsX100 hown hK.1 hP 0 rfl rfl 1 (by decide) (hw0 _ m_352) (fun _ h9 => h9) rfl dX10_drop_35 ?_
    refine lv_iconst (v := 0) hx hb dX10_drop_38 (by decide) ?_
    refine va_iald hx hb hK.1 hP 1 1 rfl rfl (vi (bkc (x := 0) (c := 0) (by decide)) (by decide)) dX10_drop_39 ?_
    refine lv_topi (fun v_1581 ev_1581 => ?_)
    have bv_1581 : (0 : Int) ≤ v_1581.toInt ∧ v_1581.toInt ≤ 16 := rdk ev_1581 (p_fob_world).1.1 (by decide)
    refine lv_icmp_ge (tgt := 111) hx hb dX10_drop_40 (by decide) (fun c_1582 => ?_) (fun c_1582 => ?_)
    · skip
      have nc_1582 := nb_le (16) (0) c_1582 bv_1581 bv_1535 (by decide)
      refine lv_iload_n hx hb dX10_drop_111 rfl (lv_at hl 2 rfl) ?_
      exact W.iret (v := v_1536) hx hb hr (fun t ht hW => ⟨⟨v_1536, _, rfl, ⟨v_1536, f_1004, f_1005, (bw (-2) (15) bv_1536 (by decide)), bf_1005, rfl, rfl⟩, by rw [ht]; exact hP, hD⟩, hS.F ht⟩) hS.2.2 dX10_drop_112
    · skip
      have nc_1582 := nb_nle (15) (1) c_1582 bv_1535 bv_1581 (by decide)
      refine lv_aload_n hx hb dX10_drop_43 rfl (lv_at hl 3 rfl) ?_
      refine lv_iload_n hx hb dX10_drop_44 rfl (lv_at hl 4 rfl) ?_
      refine lv_iload hx hb dX10_drop_45 (lv_at hl 0 rfl) ?_
      refine cutW 105 (fun H locs ls st => ∃ (v_1603 : Int32), ((-1 : Int) ≤ v_1603.toInt ∧ v_1603.toInt ≤ 15) ∧ st = [] ∧ vPD G A H [(ce_X10 ob ob_thrown ob_world ob_images ob_hasImage ob_tape ob_taped ob_five ob_size ob_at ob_from ob_token ob_value ob_faultKind ob_faultPlace ob_fresh ob_parts ob_houses ob_houseMany ob_worthOf ob_byCall ob_over ob_bestSet ob_bestOver ob_bestWorth ob_row ob_tenDebts ob_tenMany ob_fewestBy ob_covered ob_queue ob_cameBy ob_parent ob_met ob_calls ob_callMany ob_calledOn ob_saved ob_many ob_width ob_numbers ob_moving), (ce_i9080 y ob_world fob_world), (ce_i16 y ob_worthOf f_1004), (ce_z16 y ob_byCall f_1005)] ∧ va_S A s.heap H locs ∧ lv_has ls 5 [(4, .int v_1535), (3, .int v_1009), (2, .int v_1603), (0, .ref ob), (1, .int a1)]) ?_ (fun J_105_1603 => ?_)
      · rintro H locs ls st ⟨v_1603, bv_1603, rfl, ⟨hP, hD⟩, hS, hl⟩
        obtain ⟨v_1604, ev_1604⟩ : ∃ z : Int32, z = v_1535 + 1 := ⟨_, rfl⟩
        have qv_1604 := ba_add ev_1604 nc_1582.1 (bkc (x := 1) (c := 1) (by decide)) (by decide)
        have bv_1604 : (1 : Int) ≤ v_1604.toInt ∧ v_1604.toInt ≤ 16 := bq_add qv_1604 nc_1582.1 (bkc (x := 1) (c := 1) (by decide)) _ _ (by decide)
        have qv_1604 : v_1604.toInt = v_1535.toInt + (1) := qv_1604
        refine lv_iinc (v := v_1604) (lv' := [(4, .int v_1604), (3, .int v_1009), (2, .int v_1603), (0, .ref ob), (1, .int a1)]) hx hb dX10_drop_105 hl (k := 0) rfl (ev_1604.symm) (by decide) rfl (fun ls hl => ?_)
        refine lv_goto (tgt := 32) hx hb dX10_drop_108 (by decide) ?_
        exact ih_1580 _ (ml_inc (hi := 16) hn_1580 qv_1604 (by decide) ((bw (0) (16) bv_1604 (by decide))).2) _ _ _ _ ⟨v_1604, v_1603, rfl, (bw (0) (16) bv_1604 (by decide)), bv_1603, rfl, ⟨hP, hD⟩, hS, lv_sub hl [0, 1, 2, 3, 4] rfl⟩
      · skip
        refine cVim (As := [.int a1, .int v_1535]) (rest := []) ⟨hx, hb, hml, hown, hw0⟩ hA hK hP hD hS [true, true] (sX10_areKnown l G y _ ob a1 v_1535 ob_thrown ob_world ob_images ob_hasImage ob_tape ob_taped ob_five ob_size ob_at ob_from ob_token ob_value ob_faultKind ob_faultPlace ob_fresh ob_parts ob_houses ob_houseMany ob_worthOf ob_byCall ob_over ob_bestSet ob_bestOver ob_bestWorth ob_row ob_tenDebts ob_tenMany ob_fewestBy ob_covered ob_queue ob_cameBy ob_parent ob_met ob_calls ob_callMany ob_calledOn ob_saved ob_many ob_width ob_numbers ob_moving fob_world p_fob_world p_ob_taped p_ob_size p_ob_at p_ob_from p_ob_token p_ob_value p_ob_faultKind p_ob_houseMany p_ob_bestSet p_ob_bestOver p_ob_tenMany p_ob_callMany h_1002 nc_1582.1) rfl ⟨(callB_of 2 hw0 (gA m_351) rfl rfl rfl (hw0 _ m_41) (hw0 _ m_379) cb_X10_areKnown ⟨Nat.le_of_ble_eq_true rfl, Nat.le_of_ble_eq_true rfl⟩), (hw0 _ m_380), (hw0 _ m_381)⟩ (ci := 10) (q := (RX10, TX10, 41)) rfl rfl rfl hl.1 (Nat.le_of_ble_eq_true rfl) dX10_drop_47 ⟨Nat.le_of_ble_eq_true rfl, Nat.le_of_ble_eq_true rfl⟩ (fun r_1605 w_1605 H locs hw_1605 hP hD hS => ?_)
        rcases hw_1605 with ⟨rfl, rfl⟩ | ⟨rfl, rfl⟩
        · skip
          obtain ⟨hP, hD⟩ : vPD G A H [(ce_X10 ob ob_thrown ob_world ob_images ob_hasImage ob_tape ob_taped ob_five ob_size ob_at ob_from ob_token ob_value ob_faultKind ob_faultPlace ob_fresh ob_parts ob_houses ob_houseMany ob_worthOf ob_byCall ob_over ob_bestSet ob_bestOver ob_bestWorth ob_row ob_tenDebts ob_tenMany ob_fewestBy ob_covered ob_queue ob_cameBy ob_parent ob_met ob_calls ob_callMany ob_calledOn ob_saved ob_many ob_width ob_numbers ob_moving), (ce_i9080 y ob_world fob_world), (ce_i16 y ob_worthOf f_1004), (ce_z16 y ob_byCall f_1005)] := ⟨hP, hD⟩
          refine lv_if_eq (tgt := 105) hx hb dX10_drop_50 (by decide) (fun _ => ?_) (fun c9 => absurd (by decide) c9)
          exact J_105_1603 _ _ _ _ ⟨v_1536, bv_1536, rfl, ⟨hP, hD⟩, hS, lv_sub hl [0, 1, 2, 3, 4] rfl⟩
        · skip
          obtain ⟨hP, hD⟩ : vPD G A H [(ce_X10 ob ob_thrown ob_world ob_images ob_hasImage ob_tape ob_taped ob_five ob_size ob_at ob_from ob_token ob_value ob_faultKind ob_faultPlace ob_fresh ob_parts ob_houses ob_houseMany ob_worthOf ob_byCall ob_over ob_bestSet ob_bestOver ob_bestWorth ob_row ob_tenDebts ob_tenMany ob_fewestBy ob_covered ob_queue ob_cameBy ob_parent ob_met ob_calls ob_callMany ob_calledOn ob_saved ob_many ob_width ob_numbers ob_moving), (ce_i9080 y ob_world fob_world), (ce_i16 y ob_worthOf f_1004), (ce_z16 y ob_byCall f_1005)] := ⟨hP, hD⟩
          refine lv_if_eq (tgt := 105) hx hb dX10_drop_50 (by decide) (fun c9 => absurd c9 (by decide)) (fun _ => ?_)
          refine lv_aload_n hx hb dX10_drop_53 rfl (lv_at hl 3 rfl) ?_
          refine va_get (D := G) (ci := 10) (v := .ref ob_worthOf) (C := RX10) (T := TX10) (N := 41) hx hb hw0 inA_wsX100 hown hK.1 hP 0 rfl rfl 18 (by decide) (hw0 _ m_449) (fun _ h9 => h9) rfl dX10_drop_54 ?_
          refine lv_iload hx hb dX10_drop_57 (lv_at hl 0 rfl) ?_
          refine va_iald hx hb hK.1 hP 2 1 rfl rfl (vi nc_1582.1 (by decide)) dX10_drop_59 ?_
          refine lv_topi (fun v_1606 ev_1606 => ?_)
          refine lv_if_gt (tgt := 105) hx hb dX10_drop_60 (by decide) (fun c_1607 => ?_) (fun c_1607 => ?_)
          · skip
            have nc_1607 := nb_lt (0) (1) c_1607 (bkc (x := 0) (c := 0) (by decide)) (btop v_1606) (by decide)
            exact J_105_1603 _ _ _ _ ⟨v_1536, bv_1536, rfl, ⟨hP, hD⟩, hS, lv_sub hl [0, 1, 2, 3, 4] rfl⟩
          · skip
            have nc_1607 := nb_nlt (0) (0) c_1607 (btop v_1606) (bkc (x := 0) (c := 0) (by decide)) (by decide)
            refine lv_aload_n hx hb dX10_drop_63 rfl (lv_at hl 3 rfl) ?_
            refine lv_iload_n hx hb dX10_drop_64 rfl (lv_at hl 4 rfl) ?_
            refine lv_iload_n hx hb dX10_drop_65 rfl (lv_at hl 4 rfl) ?_
            refine lv_iload hx hb dX10_drop_66 (lv_at hl 0 rfl) ?_
            refine cVim (As := [.int a1, .int a1, .int v_1535]) (rest := []) ⟨hx, hb, hml, hown, hw0⟩ hA hK hP hD hS [true, true] (sX10_hangs l G y _ ob a1 a1 v_1535 ob_thrown ob_world ob_images ob_hasImage ob_tape ob_taped ob_five ob_size ob_at ob_from ob_token ob_value ob_faultKind ob_faultPlace ob_fresh ob_parts ob_houses ob_houseMany ob_worthOf ob_byCall ob_over ob_bestSet ob_bestOver ob_bestWorth ob_row ob_tenDebts ob_tenMany ob_fewestBy ob_covered ob_queue ob_cameBy ob_parent ob_met ob_calls ob_callMany ob_calledOn ob_saved ob_many ob_width ob_numbers ob_moving fob_world p_fob_world p_ob_taped p_ob_size p_ob_at p_ob_from p_ob_token p_ob_value p_ob_faultKind p_ob_houseMany p_ob_bestSet p_ob_bestOver p_ob_tenMany p_ob_callMany h_1002) rfl ⟨(callB_of 3 hw0 (gA m_511) rfl rfl rfl (hw0 _ m_41) (hw0 _ m_444) cb_X10_hangs ⟨Nat.le_of_ble_eq_true rfl, Nat.le_of_ble_eq_true rfl⟩), (hw0 _ m_445), (hw0 _ m_446)⟩ (ci := 10) (q := (RX10, TX10, 41)) rfl rfl rfl hl.1 (Nat.le_of_ble_eq_true rfl) dX10_drop_68 ⟨Nat.le_of_ble_eq_true rfl, Nat.le_of_ble_eq_true rfl⟩ (fun r_1608 w_1608 H locs hw_1608 hP hD hS => ?_)
            obtain ⟨v_1609, bv_1609, er_1608, rfl⟩ := hw_1608
            subst r_1608
            obtain ⟨hP, hD⟩ : vPD G A H [(ce_X10 ob ob_thrown ob_world ob_images ob_hasImage ob_tape ob_taped ob_five ob_size ob_at ob_from ob_token ob_value ob_faultKind ob_faultPlace ob_fresh ob_parts ob_houses ob_houseMany ob_worthOf ob_byCall ob_over ob_bestSet ob_bestOver ob_bestWorth ob_row ob_tenDebts ob_tenMany ob_fewestBy ob_covered ob_queue ob_cameBy ob_parent ob_met ob_calls ob_callMany ob_calledOn ob_saved ob_many ob_width ob_numbers ob_moving), (ce_i9080 y ob_world fob_world), (ce_i16 y ob_worthOf f_1004), (ce_z16 y ob_byCall f_1005)] := ⟨hP, hD⟩
            refine cSim (As := [.int v_1609]) (rest := []) ⟨hx, hb, hml, hown, hw0⟩ hA hK hP hD hS [] (sX10_ones l G y _ v_1609 ) rfl ⟨(callB_of 1 hw0 (gA m_578) rfl rfl rfl (hw0 _ m_41) (hw0 _ m_447) cb_X10_ones ⟨Nat.le_of_ble_eq_true rfl, Nat.le_of_ble_eq_true rfl⟩), (hw0 _ m_448)⟩ rfl hl.1 (Nat.le_of_ble_eq_true rfl) dX10_drop_71 ⟨Nat.le_of_ble_eq_true rfl, Nat.le_of_ble_eq_true rfl⟩ (fun r_1610 w_1610 H locs hw_1610 hP hD hS => ?_)
            obtain ⟨v_1611, er_1610, rfl⟩ := hw_1610
            subst r_1610
            obtain ⟨hP, hD⟩ : vPD G A H [(ce_X10 ob ob_thrown ob_world ob_images ob_hasImage ob_tape ob_taped ob_five ob_size ob_at ob_from ob_token ob_value ob_faultKind ob_faultPlace ob_fresh ob_parts ob_houses ob_houseMany ob_worthOf ob_byCall ob_over ob_bestSet ob_bestOver ob_bestWorth ob_row ob_tenDebts ob_tenMany ob_fewestBy ob_covered ob_queue ob_cameBy ob_parent ob_met ob_calls ob_callMany ob_calledOn ob_saved ob_many ob_width ob_numbers ob_moving), (ce_i9080 y ob_world fob_world), (ce_i16 y ob_worthOf f_1004), (ce_z16 y ob_byCall f_1005)] := ⟨hP, hD⟩
            refine lv_iload_n hx hb dX10_drop_74 rfl (lv_at hl 1 rfl) ?_
            refine lv_icmp_eq (tgt := 81) hx hb dX10_drop_75 (by decide) (fun c_1612 => ?_) (fun c_1612 => ?_)
            · skip
              have nc_1612 := nb_eq (-2147483648) (2147483647) c_1612 (btop v_1611) (btop v_1009) (by decide)
              refine lv_iload_n hx hb dX10_drop_81 rfl (lv_at hl 2 rfl) ?_
              refine lv_iconst (v := (-1)) hx hb dX10_drop_82 (by decide) ?_
              refine cutW 102 (fun H locs ls st => st = [] ∧ vPD G A H [(ce_X10 ob ob_thrown ob_world ob_images ob_hasImage ob_tape ob_taped ob_five ob_size ob_at ob_from ob_token ob_value ob_faultKind ob_faultPlace ob_fresh ob_parts ob_houses ob_houseMany ob_worthOf ob_byCall ob_over ob_bestSet ob_bestOver ob_bestWorth ob_row ob_tenDebts ob_tenMany ob_fewestBy ob_covered ob_queue ob_cameBy ob_parent ob_met ob_calls ob_callMany ob_calledOn ob_saved ob_many ob_width ob_numbers ob_moving), (ce_i9080 y ob_world fob_world), (ce_i16 y ob_worthOf f_1004), (ce_z16 y ob_byCall f_1005)] ∧ va_S A s.heap H locs ∧ lv_has ls 5 [(4, .int v_1535), (3, .int v_1009), (0, .ref ob), (1, .int a1)]) ?_ (fun J_102_1618 => ?_)
              · rintro H locs ls st ⟨rfl, ⟨hP, hD⟩, hS, hl⟩
                refine lv_iload hx hb dX10_drop_102 (lv_at hl 0 rfl) ?_
                refine lv_istore_n (lv' := [(2, .int v_1535), (4, .int v_1535), (3, .int v_1009), (0, .ref ob), (1, .int a1)]) hx hb dX10_drop_104 rfl hl (by decide) rfl (fun ls hl => ?_)
                exact J_105_1603 _ _ _ _ ⟨v_1535, (bw (-1) (15) nc_1582.1 (by decide)), rfl, ⟨hP, hD⟩, hS, lv_sub hl [1, 2, 0, 3, 4] rfl⟩
              · skip
                refine lv_icmp_eq (tgt := 102) hx hb dX10_drop_83 (by decide) (fun c_1619 => ?_) (fun c_1619 => ?_)
                · skip
                  have nc_1619 := nb_eq (-1) (-1) c_1619 bv_1536 (bkc (x := (-1)) (c := -1) (by decide)) (by decide)
                  exact J_102_1618 _ _ _ _ ⟨rfl, ⟨hP, hD⟩, hS, lv_sub hl [0, 1, 3, 4] rfl⟩
                · skip
                  have nc_1619 := nb_ne (0) (15) c_1619 bv_1536 (k := -1) (by decide) (by decide)
                  refine lv_aload_n hx hb dX10_drop_86 rfl (lv_at hl 3 rfl) ?_
                  refine lv_iload hx hb dX10_drop_87 (lv_at hl 0 rfl) ?_
                  refine lv_iconst (v := 2) hx hb dX10_drop_89 (by decide) ?_
                  refine cVim (As := [.int v_1535, .int 2]) (rest := []) ⟨hx, hb, hml, hown, hw0⟩ hA hK hP hD hS [true, true] (sofHouse2 l G y _ ob v_1535 ob_thrown ob_world ob_images ob_hasImage ob_tape ob_taped ob_five ob_size ob_at ob_from ob_token ob_value ob_faultKind ob_faultPlace ob_fresh ob_parts ob_houses ob_houseMany ob_worthOf ob_byCall ob_over ob_bestSet ob_bestOver ob_bestWorth ob_row ob_tenDebts ob_tenMany ob_fewestBy ob_covered ob_queue ob_cameBy ob_parent ob_met ob_calls ob_callMany ob_calledOn ob_saved ob_many ob_width ob_numbers ob_moving fob_world p_fob_world p_ob_taped p_ob_size p_ob_at p_ob_from p_ob_token p_ob_value p_ob_faultKind p_ob_houseMany p_ob_bestSet p_ob_bestOver p_ob_tenMany p_ob_callMany nc_1582.1) rfl ⟨(callB_of 2 hw0 (gA m_577) rfl rfl rfl (hw0 _ m_41) (hw0 _ m_388) cb_X10_ofHouse ⟨Nat.le_of_ble_eq_true rfl, Nat.le_of_ble_eq_true rfl⟩), (hw0 _ m_389), (hw0 _ m_390)⟩ (ci := 10) (q := (RX10, TX10, 41)) rfl rfl rfl hl.1 (Nat.le_of_ble_eq_true rfl) dX10_drop_90 ⟨Nat.le_of_ble_eq_true rfl, Nat.le_of_ble_eq_true rfl⟩ (fun r_1620 w_1620 H locs hw_1620 hP hD hS => ?_)
                  obtain ⟨v_1621, er_1620, rfl⟩ := hw_1620
                  subst r_1620
                  obtain ⟨hP, hD⟩ : vPD G A H [(ce_X10 ob ob_thrown ob_world ob_images ob_hasImage ob_tape ob_taped ob_five ob_size ob_at ob_from ob_token ob_value ob_faultKind ob_faultPlace ob_fresh ob_parts ob_houses ob_houseMany ob_worthOf ob_byCall ob_over ob_bestSet ob_bestOver ob_bestWorth ob_row ob_tenDebts ob_tenMany ob_fewestBy ob_covered ob_queue ob_cameBy ob_parent ob_met ob_calls ob_callMany ob_calledOn ob_saved ob_many ob_width ob_numbers ob_moving), (ce_i9080 y ob_world fob_world), (ce_i16 y ob_worthOf f_1004), (ce_z16 y ob_byCall f_1005)] := ⟨hP, hD⟩
                  refine lv_aload_n hx hb dX10_drop_93 rfl (lv_at hl 3 rfl) ?_
                  refine lv_iload_n hx hb dX10_drop_94 rfl (lv_at hl 2 rfl) ?_
                  refine lv_iconst (v := 2) hx hb dX10_drop_95 (by decide) ?_
                  refine cVim (As := [.int v_1536, .int 2]) (rest := [.int v_1621]) ⟨hx, hb, hml, hown, hw0⟩ hA hK hP hD hS [true, true] (sofHouse2 l G y _ ob v_1536 ob_thrown ob_world ob_images ob_hasImage ob_tape ob_taped ob_five ob_size ob_at ob_from ob_token ob_value ob_faultKind ob_faultPlace ob_fresh ob_parts ob_houses ob_houseMany ob_worthOf ob_byCall ob_over ob_bestSet ob_bestOver ob_bestWorth ob_row ob_tenDebts ob_tenMany ob_fewestBy ob_covered ob_queue ob_cameBy ob_parent ob_met ob_calls ob_callMany ob_calledOn ob_saved ob_many ob_width ob_numbers ob_moving fob_world p_fob_world p_ob_taped p_ob_size p_ob_at p_ob_from p_ob_token p_ob_value p_ob_faultKind p_ob_houseMany p_ob_bestSet p_ob_bestOver p_ob_tenMany p_ob_callMany nc_1619.1) rfl ⟨(callB_of 2 hw0 (gA m_577) rfl rfl rfl (hw0 _ m_41) (hw0 _ m_388) cb_X10_ofHouse ⟨Nat.le_of_ble_eq_true rfl, Nat.le_of_ble_eq_true rfl⟩), (hw0 _ m_389), (hw0 _ m_390)⟩ (ci := 10) (q := (RX10, TX10, 41)) rfl rfl rfl hl.1 (Nat.le_of_ble_eq_true rfl) dX10_drop_96 ⟨Nat.le_of_ble_eq_true rfl, Nat.le_of_ble_eq_true rfl⟩ (fun r_1622 w_1622 H locs hw_1622 hP hD hS => ?_)
                  obtain ⟨v_1623, er_1622, rfl⟩ := hw_1622
                  subst r_1622
                  obtain ⟨hP, hD⟩ : vPD G A H [(ce_X10 ob ob_thrown ob_world ob_images ob_hasImage ob_tape ob_taped ob_five ob_size ob_at ob_from ob_token ob_value ob_faultKind ob_faultPlace ob_fresh ob_parts ob_houses ob_houseMany ob_worthOf ob_byCall ob_over ob_bestSet ob_bestOver ob_bestWorth ob_row ob_tenDebts ob_tenMany ob_fewestBy ob_covered ob_queue ob_cameBy ob_parent ob_met ob_calls ob_callMany ob_calledOn ob_saved ob_many ob_width ob_numbers ob_moving), (ce_i9080 y ob_world fob_world), (ce_i16 y ob_worthOf f_1004), (ce_z16 y ob_byCall f_1005)] := ⟨hP, hD⟩
                  refine lv_icmp_ge (tgt := 105) hx hb dX10_drop_99 (by decide) (fun c_1624 => ?_) (fun c_1624 => ?_)
                  · skip
                    have nc_1624 := nb_le (2147483647) (-2147483648) c_1624 (btop v_1623) (btop v_1621) (by decide)
                    exact J_105_1603 _ _ _ _ ⟨v_1536, (bw (-1) (15) nc_1619.1 (by decide)), rfl, ⟨hP, hD⟩, hS, lv_sub hl [0, 1, 2, 3, 4] rfl⟩
                  · skip
                    have nc_1624 := nb_nle (2147483646) (-2147483647) c_1624 (btop v_1621) (btop v_1623) (by decide)
                    exact J_102_1618 _ _ _ _ ⟨rfl, ⟨hP, hD⟩, hS, lv_sub hl [0, 1, 3, 4] rfl⟩
            · skip
              refine lv_goto (tgt := 105) hx hb dX10_drop_78 (by decide) ?_
              exact J_105_1603 _ _ _ _ ⟨v_1536, bv_1536, rfl, ⟨hP, hD⟩, hS, lv_sub hl [0, 1, 2, 3, 4] rfl⟩

set_option maxHeartbeats 4000000 in
set_option maxRecDepth 100000 in
theorem sX10_tie (l : Launch) (G : va_G) (y : Nat → ClassId) (sz : Nat) (ob : Nat) (a1 : Int32) (a2 : Int32) (ob_thrown : Int32) (ob_world : Nat) (ob_images : Nat) (ob_hasImage : Nat) (ob_tape : Nat) (ob_taped : Int32) (ob_five : Nat) (ob_size : Int32) (ob_at : Int32) (ob_from : Int32) (ob_token : Int32) (ob_value : Int32) (ob_faultKind : Int32) (ob_faultPlace : Int32) (ob_fresh : Nat) (ob_parts : Nat) (ob_houses : Nat) (ob_houseMany : Int32) (ob_worthOf : Nat) (ob_byCall : Nat) (ob_over : Nat) (ob_bestSet : Int32) (ob_bestOver : Int32) (ob_bestWorth : Int32) (ob_row : Nat) (ob_tenDebts : Nat) (ob_tenMany : Int32) (ob_fewestBy : Nat) (ob_covered : Nat) (ob_queue : Nat) (ob_cameBy : Nat) (ob_parent : Nat) (ob_met : Nat) (ob_calls : Nat) (ob_callMany : Int32) (ob_calledOn : Nat) (ob_saved : Nat) (ob_many : Nat) (ob_width : Nat) (ob_numbers : Nat) (ob_moving : Nat) (fob_world : Nat → Int32) (p_fob_world : RWw fob_world) (p_ob_taped : (0 : Int) ≤ ob_taped.toInt ∧ ob_taped.toInt ≤ 1400) (p_ob_size : (0 : Int) ≤ ob_size.toInt ∧ ob_size.toInt ≤ 1400) (p_ob_at : (0 : Int) ≤ ob_at.toInt ∧ ob_at.toInt ≤ 1400) (p_ob_from : (0 : Int) ≤ ob_from.toInt ∧ ob_from.toInt ≤ 1400) (p_ob_token : (0 : Int) ≤ ob_token.toInt ∧ ob_token.toInt ≤ 4) (p_ob_value : (0 : Int) ≤ ob_value.toInt ∧ ob_value.toInt ≤ 9999) (p_ob_faultKind : (0 : Int) ≤ ob_faultKind.toInt ∧ ob_faultKind.toInt ≤ 3) (p_ob_houseMany : (0 : Int) ≤ ob_houseMany.toInt ∧ ob_houseMany.toInt ≤ 10) (p_ob_bestSet : (0 : Int) ≤ ob_bestSet.toInt ∧ ob_bestSet.toInt ≤ 1023) (p_ob_bestOver : (-1 : Int) ≤ ob_bestOver.toInt ∧ ob_bestOver.toInt ≤ 180) (p_ob_tenMany : (0 : Int) ≤ ob_tenMany.toInt ∧ ob_tenMany.toInt ≤ 10) (p_ob_callMany : (0 : Int) ≤ ob_callMany.toInt ∧ ob_callMany.toInt ≤ 16) : Met l yX10_tie (Cond.code yX10_tie cX10_tie 3 (some .int) :: wAll) ({ frames := 3, cells := 0, slots := 0, locals := 68 }) (va_Pc [.ref ob, .int a1, .int a2] (kp G y sz [(ce_X10 ob ob_thrown ob_world ob_images ob_hasImage ob_tape ob_taped ob_five ob_size ob_at ob_from ob_token ob_value ob_faultKind ob_faultPlace ob_fresh ob_parts ob_houses ob_houseMany ob_worthOf ob_byCall ob_over ob_bestSet ob_bestOver ob_bestWorth ob_row ob_tenDebts ob_tenMany ob_fewestBy ob_covered ob_queue ob_cameBy ob_parent ob_met ob_calls ob_callMany ob_calledOn ob_saved ob_many ob_width ob_numbers ob_moving), (ce_i9080 y ob_world fob_world)])) (va_Qi (fun (r : Int32) (w : va_W) => (∃ (v_15 : Int32), ((-2 : Int) ≤ v_15.toInt ∧ v_15.toInt ≤ 1) ∧ r = v_15 ∧ w = [(ce_X10 ob ob_thrown ob_world ob_images ob_hasImage ob_tape ob_taped ob_five ob_size ob_at ob_from ob_token ob_value ob_faultKind ob_faultPlace ob_fresh ob_parts ob_houses ob_houseMany ob_worthOf ob_byCall ob_over ob_bestSet ob_bestOver ob_bestWorth ob_row ob_tenDebts ob_tenMany ob_fewestBy ob_covered ob_queue ob_cameBy ob_parent ob_met ob_calls ob_callMany ob_calledOn ob_saved ob_many ob_width ob_numbers ob_moving), (ce_i9080 y ob_world fob_world)])) (kq G (va_A [(ce_X10 ob ob_thrown ob_world ob_images ob_hasImage ob_tape ob_taped ob_five ob_size ob_at ob_from ob_token ob_value ob_faultKind ob_faultPlace ob_fresh ob_parts ob_houses ob_houseMany ob_worthOf ob_byCall ob_over ob_bestSet ob_bestOver ob_bestWorth ob_row ob_tenDebts ob_tenMany ob_fewestBy ob_covered ob_queue ob_cameBy ob_parent ob_met ob_calls ob_callMany ob_calledOn ob_saved ob_many ob_width ob_numbers ob_moving), (ce_i9080 y ob_world fob_world)] sz)) (va_A [(ce_X10 ob ob_thrown ob_world ob_images ob_hasImage ob_tape ob_taped ob_five ob_size ob_at ob_from ob_token ob_value ob_faultKind ob_faultPlace ob_fresh ob_parts ob_houses ob_houseMany ob_worthOf ob_byCall ob_over ob_bestSet ob_bestOver ob_bestWorth ob_row ob_tenDebts ob_tenMany ob_fewestBy ob_covered ob_queue ob_cameBy ob_parent ob_met ob_calls ob_callMany ob_calledOn ob_saved ob_many ob_width ob_numbers ob_moving), (ce_i9080 y ob_world fob_world)] sz)) 0 0 (va_A [(ce_X10 ob ob_thrown ob_world ob_images ob_hasImage ob_tape ob_taped ob_five ob_size ob_at ob_from ob_token ob_value ob_faultKind ob_faultPlace ob_fresh ob_parts ob_houses ob_houseMany ob_worthOf ob_byCall ob_over ob_bestSet ob_bestOver ob_bestWorth ob_row ob_tenDebts ob_tenMany ob_fewestBy ob_covered ob_queue ob_cameBy ob_parent ob_met ob_calls ob_callMany ob_calledOn ob_saved ob_many ob_width ob_numbers ob_moving), (ce_i9080 y ob_world fob_world)] sz) := by
  refine Met.ofW (cc := cX10_tie) (maxL := 3) (ret := (some .int)) (by decide) rfl ?_
  intro p e s m args below meth c s₁ B hml hv
  obtain ⟨rfl, hsz, hP, hK, hD0⟩ := hv
  have hx := B.exec
  have hb := B.bytes
  have hr := B.returns
  have hw0 : ∀ w ∈ wAll, w.before _ s = true := fun w h => atoms_spec (ws := Cond.code yX10_tie cX10_tie 3 (some .int) :: wAll) B.pre w (List.mem_cons_of_mem _ h)
  have hown : s.vm.findClass RX10 = some m.cls := findClass_of_methodNamed B.named
  subst hsz
  have hD := hD0.self (sz := s.heap.size)
  generalize hAe : va_A [(ce_X10 ob ob_thrown ob_world ob_images ob_hasImage ob_tape ob_taped ob_five ob_size ob_at ob_from ob_token ob_value ob_faultKind ob_faultPlace ob_fresh ob_parts ob_houses ob_houseMany ob_worthOf ob_byCall ob_over ob_bestSet ob_bestOver ob_bestWorth ob_row ob_tenDebts ob_tenMany ob_fewestBy ob_covered ob_queue ob_cameBy ob_parent ob_met ob_calls ob_callMany ob_calledOn ob_saved ob_many ob_width ob_numbers ob_moving), (ce_i9080 y ob_world fob_world)] s.heap.size = A at hD ⊢
  have hA : ∀ q : Nat, s.heap.size ≤ q → A q := fun q h => by rw [← hAe]; exact Or.inr h
  have hS : va_S A s.heap s.heap [] := va_S.rf
  have hP : va_P G vwCl [(ce_X10 ob ob_thrown ob_world ob_images ob_hasImage ob_tape ob_taped ob_five ob_size ob_at ob_from ob_token ob_value ob_faultKind ob_faultPlace ob_fresh ob_parts ob_houses ob_houseMany ob_worthOf ob_byCall ob_over ob_bestSet ob_bestOver ob_bestWorth ob_row ob_tenDebts ob_tenMany ob_fewestBy ob_covered ob_queue ob_cameBy ob_parent ob_met ob_calls ob_callMany ob_calledOn ob_saved ob_many ob_width ob_numbers ob_moving), (ce_i9080 y ob_world fob_world)] s.heap := hP
  have hl := lv_entry ([.ref ob, .int a1, .int a2]) (n := 3) (Nat.le_of_ble_eq_true rfl)
  rw [lg_entry_eq]
  generalize (lg_sl ([.ref ob, .int a1, .int a2]) ++ List.replicate (3 - (lg_sl ([.ref ob, .int a1, .int a2])).length) Slot.unset).toArray = ls at hl ⊢
  have hl : lv_has ls 3 [(0, .ref ob), (1, .int a1), (2, .int a2)] := hl
  refine lv_aload_n hx hb dX10_tie_0 rfl (lv_at hl 0 rfl) ?_
  refine lv_iload_n hx hb dX10_tie_1 rfl (lv_at hl 1 rfl) ?_
  refine lv_iload_n hx hb dX10_tie_2 rfl (lv_at hl 2 rfl) ?_
  refine cVim (As := [.int a1, .int a2]) (rest := []) ⟨hx, hb, hml, hown, hw0⟩ hA hK hP hD hS [true, true] (sX10_areTwo l G y _ ob a1 a2 ob_thrown ob_world ob_images ob_hasImage ob_tape ob_taped ob_five ob_size ob_at ob_from ob_token ob_value ob_faultKind ob_faultPlace ob_fresh ob_parts ob_houses ob_houseMany ob_worthOf ob_byCall ob_over ob_bestSet ob_bestOver ob_bestWorth ob_row ob_tenDebts ob_tenMany ob_fewestBy ob_covered ob_queue ob_cameBy ob_parent ob_met ob_calls ob_callMany ob_calledOn ob_saved ob_many ob_width ob_numbers ob_moving fob_world p_fob_world p_ob_taped p_ob_size p_ob_at p_ob_from p_ob_token p_ob_value p_ob_faultKind p_ob_houseMany p_ob_bestSet p_ob_bestOver p_ob_tenMany p_ob_callMany) rfl ⟨(callB_of 2 hw0 (gA m_355) rfl rfl rfl (hw0 _ m_41) (hw0 _ m_364) cb_X10_areTwo ⟨Nat.le_of_ble_eq_true rfl, Nat.le_of_ble_eq_true rfl⟩), (hw0 _ m_365), (hw0 _ m_366)⟩ (ci := 10) (q := (RX10, TX10, 41)) rfl rfl rfl hl.1 (Nat.le_of_ble_eq_true rfl) dX10_tie_3 ⟨Nat.le_of_ble_eq_true rfl, Nat.le_of_ble_eq_true rfl⟩ (fun r_1001 w_1001 H locs hw_1001 hP hD hS => ?_)
  rcases hw_1001 with ⟨rfl, rfl⟩ | ⟨h_1002, h_1003, rfl, rfl⟩
  · skip
    obtain ⟨hP, hD⟩ : vPD G A H [(ce_X10 ob ob_thrown ob_world ob_images ob_hasImage ob_tape ob_taped ob_five ob_size ob_at ob_from ob_token ob_value ob_faultKind ob_faultPlace ob_fresh ob_parts ob_houses ob_houseMany ob_worthOf ob_byCall ob_over ob_bestSet ob_bestOver ob_bestWorth ob_row ob_tenDebts ob_tenMany ob_fewestBy ob_covered ob_queue ob_cameBy ob_parent ob_met ob_calls ob_callMany ob_calledOn ob_saved ob_many ob_width ob_numbers ob_moving), (ce_i9080 y ob_world fob_world)] := ⟨hP, hD⟩
    refine lv_if_ne (tgt := 12) hx hb dX10_tie_6 (by decide) (fun c9 => absurd (by decide) c9) (fun _ => ?_)
    refine lv_bipush (v := (-2)) hx hb dX10_tie_9 (by decide) ?_
    exact W.iret (v := (-2)) hx hb hr (fun t ht hW => ⟨⟨(-2), _, rfl, ⟨(-2), (bw (-2) (1) (bkc (x := (-2)) (c := -2) (by decide)) (by decide)), rfl, rfl⟩, by rw [ht]; exact hP, hD⟩, hS.F ht⟩) hS.2.2 dX10_tie_11
  · skip
    obtain ⟨hP, hD⟩ : vPD G A H [(ce_X10 ob ob_thrown ob_world ob_images ob_hasImage ob_tape ob_taped ob_five ob_size ob_at ob_from ob_token ob_value ob_faultKind ob_faultPlace ob_fresh ob_parts ob_houses ob_houseMany ob_worthOf ob_byCall ob_over ob_bestSet ob_bestOver ob_bestWorth ob_row ob_tenDebts ob_tenMany ob_fewestBy ob_covered ob_queue ob_cameBy ob_parent ob_met ob_calls ob_callMany ob_calledOn ob_saved ob_many ob_width ob_numbers ob_moving), (ce_i9080 y ob_world fob_world)] := ⟨hP, hD⟩
    refine lv_if_ne (tgt := 12) hx hb dX10_tie_6 (by decide) (fun _ => ?_) (fun c9 => absurd c9 (by decide))
    refine lv_aload_n hx hb dX10_tie_12 rfl (lv_at hl 0 rfl) ?_
    refine lv_iload_n hx hb dX10_tie_13 rfl (lv_at hl 1 rfl) ?_
    refine lv_iload_n hx hb dX10_tie_14 rfl (lv_at hl 2 rfl) ?_
    refine cVim (As := [.int a1, .int a2]) (rest := []) ⟨hx, hb, hml, hown, hw0⟩ hA hK hP hD hS [true, true] (sX10_areKnown l G y _ ob a1 a2 ob_thrown ob_world ob_images ob_hasImage ob_tape ob_taped ob_five ob_size ob_at ob_from ob_token ob_value ob_faultKind ob_faultPlace ob_fresh ob_parts ob_houses ob_houseMany ob_worthOf ob_byCall ob_over ob_bestSet ob_bestOver ob_bestWorth ob_row ob_tenDebts ob_tenMany ob_fewestBy ob_covered ob_queue ob_cameBy ob_parent ob_met ob_calls ob_callMany ob_calledOn ob_saved ob_many ob_width ob_numbers ob_moving fob_world p_fob_world p_ob_taped p_ob_size p_ob_at p_ob_from p_ob_token p_ob_value p_ob_faultKind p_ob_houseMany p_ob_bestSet p_ob_bestOver p_ob_tenMany p_ob_callMany h_1002 h_1003) rfl ⟨(callB_of 2 hw0 (gA m_351) rfl rfl rfl (hw0 _ m_41) (hw0 _ m_379) cb_X10_areKnown ⟨Nat.le_of_ble_eq_true rfl, Nat.le_of_ble_eq_true rfl⟩), (hw0 _ m_380), (hw0 _ m_381)⟩ (ci := 10) (q := (RX10, TX10, 41)) rfl rfl rfl hl.1 (Nat.le_of_ble_eq_true rfl) dX10_tie_15 ⟨Nat.le_of_ble_eq_true rfl, Nat.le_of_ble_eq_true rfl⟩ (fun r_1004 w_1004 H locs hw_1004 hP hD hS => ?_)
    rcases hw_1004 with ⟨rfl, rfl⟩ | ⟨rfl, rfl⟩
    · skip
      obtain ⟨hP, hD⟩ : vPD G A H [(ce_X10 ob ob_thrown ob_world ob_images ob_hasImage ob_tape ob_taped ob_five ob_size ob_at ob_from ob_token ob_value ob_faultKind ob_faultPlace ob_fresh ob_parts ob_houses ob_houseMany ob_worthOf ob_byCall ob_over ob_bestSet ob_bestOver ob_bestWorth ob_row ob_tenDebts ob_tenMany ob_fewestBy ob_covered ob_queue ob_cameBy ob_parent ob_met ob_calls ob_callMany ob_calledOn ob_saved ob_many ob_width ob_numbers ob_moving), (ce_i9080 y ob_world fob_world)] := ⟨hP, hD⟩
      refine lv_if_ne (tgt := 23) hx hb dX10_tie_18 (by decide) (fun c9 => absurd (by decide) c9) (fun _ => ?_)
      refine lv_iconst (v := (-1)) hx hb dX10_tie_21 (by decide) ?_
      exact W.iret (v := (-1)) hx hb hr (fun t ht hW => ⟨⟨(-1), _, rfl, ⟨(-1), (bw (-2) (1) (bkc (x := (-1)) (c := -1) (by decide)) (by decide)), rfl, rfl⟩, by rw [ht]; exact hP, hD⟩, hS.F ht⟩) hS.2.2 dX10_tie_22
    · skip
      obtain ⟨hP, hD⟩ : vPD G A H [(ce_X10 ob ob_thrown ob_world ob_images ob_hasImage ob_tape ob_taped ob_five ob_size ob_at ob_from ob_token ob_value ob_faultKind ob_faultPlace ob_fresh ob_parts ob_houses ob_houseMany ob_worthOf ob_byCall ob_over ob_bestSet ob_bestOver ob_bestWorth ob_row ob_tenDebts ob_tenMany ob_fewestBy ob_covered ob_queue ob_cameBy ob_parent ob_met ob_calls ob_callMany ob_calledOn ob_saved ob_many ob_width ob_numbers ob_moving), (ce_i9080 y ob_world fob_world)] := ⟨hP, hD⟩
      refine lv_if_ne (tgt := 23) hx hb dX10_tie_18 (by decide) (fun _ => ?_) (fun c9 => absurd c9 (by decide))
      refine lv_aload_n hx hb dX10_tie_23 rfl (lv_at hl 0 rfl) ?_
      refine lv_iload_n hx hb dX10_tie_24 rfl (lv_at hl 1 rfl) ?_
      refine lv_iload_n hx hb dX10_tie_25 rfl (lv_at hl 1 rfl) ?_
      refine lv_iload_n hx hb dX10_tie_26 rfl (lv_at hl 2 rfl) ?_
      refine cVim (As := [.int a1, .int a1, .int a2]) (rest := []) ⟨hx, hb, hml, hown, hw0⟩ hA hK hP hD hS [true, true] (sX10_hangs l G y _ ob a1 a1 a2 ob_thrown ob_world ob_images ob_hasImage ob_tape ob_taped ob_five ob_size ob_at ob_from ob_token ob_value ob_faultKind ob_faultPlace ob_fresh ob_parts ob_houses ob_houseMany ob_worthOf ob_byCall ob_over ob_bestSet ob_bestOver ob_bestWorth ob_row ob_tenDebts ob_tenMany ob_fewestBy ob_covered ob_queue ob_cameBy ob_parent ob_met ob_calls ob_callMany ob_calledOn ob_saved ob_many ob_width ob_numbers ob_moving fob_world p_fob_world p_ob_taped p_ob_size p_ob_at p_ob_from p_ob_token p_ob_value p_ob_faultKind p_ob_houseMany p_ob_bestSet p_ob_bestOver p_ob_tenMany p_ob_callMany h_1002) rfl ⟨(callB_of 3 hw0 (gA m_511) rfl rfl rfl (hw0 _ m_41) (hw0 _ m_444) cb_X10_hangs ⟨Nat.le_of_ble_eq_true rfl, Nat.le_of_ble_eq_true rfl⟩), (hw0 _ m_445), (hw0 _ m_446)⟩ (ci := 10) (q := (RX10, TX10, 41)) rfl rfl rfl hl.1 (Nat.le_of_ble_eq_true rfl) dX10_tie_27 ⟨Nat.le_of_ble_eq_true rfl, Nat.le_of_ble_eq_true rfl⟩ (fun r_1005 w_1005 H locs hw_1005 hP hD hS => ?_)
      obtain ⟨v_1006, bv_1006, er_1005, rfl⟩ := hw_1005
      subst r_1005
      obtain ⟨hP, hD⟩ : vPD G A H [(ce_X10 ob ob_thrown ob_world ob_images ob_hasImage ob_tape ob_taped ob_five ob_size ob_at ob_from ob_token ob_value ob_faultKind ob_faultPlace ob_fresh ob_parts ob_houses ob_houseMany ob_worthOf ob_byCall ob_over ob_bestSet ob_bestOver ob_bestWorth ob_row ob_tenDebts ob_tenMany ob_fewestBy ob_covered ob_queue ob_cameBy ob_parent ob_met ob_calls ob_callMany ob_calledOn ob_saved ob_many ob_width ob_numbers ob_moving), (ce_i9080 y ob_world fob_world)] := ⟨hP, hD⟩
      refine lv_iload_n hx hb dX10_tie_30 rfl (lv_at hl 2 rfl) ?_
      refine cSim (As := [.int v_1006, .int a2]) (rest := []) ⟨hx, hb, hml, hown, hw0⟩ hA hK hP hD hS [] (sX10_holds l G y _ v_1006 a2 ) rfl ⟨(callB_of 2 hw0 (gA m_512) rfl rfl rfl (hw0 _ m_41) (hw0 _ m_353) cb_X10_holds ⟨Nat.le_of_ble_eq_true rfl, Nat.le_of_ble_eq_true rfl⟩), (hw0 _ m_354)⟩ rfl hl.1 (Nat.le_of_ble_eq_true rfl) dX10_tie_31 ⟨Nat.le_of_ble_eq_true rfl, Nat.le_of_ble_eq_true rfl⟩ (fun r_1007 w_1007 H locs hw_1007 hP hD hS => ?_)
      rcases hw_1007 with ⟨rfl, rfl⟩ | ⟨rfl, rfl⟩
      · skip
        obtain ⟨hP, hD⟩ : vPD G A H [(ce_X10 ob ob_thrown ob_world ob_images ob_hasImage ob_tape ob_taped ob_five ob_size ob_at ob_from ob_token ob_value ob_faultKind ob_faultPlace ob_fresh ob_parts ob_houses ob_houseMany ob_worthOf ob_byCall ob_over ob_bestSet ob_bestOver ob_bestWorth ob_row ob_tenDebts ob_tenMany ob_fewestBy ob_covered ob_queue ob_cameBy ob_parent ob_met ob_calls ob_callMany ob_calledOn ob_saved ob_many ob_width ob_numbers ob_moving), (ce_i9080 y ob_world fob_world)] := ⟨hP, hD⟩
        refine lv_if_eq (tgt := 41) hx hb dX10_tie_34 (by decide) (fun _ => ?_) (fun c9 => absurd (by decide) c9)
        refine lv_iconst (v := 1) hx hb dX10_tie_41 (by decide) ?_
        exact W.iret (v := 1) hx hb hr (fun t ht hW => ⟨⟨1, _, rfl, ⟨1, (bw (-2) (1) (bkc (x := 1) (c := 1) (by decide)) (by decide)), rfl, rfl⟩, by rw [ht]; exact hP, hD⟩, hS.F ht⟩) hS.2.2 dX10_tie_42
      · skip
        obtain ⟨hP, hD⟩ : vPD G A H [(ce_X10 ob ob_thrown ob_world ob_images ob_hasImage ob_tape ob_taped ob_five ob_size ob_at ob_from ob_token ob_value ob_faultKind ob_faultPlace ob_fresh ob_parts ob_houses ob_houseMany ob_worthOf ob_byCall ob_over ob_bestSet ob_bestOver ob_bestWorth ob_row ob_tenDebts ob_tenMany ob_fewestBy ob_covered ob_queue ob_cameBy ob_parent ob_met ob_calls ob_callMany ob_calledOn ob_saved ob_many ob_width ob_numbers ob_moving), (ce_i9080 y ob_world fob_world)] := ⟨hP, hD⟩
        refine lv_if_eq (tgt := 41) hx hb dX10_tie_34 (by decide) (fun c9 => absurd c9 (by decide)) (fun _ => ?_)
        refine lv_iconst (v := 0) hx hb dX10_tie_37 (by decide) ?_
        refine lv_goto (tgt := 42) hx hb dX10_tie_38 (by decide) ?_
        exact W.iret (v := 0) hx hb hr (fun t ht hW => ⟨⟨0, _, rfl, ⟨0, (bw (-2) (1) (bkc (x := 0) (c := 0) (by decide)) (by decide)), rfl, rfl⟩, by rw [ht]; exact hP, hD⟩, hS.F ht⟩) hS.2.2 dX10_tie_42

set_option maxHeartbeats 4000000 in
set_option maxRecDepth 100000 in
theorem sX10_callsAll (l : Launch) (G : va_G) (y : Nat → ClassId) (sz : Nat) (ob : Nat) (ob_thrown : Int32) (ob_world : Nat) (ob_images : Nat) (ob_hasImage : Nat) (ob_tape : Nat) (ob_taped : Int32) (ob_five : Nat) (ob_size : Int32) (ob_at : Int32) (ob_from : Int32) (ob_token : Int32) (ob_value : Int32) (ob_faultKind : Int32) (ob_faultPlace : Int32) (ob_fresh : Nat) (ob_parts : Nat) (ob_houses : Nat) (ob_houseMany : Int32) (ob_worthOf : Nat) (ob_byCall : Nat) (ob_over : Nat) (ob_bestSet : Int32) (ob_bestOver : Int32) (ob_bestWorth : Int32) (ob_row : Nat) (ob_tenDebts : Nat) (ob_tenMany : Int32) (ob_fewestBy : Nat) (ob_covered : Nat) (ob_queue : Nat) (ob_cameBy : Nat) (ob_parent : Nat) (ob_met : Nat) (ob_calls : Nat) (ob_callMany : Int32) (ob_calledOn : Nat) (ob_saved : Nat) (ob_many : Nat) (ob_width : Nat) (ob_numbers : Nat) (ob_moving : Nat) (fob_world : Nat → Int32) (fob_calledOn : Nat → Int32) (p_fob_world : RWw fob_world) (p_ob_taped : (0 : Int) ≤ ob_taped.toInt ∧ ob_taped.toInt ≤ 1400) (p_ob_size : (0 : Int) ≤ ob_size.toInt ∧ ob_size.toInt ≤ 1400) (p_ob_at : (0 : Int) ≤ ob_at.toInt ∧ ob_at.toInt ≤ 1400) (p_ob_from : (0 : Int) ≤ ob_from.toInt ∧ ob_from.toInt ≤ 1400) (p_ob_token : (0 : Int) ≤ ob_token.toInt ∧ ob_token.toInt ≤ 4) (p_ob_value : (0 : Int) ≤ ob_value.toInt ∧ ob_value.toInt ≤ 9999) (p_ob_faultKind : (0 : Int) ≤ ob_faultKind.toInt ∧ ob_faultKind.toInt ≤ 3) (p_ob_houseMany : (0 : Int) ≤ ob_houseMany.toInt ∧ ob_houseMany.toInt ≤ 10) (p_ob_bestSet : (0 : Int) ≤ ob_bestSet.toInt ∧ ob_bestSet.toInt ≤ 1023) (p_ob_bestOver : (-1 : Int) ≤ ob_bestOver.toInt ∧ ob_bestOver.toInt ≤ 180) (p_ob_tenMany : (0 : Int) ≤ ob_tenMany.toInt ∧ ob_tenMany.toInt ≤ 10) (p_ob_callMany : (0 : Int) ≤ ob_callMany.toInt ∧ ob_callMany.toInt ≤ 16) (p_fob_calledOn : ∀ i, (0 : Int) ≤ (fob_calledOn i).toInt ∧ (fob_calledOn i).toInt ≤ 65535) : Met l yX10_callsAll (Cond.code yX10_callsAll cX10_callsAll 2 none :: wAll) ({ frames := 1, cells := 0, slots := 0, locals := 25 }) (va_Pc [.ref ob] (kp G y sz [(ce_X10 ob ob_thrown ob_world ob_images ob_hasImage ob_tape ob_taped ob_five ob_size ob_at ob_from ob_token ob_value ob_faultKind ob_faultPlace ob_fresh ob_parts ob_houses ob_houseMany ob_worthOf ob_byCall ob_over ob_bestSet ob_bestOver ob_bestWorth ob_row ob_tenDebts ob_tenMany ob_fewestBy ob_covered ob_queue ob_cameBy ob_parent ob_met ob_calls ob_callMany ob_calledOn ob_saved ob_many ob_width ob_numbers ob_moving), (ce_i9080 y ob_world fob_world), (ce_i16 y ob_calledOn fob_calledOn)])) (va_Qv (fun (w : va_W) => (∃ (f_1333 : Nat → Int32), (∀ i, (0 : Int) ≤ (f_1333 i).toInt ∧ (f_1333 i).toInt ≤ 65535) ∧ w = [(ce_X10 ob ob_thrown ob_world ob_images ob_hasImage ob_tape ob_taped ob_five ob_size ob_at ob_from ob_token ob_value ob_faultKind ob_faultPlace ob_fresh ob_parts ob_houses ob_houseMany ob_worthOf ob_byCall ob_over ob_bestSet ob_bestOver ob_bestWorth ob_row ob_tenDebts ob_tenMany ob_fewestBy ob_covered ob_queue ob_cameBy ob_parent ob_met ob_calls ob_callMany ob_calledOn ob_saved ob_many ob_width ob_numbers ob_moving), (ce_i9080 y ob_world fob_world), (ce_i16 y ob_calledOn f_1333)])) (kq G (va_A [(ce_X10 ob ob_thrown ob_world ob_images ob_hasImage ob_tape ob_taped ob_five ob_size ob_at ob_from ob_token ob_value ob_faultKind ob_faultPlace ob_fresh ob_parts ob_houses ob_houseMany ob_worthOf ob_byCall ob_over ob_bestSet ob_bestOver ob_bestWorth ob_row ob_tenDebts ob_tenMany ob_fewestBy ob_covered ob_queue ob_cameBy ob_parent ob_met ob_calls ob_callMany ob_calledOn ob_saved ob_many ob_width ob_numbers ob_moving), (ce_i9080 y ob_world fob_world), (ce_i16 y ob_calledOn fob_calledOn)] sz)) (va_A [(ce_X10 ob ob_thrown ob_world ob_images ob_hasImage ob_tape ob_taped ob_five ob_size ob_at ob_from ob_token ob_value ob_faultKind ob_faultPlace ob_fresh ob_parts ob_houses ob_houseMany ob_worthOf ob_byCall ob_over ob_bestSet ob_bestOver ob_bestWorth ob_row ob_tenDebts ob_tenMany ob_fewestBy ob_covered ob_queue ob_cameBy ob_parent ob_met ob_calls ob_callMany ob_calledOn ob_saved ob_many ob_width ob_numbers ob_moving), (ce_i9080 y ob_world fob_world), (ce_i16 y ob_calledOn fob_calledOn)] sz)) 0 0 (va_A [(ce_X10 ob ob_thrown ob_world ob_images ob_hasImage ob_tape ob_taped ob_five ob_size ob_at ob_from ob_token ob_value ob_faultKind ob_faultPlace ob_fresh ob_parts ob_houses ob_houseMany ob_worthOf ob_byCall ob_over ob_bestSet ob_bestOver ob_bestWorth ob_row ob_tenDebts ob_tenMany ob_fewestBy ob_covered ob_queue ob_cameBy ob_parent ob_met ob_calls ob_callMany ob_calledOn ob_saved ob_many ob_width ob_numbers ob_moving), (ce_i9080 y ob_world fob_world), (ce_i16 y ob_calledOn fob_calledOn)] sz) := by
  refine Met.ofW (cc := cX10_callsAll) (maxL := 2) (ret := none) (by decide) rfl ?_
  intro p e s m args below meth c s₁ B hml hv
  obtain ⟨rfl, hsz, hP, hK, hD0⟩ := hv
  have hx := B.exec
  have hb := B.bytes
  have hr := B.returns
  have hw0 : ∀ w ∈ wAll, w.before _ s = true := fun w h => atoms_spec (ws := Cond.code yX10_callsAll cX10_callsAll 2 none :: wAll) B.pre w (List.mem_cons_of_mem _ h)
  have hown : s.vm.findClass RX10 = some m.cls := findClass_of_methodNamed B.named
  subst hsz
  have hD := hD0.self (sz := s.heap.size)
  generalize hAe : va_A [(ce_X10 ob ob_thrown ob_world ob_images ob_hasImage ob_tape ob_taped ob_five ob_size ob_at ob_from ob_token ob_value ob_faultKind ob_faultPlace ob_fresh ob_parts ob_houses ob_houseMany ob_worthOf ob_byCall ob_over ob_bestSet ob_bestOver ob_bestWorth ob_row ob_tenDebts ob_tenMany ob_fewestBy ob_covered ob_queue ob_cameBy ob_parent ob_met ob_calls ob_callMany ob_calledOn ob_saved ob_many ob_width ob_numbers ob_moving), (ce_i9080 y ob_world fob_world), (ce_i16 y ob_calledOn fob_calledOn)] s.heap.size = A at hD ⊢
  have hA : ∀ q : Nat, s.heap.size ≤ q → A q := fun q h => by rw [← hAe]; exact Or.inr h
  have hS : va_S A s.heap s.heap [] := va_S.rf
  have hP : va_P G vwCl [(ce_X10 ob ob_thrown ob_world ob_images ob_hasImage ob_tape ob_taped ob_five ob_size ob_at ob_from ob_token ob_value ob_faultKind ob_faultPlace ob_fresh ob_parts ob_houses ob_houseMany ob_worthOf ob_byCall ob_over ob_bestSet ob_bestOver ob_bestWorth ob_row ob_tenDebts ob_tenMany ob_fewestBy ob_covered ob_queue ob_cameBy ob_parent ob_met ob_calls ob_callMany ob_calledOn ob_saved ob_many ob_width ob_numbers ob_moving), (ce_i9080 y ob_world fob_world), (ce_i16 y ob_calledOn fob_calledOn)] s.heap := hP
  have hl := lv_entry ([.ref ob]) (n := 2) (Nat.le_of_ble_eq_true rfl)
  rw [lg_entry_eq]
  generalize (lg_sl ([.ref ob]) ++ List.replicate (2 - (lg_sl ([.ref ob])).length) Slot.unset).toArray = ls at hl ⊢
  have hl : lv_has ls 2 [(0, .ref ob)] := hl
  refine lv_iconst (v := 0) hx hb dX10_callsAll_0 (by decide) ?_
  refine lv_istore_n (lv' := [(1, .int 0), (0, .ref ob)]) hx hb dX10_callsAll_1 rfl hl (by decide) rfl (fun ls hl => ?_)
  refine loopX (fun n H locs ls st => ∃ (v_1048 : Int32) (f_1049 : Nat → Int32), (16 - v_1048.toInt).toNat = n ∧ ((0 : Int) ≤ v_1048.toInt ∧ v_1048.toInt ≤ 16) ∧ (∀ i, (0 : Int) ≤ (f_1049 i).toInt ∧ (f_1049 i).toInt ≤ 65535) ∧ st = [] ∧ vPD G A H [(ce_X10 ob ob_thrown ob_world ob_images ob_hasImage ob_tape ob_taped ob_five ob_size ob_at ob_from ob_token ob_value ob_faultKind ob_faultPlace ob_fresh ob_parts ob_houses ob_houseMany ob_worthOf ob_byCall ob_over ob_bestSet ob_bestOver ob_bestWorth ob_row ob_tenDebts ob_tenMany ob_fewestBy ob_covered ob_queue ob_cameBy ob_parent ob_met ob_calls ob_callMany ob_calledOn ob_saved ob_many ob_width ob_numbers ob_moving), (ce_i9080 y ob_world fob_world), (ce_i16 y ob_calledOn f_1049)] ∧ va_S A s.heap H locs ∧ lv_has ls 2 [(1, .int v_1048), (0, .ref ob)]) ?_ (n := (16 - (0 : Int32).toInt).toNat) ⟨0, fob_calledOn, rfl, (bw (0) (16) (bkc (x := 0) (c := 0) (by decide)) (by decide)), p_fob_calledOn, rfl, ⟨hP, hD⟩, hS, lv_sub hl [0, 1] rfl⟩
  rintro n ih_1052 H locs ls st ⟨v_1048, f_1049, hn_1052, bv_1048, bf_1049, rfl, ⟨hP, hD⟩, hS, hl⟩
  refine lv_iload_n hx hb dX10_callsAll_2 rfl (lv_at hl 0 rfl) ?_
  refine lv_bipush (v := 16) hx hb dX10_callsAll_3 (by decide) ?_
  refine lv_icmp_ge (tgt := 21) hx hb dX10_callsAll_5 (by decide) (fun c_1053 => ?_) (fun c_1053 => ?_)
  · skip
    have nc_1053 := nb_le (16) (16) c_1053 (bkc (x := 16) (c := 16) (by decide)) bv_1048 (by decide)
    refine lv_iconst (v := 0) hx hb dX10_callsAll_21 (by decide) ?_
    refine lv_istore_n (lv' := [(1, .int 0), (0, .ref ob)]) hx hb dX10_callsAll_22 rfl hl (by decide) rfl (fun ls hl => ?_)
    refine loopX (fun n H locs ls st => ∃ (v_1579 : Int32) (f_1580 : Nat → Int32), (600 - v_1579.toInt).toNat = n ∧ ((0 : Int) ≤ v_1579.toInt ∧ v_1579.toInt ≤ 600) ∧ (∀ i, (0 : Int) ≤ (f_1580 i).toInt ∧ (f_1580 i).toInt ≤ 65535) ∧ st = [] ∧ vPD G A H [(ce_X10 ob ob_thrown ob_world ob_images ob_hasImage ob_tape ob_taped ob_five ob_size ob_at ob_from ob_token ob_value ob_faultKind ob_faultPlace ob_fresh ob_parts ob_houses ob_houseMany ob_worthOf ob_byCall ob_over ob_bestSet ob_bestOver ob_bestWorth ob_row ob_tenDebts ob_tenMany ob_fewestBy ob_covered ob_queue ob_cameBy ob_parent ob_met ob_calls ob_callMany ob_calledOn ob_saved ob_many ob_width ob_numbers ob_moving), (ce_i9080 y ob_world fob_world), (ce_i16 y ob_calledOn f_1580)] ∧ va_S A s.heap H locs ∧ lv_has ls 2 [(1, .int v_1579), (0, .ref ob)]) ?_ (n := (600 - (0 : Int32).toInt).toNat) ⟨0, f_1049, rfl, (bw (0) (600) (bkc (x := 0) (c := 0) (by decide)) (by decide)), bf_1049, rfl, ⟨hP, hD⟩, hS, lv_sub hl [0, 1] rfl⟩
    rintro n ih_1622 H locs ls st ⟨v_1579, f_1580, hn_1622, bv_1579, bf_1580, rfl, ⟨hP, hD⟩, hS, hl⟩
    refine lv_iload_n hx hb dX10_callsAll_23 rfl (lv_at hl 0 rfl) ?_
    refine lv_aload_n hx hb dX10_callsAll_24 rfl (lv_at hl 1 rfl) ?_
    refine va_get (D := G) (ci := 10) (v := .ref ob_world) (C := RX10) (T := TX10) (N := 41) hx hb hw0 inA_wsX100 hown hK.1 hP 0 rfl rfl 1 (by decide) (hw0 _ m_352) (fun _ h9 => h9) rfl dX10_callsAll_25 ?_
    refine lv_bipush (v := 8) hx hb dX10_callsAll_28 (by decide) ?_
    refine va_iald hx hb hK.1 hP 1 1 rfl rfl (vi (bkc (x := 8) (c := 8) (by decide)) (by decide)) dX10_callsAll_30 ?_
    refine lv_topi (fun v_1623 ev_1623 => ?_)
    have bv_1623 : (0 : Int) ≤ v_1623.toInt ∧ v_1623.toInt ≤ 600 := rdk ev_1623 (p_fob_world).1.1 (by decide)
    refine lv_icmp_ge (tgt := 103) hx hb dX10_callsAll_31 (by decide) (fun c_1624 => ?_) (fun c_1624 => ?_)
    · skip
      have nc_1624 := nb_le (600) (0) c_1624 bv_1623 bv_1579 (by decide)
      exact W.vret hx hb hr (fun t ht hW => ⟨⟨_, rfl, ⟨f_1580, bf_1580, rfl⟩, by rw [ht]; exact hP, hD⟩, hS.F ht⟩) hS.2.2 dX10_callsAll_103
    · skip
      have nc_1624 := nb_nle (599) (1) c_1624 bv_1579 bv_1623 (by decide)
      refine lv_aload_n hx hb dX10_callsAll_34 rfl (lv_at hl 1 rfl) ?_
      refine va_get (D := G) (ci := 10) (v := .ref ob_world) (C := RX10) (T := TX10) (N := 41) hx hb hw0 inA_wsX100 hown hK.1 hP 0 rfl rfl 1 (by decide) (hw0 _ m_352) (fun _ h9 => h9) rfl dX10_callsAll_35 ?_
      refine lv_sipush (v := 6680) hx hb dX10_callsAll_38 (by decide) ?_
      refine lv_iconst (v := 4) hx hb dX10_callsAll_41 (by decide) ?_
      refine lv_iload_n hx hb dX10_callsAll_42 rfl (lv_at hl 0 rfl) ?_
      refine lv_imul hx hb dX10_callsAll_43 ?_
      refine lv_topi (fun v_1625 ev_1625 => ?_)
      have qv_1625 := ba_mul 4 (ev_1625.trans (Int32.mul_comm _ _)) nc_1624.1 (by decide) (by decide) (by decide)
      have bv_1625 : (0 : Int) ≤ v_1625.toInt ∧ v_1625.toInt ≤ 2396 := qv_1625.2
      refine lv_iadd hx hb dX10_callsAll_44 ?_
      refine lv_topi (fun v_1626 ev_1626 => ?_)
      have qv_1626 := ba_add ev_1626 (bkc (x := 6680) (c := 6680) (by decide)) bv_1625 (by decide)
      have bv_1626 : (6680 : Int) ≤ v_1626.toInt ∧ v_1626.toInt ≤ 9076 := bq_add qv_1626 (bkc (x := 6680) (c := 6680) (by decide)) bv_1625 _ _ (by decide)
      have qv_1626 : v_1626.toInt = (6680) + v_1625.toInt := qv_1626
      refine lv_iconst (v := 2) hx hb dX10_callsAll_45 (by decide) ?_
      refine lv_iadd hx hb dX10_callsAll_46 ?_
      refine lv_topi (fun v_1627 ev_1627 => ?_)
      have qv_1627 := ba_add ev_1627 bv_1626 (bkc (x := 2) (c := 2) (by decide)) (by decide)
      have bv_1627 : (6682 : Int) ≤ v_1627.toInt ∧ v_1627.toInt ≤ 9078 := bq_add qv_1627 bv_1626 (bkc (x := 2) (c := 2) (by decide)) _ _ (by decide)
      have qv_1627 : v_1627.toInt = v_1626.toInt + (2) := qv_1627
      refine va_iald hx hb hK.1 hP 1 1 rfl rfl (vi bv_1627 (by decide)) dX10_callsAll_47 ?_
      refine lv_topi (fun v_1628 ev_1628 => ?_)
      refine lv_i2l hx hb dX10_callsAll_48 rfl ?_
      refine lv_ldc2 (own := RX10) (v := 2) hx hb hown (hw0 _ m_360) dX10_callsAll_49 ?_
      refine lv_ldc2 (own := RX10) (v := 3) hx hb hown (hw0 _ m_398) dX10_callsAll_52 ?_
      refine cutW 97 (fun H locs ls st => ∃ (f_1646 : Nat → Int32), (∀ i, (0 : Int) ≤ (f_1646 i).toInt ∧ (f_1646 i).toInt ≤ 65535) ∧ st = [] ∧ vPD G A H [(ce_X10 ob ob_thrown ob_world ob_images ob_hasImage ob_tape ob_taped ob_five ob_size ob_at ob_from ob_token ob_value ob_faultKind ob_faultPlace ob_fresh ob_parts ob_houses ob_houseMany ob_worthOf ob_byCall ob_over ob_bestSet ob_bestOver ob_bestWorth ob_row ob_tenDebts ob_tenMany ob_fewestBy ob_covered ob_queue ob_cameBy ob_parent ob_met ob_calls ob_callMany ob_calledOn ob_saved ob_many ob_width ob_numbers ob_moving), (ce_i9080 y ob_world fob_world), (ce_i16 y ob_calledOn f_1646)] ∧ va_S A s.heap H locs ∧ lv_has ls 2 [(1, .int v_1579), (0, .ref ob)]) ?_ (fun J_97_1646 => ?_)
      · rintro H locs ls st ⟨f_1646, bf_1646, rfl, ⟨hP, hD⟩, hS, hl⟩
        obtain ⟨v_1647, ev_1647⟩ : ∃ z : Int32, z = v_1579 + 1 := ⟨_, rfl⟩
        have qv_1647 := ba_add ev_1647 nc_1624.1 (bkc (x := 1) (c := 1) (by decide)) (by decide)
        have bv_1647 : (1 : Int) ≤ v_1647.toInt ∧ v_1647.toInt ≤ 600 := bq_add qv_1647 nc_1624.1 (bkc (x := 1) (c := 1) (by decide)) _ _ (by decide)
        have qv_1647 : v_1647.toInt = v_1579.toInt + (1) := qv_1647
        refine lv_iinc (v := v_1647) (lv' := [(1, .int v_1647), (0, .ref ob)]) hx hb dX10_callsAll_97 hl (k := 0) rfl (ev_1647.symm) (by decide) rfl (fun ls hl => ?_)
        refine lv_goto (tgt := 23) hx hb dX10_callsAll_100 (by decide) ?_
        exact ih_1622 _ (ml_inc (hi := 600) hn_1622 qv_1647 (by decide) ((bw (0) (600) bv_1647 (by decide))).2) _ _ _ _ ⟨v_1647, f_1646, rfl, (bw (0) (600) bv_1647 (by decide)), bf_1646, rfl, ⟨hP, hD⟩, hS, lv_sub hl [0, 1] rfl⟩
      · skip
        refine cSim (As := [.long (v_1628).toInt64, .long 2, .long 3]) (rest := []) ⟨hx, hb, hml, hown, hw0⟩ hA hK hP hD hS [] (sX10_in l G y _ ((v_1628).toInt64) 2 3 ) rfl ⟨(callB_of 3 hw0 (gA m_516) rfl rfl rfl (hw0 _ m_41) (hw0 _ m_345) cb_X10_in ⟨Nat.le_of_ble_eq_true rfl, Nat.le_of_ble_eq_true rfl⟩), (hw0 _ m_346)⟩ rfl hl.1 (Nat.le_of_ble_eq_true rfl) dX10_callsAll_55 ⟨Nat.le_of_ble_eq_true rfl, Nat.le_of_ble_eq_true rfl⟩ (fun r_1648 w_1648 H locs hw_1648 hP hD hS => ?_)
        rcases hw_1648 with ⟨h_1649, rfl, rfl⟩ | ⟨h_1650, rfl, rfl⟩
        · skip
          have h_1651 : v_1628.toInt < (2 : Int) ∨ (3 : Int) < v_1628.toInt := in_n h_1649 (Int32.toInt_toInt64 _) (by decide) (by decide)
          obtain ⟨hP, hD⟩ : vPD G A H [(ce_X10 ob ob_thrown ob_world ob_images ob_hasImage ob_tape ob_taped ob_five ob_size ob_at ob_from ob_token ob_value ob_faultKind ob_faultPlace ob_fresh ob_parts ob_houses ob_houseMany ob_worthOf ob_byCall ob_over ob_bestSet ob_bestOver ob_bestWorth ob_row ob_tenDebts ob_tenMany ob_fewestBy ob_covered ob_queue ob_cameBy ob_parent ob_met ob_calls ob_callMany ob_calledOn ob_saved ob_many ob_width ob_numbers ob_moving), (ce_i9080 y ob_world fob_world), (ce_i16 y ob_calledOn f_1580)] := ⟨hP, hD⟩
          refine lv_if_eq (tgt := 97) hx hb dX10_callsAll_58 (by decide) (fun _ => ?_) (fun c9 => absurd (by decide) c9)
          exact J_97_1646 _ _ _ _ ⟨f_1580, bf_1580, rfl, ⟨hP, hD⟩, hS, lv_sub hl [0, 1] rfl⟩
        · skip
          have h_1652 : (2 : Int) ≤ v_1628.toInt ∧ v_1628.toInt ≤ (3 : Int) := in_y h_1650 (Int32.toInt_toInt64 _) (by decide) (by decide)
          have h_1653_0 := (btop v_1628)
          have h_1653_1 := True.intro
          have h_1653_2 := True.intro
          have h_1653 : (2 : Int) ≤ v_1628.toInt ∧ v_1628.toInt ≤ 3 := by omega
          obtain ⟨hP, hD⟩ : vPD G A H [(ce_X10 ob ob_thrown ob_world ob_images ob_hasImage ob_tape ob_taped ob_five ob_size ob_at ob_from ob_token ob_value ob_faultKind ob_faultPlace ob_fresh ob_parts ob_houses ob_houseMany ob_worthOf ob_byCall ob_over ob_bestSet ob_bestOver ob_bestWorth ob_row ob_tenDebts ob_tenMany ob_fewestBy ob_covered ob_queue ob_cameBy ob_parent ob_met ob_calls ob_callMany ob_calledOn ob_saved ob_many ob_width ob_numbers ob_moving), (ce_i9080 y ob_world fob_world), (ce_i16 y ob_calledOn f_1580)] := ⟨hP, hD⟩
          refine lv_if_eq (tgt := 97) hx hb dX10_callsAll_58 (by decide) (fun c9 => absurd c9 (by decide)) (fun _ => ?_)
          refine lv_aload_n hx hb dX10_callsAll_61 rfl (lv_at hl 1 rfl) ?_
          refine va_get (D := G) (ci := 10) (v := .ref ob_calledOn) (C := RX10) (T := TX10) (N := 41) hx hb hw0 inA_wsX100 hown hK.1 hP 0 rfl rfl 35 (by decide) (hw0 _ m_397) (fun _ h9 => h9) rfl dX10_callsAll_62 ?_
          refine lv_aload_n hx hb dX10_callsAll_65 rfl (lv_at hl 1 rfl) ?_
          refine va_get (D := G) (ci := 10) (v := .ref ob_world) (C := RX10) (T := TX10) (N := 41) hx hb hw0 inA_wsX100 hown hK.1 hP 0 rfl rfl 1 (by decide) (hw0 _ m_352) (fun _ h9 => h9) rfl dX10_callsAll_66 ?_
          refine lv_sipush (v := 6680) hx hb dX10_callsAll_69 (by decide) ?_
          refine lv_iconst (v := 4) hx hb dX10_callsAll_72 (by decide) ?_
          refine lv_iload_n hx hb dX10_callsAll_73 rfl (lv_at hl 0 rfl) ?_
          refine lv_imul hx hb dX10_callsAll_74 ?_
          refine lv_topi (fun v_1654 ev_1654 => ?_)
          obtain rfl : v_1625 = v_1654 := (ev_1654.trans (ev_1625.symm)).symm
          refine lv_iadd hx hb dX10_callsAll_75 ?_
          refine lv_topi (fun v_1655 ev_1655 => ?_)
          obtain rfl : v_1626 = v_1655 := (ev_1655.trans (ev_1626.symm)).symm
          refine va_iald hx hb hK.1 hP 1 1 rfl rfl (vi bv_1626 (by decide)) dX10_callsAll_76 ?_
          refine lv_topi (fun v_1656 ev_1656 => ?_)
          have bv_1656 : (0 : Int) ≤ v_1656.toInt ∧ v_1656.toInt ≤ 15 := rdw ev_1656 (p_fob_world).1.1 pl_70 (by omega) (nc_1624.1)
          refine lv_dup2_11 hx hb dX10_callsAll_77 rfl rfl ?_
          refine va_iald hx hb hK.1 hP 2 1 rfl rfl (vi bv_1656 (by decide)) dX10_callsAll_78 ?_
          refine lv_topi (fun v_1657 ev_1657 => ?_)
          have bv_1657 : (0 : Int) ≤ v_1657.toInt ∧ v_1657.toInt ≤ 65535 := rd_b ev_1657 bf_1580
          refine lv_iconst (v := 1) hx hb dX10_callsAll_79 (by decide) ?_
          refine lv_aload_n hx hb dX10_callsAll_80 rfl (lv_at hl 1 rfl) ?_
          refine va_get (D := G) (ci := 10) (v := .ref ob_world) (C := RX10) (T := TX10) (N := 41) hx hb hw0 inA_wsX100 hown hK.1 hP 0 rfl rfl 1 (by decide) (hw0 _ m_352) (fun _ h9 => h9) rfl dX10_callsAll_81 ?_
          refine lv_sipush (v := 6680) hx hb dX10_callsAll_84 (by decide) ?_
          refine lv_iconst (v := 4) hx hb dX10_callsAll_87 (by decide) ?_
          refine lv_iload_n hx hb dX10_callsAll_88 rfl (lv_at hl 0 rfl) ?_
          refine lv_imul hx hb dX10_callsAll_89 ?_
          refine lv_topi (fun v_1658 ev_1658 => ?_)
          obtain rfl : v_1625 = v_1658 := (ev_1658.trans (ev_1625.symm)).symm
          refine lv_iadd hx hb dX10_callsAll_90 ?_
          refine lv_topi (fun v_1659 ev_1659 => ?_)
          obtain rfl : v_1626 = v_1659 := (ev_1659.trans (ev_1626.symm)).symm
          refine lv_iconst (v := 1) hx hb dX10_callsAll_91 (by decide) ?_
          refine lv_iadd hx hb dX10_callsAll_92 ?_
          refine lv_topi (fun v_1660 ev_1660 => ?_)
          have qv_1660 := ba_add ev_1660 bv_1626 (bkc (x := 1) (c := 1) (by decide)) (by decide)
          have bv_1660 : (6681 : Int) ≤ v_1660.toInt ∧ v_1660.toInt ≤ 9077 := bq_add qv_1660 bv_1626 (bkc (x := 1) (c := 1) (by decide)) _ _ (by decide)
          have qv_1660 : v_1660.toInt = v_1626.toInt + (1) := qv_1660
          refine va_iald hx hb hK.1 hP 1 1 rfl rfl (vi bv_1660 (by decide)) dX10_callsAll_93 ?_
          refine lv_topi (fun v_1661 ev_1661 => ?_)
          have bv_1661 : (0 : Int) ≤ v_1661.toInt ∧ v_1661.toInt ≤ 15 := rdw ev_1661 (p_fob_world).1.1 pl_71 (by omega) (nc_1624.1)
          refine lv_ishl hx hb dX10_callsAll_94 ?_
          refine lv_topi (fun v_1662 ev_1662 => ?_)
          have bv_1662 : (1 : Int) ≤ v_1662.toInt ∧ v_1662.toInt ≤ 32768 := ba_shl 0 15 ev_1662 bv_1661 (by decide)
          refine lv_ior hx hb dX10_callsAll_95 ?_
          refine lv_topi (fun v_1663 ev_1663 => ?_)
          have bv_1663 : (0 : Int) ≤ v_1663.toInt ∧ v_1663.toInt ≤ 65535 := ba_or 16 ev_1663 bv_1657 bv_1662 (by decide)
          refine va_iast hx hb hK.1 hP hD hS 2 1 rfl rfl (vi bv_1656 (by decide)) dX10_callsAll_96 (fun H locs hP hD hS => ?_)
          generalize hf_1664 : (upd f_1580 (v_1656 : Int32).toNatClampNeg v_1663) = f_1664 at hP hD
          have bf_1664 : ∀ i, (0 : Int) ≤ (f_1664 i).toInt ∧ (f_1664 i).toInt ≤ 65535 := hf_1664 ▸ up_b bf_1580 bv_1663
          obtain ⟨hP, hD⟩ : vPD G A H [(ce_X10 ob ob_thrown ob_world ob_images ob_hasImage ob_tape ob_taped ob_five ob_size ob_at ob_from ob_token ob_value ob_faultKind ob_faultPlace ob_fresh ob_parts ob_houses ob_houseMany ob_worthOf ob_byCall ob_over ob_bestSet ob_bestOver ob_bestWorth ob_row ob_tenDebts ob_tenMany ob_fewestBy ob_covered ob_queue ob_cameBy ob_parent ob_met ob_calls ob_callMany ob_calledOn ob_saved ob_many ob_width ob_numbers ob_moving), (ce_i9080 y ob_world fob_world), (ce_i16 y ob_calledOn f_1664)] := ⟨hP, hD⟩
          exact J_97_1646 _ _ _ _ ⟨f_1664, bf_1664, rfl, ⟨hP, hD⟩, hS, lv_sub hl [0, 1] rfl⟩
  · skip
    have nc_1053 := nb_nle (15) (16) c_1053 bv_1048 (bkc (x := 16) (c := 16) (by decide)) (by decide)
    refine lv_aload_n hx hb dX10_callsAll_8 rfl (lv_at hl 1 rfl) ?_
    refine va_get (D := G) (ci := 10) (v := .ref ob_calledOn) (C := RX10) (T := TX10) (N := 41) hx hb hw0 inA_wsX100 hown hK.1 hP 0 rfl rfl 35 (by decide) (hw0 _ m_397) (fun _ h9 => h9) rfl dX10_callsAll_9 ?_
    refine lv_iload_n hx hb dX10_callsAll_12 rfl (lv_at hl 0 rfl) ?_
    refine lv_iconst (v := 0) hx hb dX10_callsAll_13 (by decide) ?_
    refine va_iast hx hb hK.1 hP hD hS 2 1 rfl rfl (vi nc_1053.1 (by decide)) dX10_callsAll_14 (fun H locs hP hD hS => ?_)
    generalize hf_1665 : (upd f_1049 (v_1048 : Int32).toNatClampNeg 0) = f_1665 at hP hD
    have bf_1665 : ∀ i, (0 : Int) ≤ (f_1665 i).toInt ∧ (f_1665 i).toInt ≤ 65535 := hf_1665 ▸ up_b bf_1049 (bw (0) (65535) (bkc (x := 0) (c := 0) (by decide)) (by decide))
    obtain ⟨hP, hD⟩ : vPD G A H [(ce_X10 ob ob_thrown ob_world ob_images ob_hasImage ob_tape ob_taped ob_five ob_size ob_at ob_from ob_token ob_value ob_faultKind ob_faultPlace ob_fresh ob_parts ob_houses ob_houseMany ob_worthOf ob_byCall ob_over ob_bestSet ob_bestOver ob_bestWorth ob_row ob_tenDebts ob_tenMany ob_fewestBy ob_covered ob_queue ob_cameBy ob_parent ob_met ob_calls ob_callMany ob_calledOn ob_saved ob_many ob_width ob_numbers ob_moving), (ce_i9080 y ob_world fob_world), (ce_i16 y ob_calledOn f_1665)] := ⟨hP, hD⟩
    obtain ⟨v_1666, ev_1666⟩ : ∃ z : Int32, z = v_1048 + 1 := ⟨_, rfl⟩
    have qv_1666 := ba_add ev_1666 nc_1053.1 (bkc (x := 1) (c := 1) (by decide)) (by decide)
    have bv_1666 : (1 : Int) ≤ v_1666.toInt ∧ v_1666.toInt ≤ 16 := bq_add qv_1666 nc_1053.1 (bkc (x := 1) (c := 1) (by decide)) _ _ (by decide)
    have qv_1666 : v_1666.toInt = v_1048.toInt + (1) := qv_1666
    refine lv_iinc (v := v_1666) (lv' := [(1, .int v_1666), (0, .ref ob)]) hx hb dX10_callsAll_15 hl (k := 0) rfl (ev_1666.symm) (by decide) rfl (fun ls hl => ?_)
    refine lv_goto (tgt := 2) hx hb dX10_callsAll_18 (by decide) ?_
    exact ih_1052 _ (ml_inc (hi := 16) hn_1052 qv_1666 (by decide) ((bw (0) (16) bv_1666 (by decide))).2) _ _ _ _ ⟨v_1666, f_1665, rfl, (bw (0) (16) bv_1666 (by decide)), bf_1665, rfl, ⟨hP, hD⟩, hS, lv_sub hl [0, 1] rfl⟩

set_option maxHeartbeats 4000000 in
set_option maxRecDepth 100000 in
theorem sX10_comesTo (l : Launch) (G : va_G) (y : Nat → ClassId) (sz : Nat) (ob : Nat) (a1 : Int32) (ob_thrown : Int32) (ob_world : Nat) (ob_images : Nat) (ob_hasImage : Nat) (ob_tape : Nat) (ob_taped : Int32) (ob_five : Nat) (ob_size : Int32) (ob_at : Int32) (ob_from : Int32) (ob_token : Int32) (ob_value : Int32) (ob_faultKind : Int32) (ob_faultPlace : Int32) (ob_fresh : Nat) (ob_parts : Nat) (ob_houses : Nat) (ob_houseMany : Int32) (ob_worthOf : Nat) (ob_byCall : Nat) (ob_over : Nat) (ob_bestSet : Int32) (ob_bestOver : Int32) (ob_bestWorth : Int32) (ob_row : Nat) (ob_tenDebts : Nat) (ob_tenMany : Int32) (ob_fewestBy : Nat) (ob_covered : Nat) (ob_queue : Nat) (ob_cameBy : Nat) (ob_parent : Nat) (ob_met : Nat) (ob_calls : Nat) (ob_callMany : Int32) (ob_calledOn : Nat) (ob_saved : Nat) (ob_many : Nat) (ob_width : Nat) (ob_numbers : Nat) (ob_moving : Nat) (fob_calledOn : Nat → Int32) (p_ob_taped : (0 : Int) ≤ ob_taped.toInt ∧ ob_taped.toInt ≤ 1400) (p_ob_size : (0 : Int) ≤ ob_size.toInt ∧ ob_size.toInt ≤ 1400) (p_ob_at : (0 : Int) ≤ ob_at.toInt ∧ ob_at.toInt ≤ 1400) (p_ob_from : (0 : Int) ≤ ob_from.toInt ∧ ob_from.toInt ≤ 1400) (p_ob_token : (0 : Int) ≤ ob_token.toInt ∧ ob_token.toInt ≤ 4) (p_ob_value : (0 : Int) ≤ ob_value.toInt ∧ ob_value.toInt ≤ 9999) (p_ob_faultKind : (0 : Int) ≤ ob_faultKind.toInt ∧ ob_faultKind.toInt ≤ 3) (p_ob_houseMany : (0 : Int) ≤ ob_houseMany.toInt ∧ ob_houseMany.toInt ≤ 10) (p_ob_bestSet : (0 : Int) ≤ ob_bestSet.toInt ∧ ob_bestSet.toInt ≤ 1023) (p_ob_bestOver : (-1 : Int) ≤ ob_bestOver.toInt ∧ ob_bestOver.toInt ≤ 180) (p_ob_tenMany : (0 : Int) ≤ ob_tenMany.toInt ∧ ob_tenMany.toInt ≤ 10) (p_ob_callMany : (0 : Int) ≤ ob_callMany.toInt ∧ ob_callMany.toInt ≤ 16) (p_fob_calledOn : ∀ i, (0 : Int) ≤ (fob_calledOn i).toInt ∧ (fob_calledOn i).toInt ≤ 65535) (p_a1 : (0 : Int) ≤ a1.toInt ∧ a1.toInt ≤ 15) : Met l yX10_comesTo (Cond.code yX10_comesTo cX10_comesTo 5 (some .int) :: wAll) ({ frames := 1, cells := 0, slots := 0, locals := 21 }) (va_Pc [.ref ob, .int a1] (kp G y sz [(ce_X10 ob ob_thrown ob_world ob_images ob_hasImage ob_tape ob_taped ob_five ob_size ob_at ob_from ob_token ob_value ob_faultKind ob_faultPlace ob_fresh ob_parts ob_houses ob_houseMany ob_worthOf ob_byCall ob_over ob_bestSet ob_bestOver ob_bestWorth ob_row ob_tenDebts ob_tenMany ob_fewestBy ob_covered ob_queue ob_cameBy ob_parent ob_met ob_calls ob_callMany ob_calledOn ob_saved ob_many ob_width ob_numbers ob_moving), (ce_i16 y ob_calledOn fob_calledOn)])) (va_Qi (fun (r : Int32) (w : va_W) => (∃ (v_1697 : Int32), ((0 : Int) ≤ v_1697.toInt ∧ v_1697.toInt ≤ 65535) ∧ r = v_1697 ∧ w = [(ce_X10 ob ob_thrown ob_world ob_images ob_hasImage ob_tape ob_taped ob_five ob_size ob_at ob_from ob_token ob_value ob_faultKind ob_faultPlace ob_fresh ob_parts ob_houses ob_houseMany ob_worthOf ob_byCall ob_over ob_bestSet ob_bestOver ob_bestWorth ob_row ob_tenDebts ob_tenMany ob_fewestBy ob_covered ob_queue ob_cameBy ob_parent ob_met ob_calls ob_callMany ob_calledOn ob_saved ob_many ob_width ob_numbers ob_moving), (ce_i16 y ob_calledOn fob_calledOn)])) (kq G (va_A [(ce_X10 ob ob_thrown ob_world ob_images ob_hasImage ob_tape ob_taped ob_five ob_size ob_at ob_from ob_token ob_value ob_faultKind ob_faultPlace ob_fresh ob_parts ob_houses ob_houseMany ob_worthOf ob_byCall ob_over ob_bestSet ob_bestOver ob_bestWorth ob_row ob_tenDebts ob_tenMany ob_fewestBy ob_covered ob_queue ob_cameBy ob_parent ob_met ob_calls ob_callMany ob_calledOn ob_saved ob_many ob_width ob_numbers ob_moving), (ce_i16 y ob_calledOn fob_calledOn)] sz)) (va_A [(ce_X10 ob ob_thrown ob_world ob_images ob_hasImage ob_tape ob_taped ob_five ob_size ob_at ob_from ob_token ob_value ob_faultKind ob_faultPlace ob_fresh ob_parts ob_houses ob_houseMany ob_worthOf ob_byCall ob_over ob_bestSet ob_bestOver ob_bestWorth ob_row ob_tenDebts ob_tenMany ob_fewestBy ob_covered ob_queue ob_cameBy ob_parent ob_met ob_calls ob_callMany ob_calledOn ob_saved ob_many ob_width ob_numbers ob_moving), (ce_i16 y ob_calledOn fob_calledOn)] sz)) 0 0 (va_A [(ce_X10 ob ob_thrown ob_world ob_images ob_hasImage ob_tape ob_taped ob_five ob_size ob_at ob_from ob_token ob_value ob_faultKind ob_faultPlace ob_fresh ob_parts ob_houses ob_houseMany ob_worthOf ob_byCall ob_over ob_bestSet ob_bestOver ob_bestWorth ob_row ob_tenDebts ob_tenMany ob_fewestBy ob_covered ob_queue ob_cameBy ob_parent ob_met ob_calls ob_callMany ob_calledOn ob_saved ob_many ob_width ob_numbers ob_moving), (ce_i16 y ob_calledOn fob_calledOn)] sz) := by
  refine Met.ofW (cc := cX10_comesTo) (maxL := 5) (ret := (some .int)) (by decide) rfl ?_
  intro p e s m args below meth c s₁ B hml hv
  obtain ⟨rfl, hsz, hP, hK, hD0⟩ := hv
  have hx := B.exec
  have hb := B.bytes
  have hr := B.returns
  have hw0 : ∀ w ∈ wAll, w.before _ s = true := fun w h => atoms_spec (ws := Cond.code yX10_comesTo cX10_comesTo 5 (some .int) :: wAll) B.pre w (List.mem_cons_of_mem _ h)
  have hown : s.vm.findClass RX10 = some m.cls := findClass_of_methodNamed B.named
  subst hsz
  have hD := hD0.self (sz := s.heap.size)
  generalize hAe : va_A [(ce_X10 ob ob_thrown ob_world ob_images ob_hasImage ob_tape ob_taped ob_five ob_size ob_at ob_from ob_token ob_value ob_faultKind ob_faultPlace ob_fresh ob_parts ob_houses ob_houseMany ob_worthOf ob_byCall ob_over ob_bestSet ob_bestOver ob_bestWorth ob_row ob_tenDebts ob_tenMany ob_fewestBy ob_covered ob_queue ob_cameBy ob_parent ob_met ob_calls ob_callMany ob_calledOn ob_saved ob_many ob_width ob_numbers ob_moving), (ce_i16 y ob_calledOn fob_calledOn)] s.heap.size = A at hD ⊢
  have hA : ∀ q : Nat, s.heap.size ≤ q → A q := fun q h => by rw [← hAe]; exact Or.inr h
  have hS : va_S A s.heap s.heap [] := va_S.rf
  have hP : va_P G vwCl [(ce_X10 ob ob_thrown ob_world ob_images ob_hasImage ob_tape ob_taped ob_five ob_size ob_at ob_from ob_token ob_value ob_faultKind ob_faultPlace ob_fresh ob_parts ob_houses ob_houseMany ob_worthOf ob_byCall ob_over ob_bestSet ob_bestOver ob_bestWorth ob_row ob_tenDebts ob_tenMany ob_fewestBy ob_covered ob_queue ob_cameBy ob_parent ob_met ob_calls ob_callMany ob_calledOn ob_saved ob_many ob_width ob_numbers ob_moving), (ce_i16 y ob_calledOn fob_calledOn)] s.heap := hP
  have hl := lv_entry ([.ref ob, .int a1]) (n := 5) (Nat.le_of_ble_eq_true rfl)
  rw [lg_entry_eq]
  generalize (lg_sl ([.ref ob, .int a1]) ++ List.replicate (5 - (lg_sl ([.ref ob, .int a1])).length) Slot.unset).toArray = ls at hl ⊢
  have hl : lv_has ls 5 [(0, .ref ob), (1, .int a1)] := hl
  have h0z : (0 : Int32).toInt = 0 := by decide
  refine lv_iconst (v := 1) hx hb dX10_comesTo_0 (by decide) ?_
  refine lv_iload_n hx hb dX10_comesTo_1 rfl (lv_at hl 1 rfl) ?_
  refine lv_ishl hx hb dX10_comesTo_2 ?_
  refine lv_topi (fun v_1001 ev_1001 => ?_)
  have bv_1001 : (1 : Int) ≤ v_1001.toInt ∧ v_1001.toInt ≤ 32768 := ba_shl 0 15 ev_1001 p_a1 (by decide)
  refine lv_istore_n (lv' := [(2, .int v_1001), (0, .ref ob), (1, .int a1)]) hx hb dX10_comesTo_3 rfl hl (by decide) rfl (fun ls hl => ?_)
  refine lv_iconst (v := 0) hx hb dX10_comesTo_4 (by decide) ?_
  refine lv_istore_n (lv' := [(3, .int 0), (2, .int v_1001), (0, .ref ob), (1, .int a1)]) hx hb dX10_comesTo_5 rfl hl (by decide) rfl (fun ls hl => ?_)
  refine loopX (fun n H locs ls st => ∃ (v_1567 : Int32) (v_1568 : Int32), (131070 - v_1567.toInt - v_1568.toInt).toNat = n ∧ ((0 : Int) ≤ v_1567.toInt ∧ v_1567.toInt ≤ 65535) ∧ ((0 : Int) ≤ v_1568.toInt ∧ v_1568.toInt ≤ 65535) ∧ (v_1567.toInt ≤ v_1568.toInt) ∧ st = [] ∧ vPD G A H [(ce_X10 ob ob_thrown ob_world ob_images ob_hasImage ob_tape ob_taped ob_five ob_size ob_at ob_from ob_token ob_value ob_faultKind ob_faultPlace ob_fresh ob_parts ob_houses ob_houseMany ob_worthOf ob_byCall ob_over ob_bestSet ob_bestOver ob_bestWorth ob_row ob_tenDebts ob_tenMany ob_fewestBy ob_covered ob_queue ob_cameBy ob_parent ob_met ob_calls ob_callMany ob_calledOn ob_saved ob_many ob_width ob_numbers ob_moving), (ce_i16 y ob_calledOn fob_calledOn)] ∧ va_S A s.heap H locs ∧ lv_has ls 5 [(3, .int v_1567), (2, .int v_1568), (0, .ref ob)]) ?_ (n := (131070 - (0 : Int32).toInt - v_1001.toInt).toNat) ⟨0, v_1001, rfl, (bw (0) (65535) (bkc (x := 0) (c := 0) (by decide)) (by decide)), (bw (0) (65535) bv_1001 (by decide)), (by have h90 : Int32.toInt 0 = 0 := (by decide); omega), rfl, ⟨hP, hD⟩, hS, lv_sub hl [0, 1, 2] rfl⟩
  rintro n ih_1708 H locs ls st ⟨v_1567, v_1568, hn_1708, bv_1567, bv_1568, rl1568_0, rfl, ⟨hP, hD⟩, hS, hl⟩
  refine lv_iload_n hx hb dX10_comesTo_6 rfl (lv_at hl 0 rfl) ?_
  refine lv_iload_n hx hb dX10_comesTo_7 rfl (lv_at hl 1 rfl) ?_
  refine lv_icmp_eq (tgt := 51) hx hb dX10_comesTo_8 (by decide) (fun c_1709 => ?_) (fun c_1709 => ?_)
  · skip
    have nc_1709 := nb_eq (0) (65535) c_1709 bv_1567 bv_1568 (by decide)
    refine lv_iload_n hx hb dX10_comesTo_51 rfl (lv_at hl 1 rfl) ?_
    exact W.iret (v := v_1568) hx hb hr (fun t ht hW => ⟨⟨v_1568, _, rfl, ⟨v_1568, nc_1709.2.1, rfl, rfl⟩, by rw [ht]; exact hP, hD⟩, hS.F ht⟩) hS.2.2 dX10_comesTo_52
  · skip
    have nc_1709 : v_1567.toInt ≠ v_1568.toInt := fun h9 => c_1709 (Int32.toInt_inj.mp h9)
    refine lv_iload_n hx hb dX10_comesTo_11 rfl (lv_at hl 1 rfl) ?_
    refine lv_istore_n (lv' := [(3, .int v_1568), (2, .int v_1568), (0, .ref ob)]) hx hb dX10_comesTo_12 rfl hl (by decide) rfl (fun ls hl => ?_)
    refine lv_iconst (v := 0) hx hb dX10_comesTo_13 (by decide) ?_
    refine lv_istore (lv' := [(4, .int 0), (3, .int v_1568), (2, .int v_1568), (0, .ref ob)]) hx hb dX10_comesTo_14 hl (by decide) rfl (fun ls hl => ?_)
    refine loopX (fun n H locs ls st => ∃ (v_1829 : Int32) (v_1830 : Int32), (16 - v_1829.toInt).toNat = n ∧ ((0 : Int) ≤ v_1829.toInt ∧ v_1829.toInt ≤ 16) ∧ ((0 : Int) ≤ v_1830.toInt ∧ v_1830.toInt ≤ 65535) ∧ (v_1568.toInt ≤ v_1830.toInt) ∧ st = [] ∧ vPD G A H [(ce_X10 ob ob_thrown ob_world ob_images ob_hasImage ob_tape ob_taped ob_five ob_size ob_at ob_from ob_token ob_value ob_faultKind ob_faultPlace ob_fresh ob_parts ob_houses ob_houseMany ob_worthOf ob_byCall ob_over ob_bestSet ob_bestOver ob_bestWorth ob_row ob_tenDebts ob_tenMany ob_fewestBy ob_covered ob_queue ob_cameBy ob_parent ob_met ob_calls ob_callMany ob_calledOn ob_saved ob_many ob_width ob_numbers ob_moving), (ce_i16 y ob_calledOn fob_calledOn)] ∧ va_S A s.heap H locs ∧ lv_has ls 5 [(4, .int v_1829), (3, .int v_1568), (2, .int v_1830), (0, .ref ob)]) ?_ (n := (16 - (0 : Int32).toInt).toNat) ⟨0, v_1568, rfl, (bw (0) (16) (bkc (x := 0) (c := 0) (by decide)) (by decide)), bv_1568, (by have h90 : Int32.toInt 0 = 0 := (by decide); omega), rfl, ⟨hP, hD⟩, hS, lv_sub hl [0, 1, 2, 3] rfl⟩
    rintro n ih_1839 H locs ls st ⟨v_1829, v_1830, hn_1839, bv_1829, bv_1830, rl1830_0, rfl, ⟨hP, hD⟩, hS, hl⟩
    refine lv_iload hx hb dX10_comesTo_16 (lv_at hl 0 rfl) ?_
    refine lv_bipush (v := 16) hx hb dX10_comesTo_18 (by decide) ?_
    refine lv_icmp_ge (tgt := 48) hx hb dX10_comesTo_20 (by decide) (fun c_1840 => ?_) (fun c_1840 => ?_)
    · skip
      have nc_1840 := nb_le (16) (16) c_1840 (bkc (x := 16) (c := 16) (by decide)) bv_1829 (by decide)
      refine lv_goto (tgt := 6) hx hb dX10_comesTo_48 (by decide) ?_
      exact ih_1708 _ (by omega) _ _ _ _ ⟨v_1568, v_1830, rfl, bv_1568, bv_1830, (by omega), rfl, ⟨hP, hD⟩, hS, lv_sub hl [1, 2, 3] rfl⟩
    · skip
      have nc_1840 := nb_nle (15) (16) c_1840 bv_1829 (bkc (x := 16) (c := 16) (by decide)) (by decide)
      refine lv_iload_n hx hb dX10_comesTo_23 rfl (lv_at hl 1 rfl) ?_
      refine lv_iload hx hb dX10_comesTo_24 (lv_at hl 0 rfl) ?_
      refine cutW 42 (fun H locs ls st => ∃ (v_1844 : Int32), ((0 : Int) ≤ v_1844.toInt ∧ v_1844.toInt ≤ 65535) ∧ (v_1568.toInt ≤ v_1844.toInt) ∧ st = [] ∧ vPD G A H [(ce_X10 ob ob_thrown ob_world ob_images ob_hasImage ob_tape ob_taped ob_five ob_size ob_at ob_from ob_token ob_value ob_faultKind ob_faultPlace ob_fresh ob_parts ob_houses ob_houseMany ob_worthOf ob_byCall ob_over ob_bestSet ob_bestOver ob_bestWorth ob_row ob_tenDebts ob_tenMany ob_fewestBy ob_covered ob_queue ob_cameBy ob_parent ob_met ob_calls ob_callMany ob_calledOn ob_saved ob_many ob_width ob_numbers ob_moving), (ce_i16 y ob_calledOn fob_calledOn)] ∧ va_S A s.heap H locs ∧ lv_has ls 5 [(4, .int v_1829), (3, .int v_1568), (2, .int v_1844), (0, .ref ob)]) ?_ (fun J_42_1844 => ?_)
      · rintro H locs ls st ⟨v_1844, bv_1844, rl1844_0, rfl, ⟨hP, hD⟩, hS, hl⟩
        obtain ⟨v_1845, ev_1845⟩ : ∃ z : Int32, z = v_1829 + 1 := ⟨_, rfl⟩
        have qv_1845 := ba_add ev_1845 nc_1840.1 (bkc (x := 1) (c := 1) (by decide)) (by decide)
        have bv_1845 : (1 : Int) ≤ v_1845.toInt ∧ v_1845.toInt ≤ 16 := bq_add qv_1845 nc_1840.1 (bkc (x := 1) (c := 1) (by decide)) _ _ (by decide)
        have qv_1845 : v_1845.toInt = v_1829.toInt + (1) := qv_1845
        refine lv_iinc (v := v_1845) (lv' := [(4, .int v_1845), (3, .int v_1568), (2, .int v_1844), (0, .ref ob)]) hx hb dX10_comesTo_42 hl (k := 0) rfl (ev_1845.symm) (by decide) rfl (fun ls hl => ?_)
        refine lv_goto (tgt := 16) hx hb dX10_comesTo_45 (by decide) ?_
        exact ih_1839 _ (ml_inc (hi := 16) hn_1839 qv_1845 (by decide) ((bw (0) (16) bv_1845 (by decide))).2) _ _ _ _ ⟨v_1845, v_1844, rfl, (bw (0) (16) bv_1845 (by decide)), bv_1844, (by omega), rfl, ⟨hP, hD⟩, hS, lv_sub hl [0, 1, 2, 3] rfl⟩
      · skip
        refine cSim (As := [.int v_1568, .int v_1829]) (rest := []) ⟨hx, hb, hml, hown, hw0⟩ hA hK hP hD hS [] (sX10_holds l G y _ v_1568 v_1829 ) rfl ⟨(callB_of 2 hw0 (gA m_512) rfl rfl rfl (hw0 _ m_41) (hw0 _ m_353) cb_X10_holds ⟨Nat.le_of_ble_eq_true rfl, Nat.le_of_ble_eq_true rfl⟩), (hw0 _ m_354)⟩ rfl hl.1 (Nat.le_of_ble_eq_true rfl) dX10_comesTo_26 ⟨Nat.le_of_ble_eq_true rfl, Nat.le_of_ble_eq_true rfl⟩ (fun r_1846 w_1846 H locs hw_1846 hP hD hS => ?_)
        rcases hw_1846 with ⟨rfl, rfl⟩ | ⟨rfl, rfl⟩
        · skip
          obtain ⟨hP, hD⟩ : vPD G A H [(ce_X10 ob ob_thrown ob_world ob_images ob_hasImage ob_tape ob_taped ob_five ob_size ob_at ob_from ob_token ob_value ob_faultKind ob_faultPlace ob_fresh ob_parts ob_houses ob_houseMany ob_worthOf ob_byCall ob_over ob_bestSet ob_bestOver ob_bestWorth ob_row ob_tenDebts ob_tenMany ob_fewestBy ob_covered ob_queue ob_cameBy ob_parent ob_met ob_calls ob_callMany ob_calledOn ob_saved ob_many ob_width ob_numbers ob_moving), (ce_i16 y ob_calledOn fob_calledOn)] := ⟨hP, hD⟩
          refine lv_if_eq (tgt := 42) hx hb dX10_comesTo_29 (by decide) (fun _ => ?_) (fun c9 => absurd (by decide) c9)
          exact J_42_1844 _ _ _ _ ⟨v_1830, bv_1830, (by omega), rfl, ⟨hP, hD⟩, hS, lv_sub hl [0, 1, 2, 3] rfl⟩
        · skip
          obtain ⟨hP, hD⟩ : vPD G A H [(ce_X10 ob ob_thrown ob_world ob_images ob_hasImage ob_tape ob_taped ob_five ob_size ob_at ob_from ob_token ob_value ob_faultKind ob_faultPlace ob_fresh ob_parts ob_houses ob_houseMany ob_worthOf ob_byCall ob_over ob_bestSet ob_bestOver ob_bestWorth ob_row ob_tenDebts ob_tenMany ob_fewestBy ob_covered ob_queue ob_cameBy ob_parent ob_met ob_calls ob_callMany ob_calledOn ob_saved ob_many ob_width ob_numbers ob_moving), (ce_i16 y ob_calledOn fob_calledOn)] := ⟨hP, hD⟩
          refine lv_if_eq (tgt := 42) hx hb dX10_comesTo_29 (by decide) (fun c9 => absurd c9 (by decide)) (fun _ => ?_)
          refine lv_iload_n hx hb dX10_comesTo_32 rfl (lv_at hl 2 rfl) ?_
          refine lv_aload_n hx hb dX10_comesTo_33 rfl (lv_at hl 3 rfl) ?_
          refine va_get (D := G) (ci := 10) (v := .ref ob_calledOn) (C := RX10) (T := TX10) (N := 41) hx hb hw0 inA_wsX100 hown hK.1 hP 0 rfl rfl 35 (by decide) (hw0 _ m_397) (fun _ h9 => h9) rfl dX10_comesTo_34 ?_
          refine lv_iload hx hb dX10_comesTo_37 (lv_at hl 0 rfl) ?_
          refine va_iald hx hb hK.1 hP 1 1 rfl rfl (vi nc_1840.1 (by decide)) dX10_comesTo_39 ?_
          refine lv_topi (fun v_1847 ev_1847 => ?_)
          have bv_1847 : (0 : Int) ≤ v_1847.toInt ∧ v_1847.toInt ≤ 65535 := rd_b ev_1847 p_fob_calledOn
          refine lv_ior hx hb dX10_comesTo_40 ?_
          refine lv_topi (fun v_1848 ev_1848 => ?_)
          have bv_1848 : (0 : Int) ≤ v_1848.toInt ∧ v_1848.toInt ≤ 65535 := ba_or 16 ev_1848 bv_1830 bv_1847 (by decide)
          have ov_1848 := or_ge ev_1848 bv_1830 bv_1847 (by decide)
          refine lv_istore_n (lv' := [(2, .int v_1848), (4, .int v_1829), (3, .int v_1568), (0, .ref ob)]) hx hb dX10_comesTo_41 rfl hl (by decide) rfl (fun ls hl => ?_)
          exact J_42_1844 _ _ _ _ ⟨v_1848, bv_1848, (by omega), rfl, ⟨hP, hD⟩, hS, lv_sub hl [1, 2, 0, 3] rfl⟩

set_option maxHeartbeats 4000000 in
set_option maxRecDepth 100000 in
theorem sX10_ringOf (l : Launch) (G : va_G) (y : Nat → ClassId) (sz : Nat) (ob : Nat) (a1 : Int32) (ob_thrown : Int32) (ob_world : Nat) (ob_images : Nat) (ob_hasImage : Nat) (ob_tape : Nat) (ob_taped : Int32) (ob_five : Nat) (ob_size : Int32) (ob_at : Int32) (ob_from : Int32) (ob_token : Int32) (ob_value : Int32) (ob_faultKind : Int32) (ob_faultPlace : Int32) (ob_fresh : Nat) (ob_parts : Nat) (ob_houses : Nat) (ob_houseMany : Int32) (ob_worthOf : Nat) (ob_byCall : Nat) (ob_over : Nat) (ob_bestSet : Int32) (ob_bestOver : Int32) (ob_bestWorth : Int32) (ob_row : Nat) (ob_tenDebts : Nat) (ob_tenMany : Int32) (ob_fewestBy : Nat) (ob_covered : Nat) (ob_queue : Nat) (ob_cameBy : Nat) (ob_parent : Nat) (ob_met : Nat) (ob_calls : Nat) (ob_callMany : Int32) (ob_calledOn : Nat) (ob_saved : Nat) (ob_many : Nat) (ob_width : Nat) (ob_numbers : Nat) (ob_moving : Nat) (fob_calledOn : Nat → Int32) (p_ob_taped : (0 : Int) ≤ ob_taped.toInt ∧ ob_taped.toInt ≤ 1400) (p_ob_size : (0 : Int) ≤ ob_size.toInt ∧ ob_size.toInt ≤ 1400) (p_ob_at : (0 : Int) ≤ ob_at.toInt ∧ ob_at.toInt ≤ 1400) (p_ob_from : (0 : Int) ≤ ob_from.toInt ∧ ob_from.toInt ≤ 1400) (p_ob_token : (0 : Int) ≤ ob_token.toInt ∧ ob_token.toInt ≤ 4) (p_ob_value : (0 : Int) ≤ ob_value.toInt ∧ ob_value.toInt ≤ 9999) (p_ob_faultKind : (0 : Int) ≤ ob_faultKind.toInt ∧ ob_faultKind.toInt ≤ 3) (p_ob_houseMany : (0 : Int) ≤ ob_houseMany.toInt ∧ ob_houseMany.toInt ≤ 10) (p_ob_bestSet : (0 : Int) ≤ ob_bestSet.toInt ∧ ob_bestSet.toInt ≤ 1023) (p_ob_bestOver : (-1 : Int) ≤ ob_bestOver.toInt ∧ ob_bestOver.toInt ≤ 180) (p_ob_tenMany : (0 : Int) ≤ ob_tenMany.toInt ∧ ob_tenMany.toInt ≤ 10) (p_ob_callMany : (0 : Int) ≤ ob_callMany.toInt ∧ ob_callMany.toInt ≤ 16) (p_fob_calledOn : ∀ i, (0 : Int) ≤ (fob_calledOn i).toInt ∧ (fob_calledOn i).toInt ≤ 65535) (p_a1 : (0 : Int) ≤ a1.toInt ∧ a1.toInt ≤ 15) : Met l yX10_ringOf (Cond.code yX10_ringOf cX10_ringOf 4 (some .int) :: wAll) ({ frames := 2, cells := 0, slots := 0, locals := 45 }) (va_Pc [.ref ob, .int a1] (kp G y sz [(ce_X10 ob ob_thrown ob_world ob_images ob_hasImage ob_tape ob_taped ob_five ob_size ob_at ob_from ob_token ob_value ob_faultKind ob_faultPlace ob_fresh ob_parts ob_houses ob_houseMany ob_worthOf ob_byCall ob_over ob_bestSet ob_bestOver ob_bestWorth ob_row ob_tenDebts ob_tenMany ob_fewestBy ob_covered ob_queue ob_cameBy ob_parent ob_met ob_calls ob_callMany ob_calledOn ob_saved ob_many ob_width ob_numbers ob_moving), (ce_i16 y ob_calledOn fob_calledOn)])) (va_Qi (fun (r : Int32) (w : va_W) => (∃ (v_293 : Int32), ((0 : Int) ≤ v_293.toInt ∧ v_293.toInt ≤ 65535) ∧ r = v_293 ∧ w = [(ce_X10 ob ob_thrown ob_world ob_images ob_hasImage ob_tape ob_taped ob_five ob_size ob_at ob_from ob_token ob_value ob_faultKind ob_faultPlace ob_fresh ob_parts ob_houses ob_houseMany ob_worthOf ob_byCall ob_over ob_bestSet ob_bestOver ob_bestWorth ob_row ob_tenDebts ob_tenMany ob_fewestBy ob_covered ob_queue ob_cameBy ob_parent ob_met ob_calls ob_callMany ob_calledOn ob_saved ob_many ob_width ob_numbers ob_moving), (ce_i16 y ob_calledOn fob_calledOn)])) (kq G (va_A [(ce_X10 ob ob_thrown ob_world ob_images ob_hasImage ob_tape ob_taped ob_five ob_size ob_at ob_from ob_token ob_value ob_faultKind ob_faultPlace ob_fresh ob_parts ob_houses ob_houseMany ob_worthOf ob_byCall ob_over ob_bestSet ob_bestOver ob_bestWorth ob_row ob_tenDebts ob_tenMany ob_fewestBy ob_covered ob_queue ob_cameBy ob_parent ob_met ob_calls ob_callMany ob_calledOn ob_saved ob_many ob_width ob_numbers ob_moving), (ce_i16 y ob_calledOn fob_calledOn)] sz)) (va_A [(ce_X10 ob ob_thrown ob_world ob_images ob_hasImage ob_tape ob_taped ob_five ob_size ob_at ob_from ob_token ob_value ob_faultKind ob_faultPlace ob_fresh ob_parts ob_houses ob_houseMany ob_worthOf ob_byCall ob_over ob_bestSet ob_bestOver ob_bestWorth ob_row ob_tenDebts ob_tenMany ob_fewestBy ob_covered ob_queue ob_cameBy ob_parent ob_met ob_calls ob_callMany ob_calledOn ob_saved ob_many ob_width ob_numbers ob_moving), (ce_i16 y ob_calledOn fob_calledOn)] sz)) 0 0 (va_A [(ce_X10 ob ob_thrown ob_world ob_images ob_hasImage ob_tape ob_taped ob_five ob_size ob_at ob_from ob_token ob_value ob_faultKind ob_faultPlace ob_fresh ob_parts ob_houses ob_houseMany ob_worthOf ob_byCall ob_over ob_bestSet ob_bestOver ob_bestWorth ob_row ob_tenDebts ob_tenMany ob_fewestBy ob_covered ob_queue ob_cameBy ob_parent ob_met ob_calls ob_callMany ob_calledOn ob_saved ob_many ob_width ob_numbers ob_moving), (ce_i16 y ob_calledOn fob_calledOn)] sz) := by
  refine Met.ofW (cc := cX10_ringOf) (maxL := 4) (ret := (some .int)) (by decide) rfl ?_
  intro p e s m args below meth c s₁ B hml hv
  obtain ⟨rfl, hsz, hP, hK, hD0⟩ := hv
  have hx := B.exec
  have hb := B.bytes
  have hr := B.returns
  have hw0 : ∀ w ∈ wAll, w.before _ s = true := fun w h => atoms_spec (ws := Cond.code yX10_ringOf cX10_ringOf 4 (some .int) :: wAll) B.pre w (List.mem_cons_of_mem _ h)
  have hown : s.vm.findClass RX10 = some m.cls := findClass_of_methodNamed B.named
  subst hsz
  have hD := hD0.self (sz := s.heap.size)
  generalize hAe : va_A [(ce_X10 ob ob_thrown ob_world ob_images ob_hasImage ob_tape ob_taped ob_five ob_size ob_at ob_from ob_token ob_value ob_faultKind ob_faultPlace ob_fresh ob_parts ob_houses ob_houseMany ob_worthOf ob_byCall ob_over ob_bestSet ob_bestOver ob_bestWorth ob_row ob_tenDebts ob_tenMany ob_fewestBy ob_covered ob_queue ob_cameBy ob_parent ob_met ob_calls ob_callMany ob_calledOn ob_saved ob_many ob_width ob_numbers ob_moving), (ce_i16 y ob_calledOn fob_calledOn)] s.heap.size = A at hD ⊢
  have hA : ∀ q : Nat, s.heap.size ≤ q → A q := fun q h => by rw [← hAe]; exact Or.inr h
  have hS : va_S A s.heap s.heap [] := va_S.rf
  have hP : va_P G vwCl [(ce_X10 ob ob_thrown ob_world ob_images ob_hasImage ob_tape ob_taped ob_five ob_size ob_at ob_from ob_token ob_value ob_faultKind ob_faultPlace ob_fresh ob_parts ob_houses ob_houseMany ob_worthOf ob_byCall ob_over ob_bestSet ob_bestOver ob_bestWorth ob_row ob_tenDebts ob_tenMany ob_fewestBy ob_covered ob_queue ob_cameBy ob_parent ob_met ob_calls ob_callMany ob_calledOn ob_saved ob_many ob_width ob_numbers ob_moving), (ce_i16 y ob_calledOn fob_calledOn)] s.heap := hP
  have hl := lv_entry ([.ref ob, .int a1]) (n := 4) (Nat.le_of_ble_eq_true rfl)
  rw [lg_entry_eq]
  generalize (lg_sl ([.ref ob, .int a1]) ++ List.replicate (4 - (lg_sl ([.ref ob, .int a1])).length) Slot.unset).toArray = ls at hl ⊢
  have hl : lv_has ls 4 [(0, .ref ob), (1, .int a1)] := hl
  refine lv_aload_n hx hb dX10_ringOf_0 rfl (lv_at hl 0 rfl) ?_
  refine lv_iload_n hx hb dX10_ringOf_1 rfl (lv_at hl 1 rfl) ?_
  refine cVim (As := [.int a1]) (rest := []) ⟨hx, hb, hml, hown, hw0⟩ hA hK hP hD hS [true, true] (sX10_comesTo l G y _ ob a1 ob_thrown ob_world ob_images ob_hasImage ob_tape ob_taped ob_five ob_size ob_at ob_from ob_token ob_value ob_faultKind ob_faultPlace ob_fresh ob_parts ob_houses ob_houseMany ob_worthOf ob_byCall ob_over ob_bestSet ob_bestOver ob_bestWorth ob_row ob_tenDebts ob_tenMany ob_fewestBy ob_covered ob_queue ob_cameBy ob_parent ob_met ob_calls ob_callMany ob_calledOn ob_saved ob_many ob_width ob_numbers ob_moving fob_calledOn p_ob_taped p_ob_size p_ob_at p_ob_from p_ob_token p_ob_value p_ob_faultKind p_ob_houseMany p_ob_bestSet p_ob_bestOver p_ob_tenMany p_ob_callMany p_fob_calledOn p_a1) rfl ⟨(callB_of 1 hw0 (gA m_400) rfl rfl rfl (hw0 _ m_41) (hw0 _ m_652) cb_X10_comesTo ⟨Nat.le_of_ble_eq_true rfl, Nat.le_of_ble_eq_true rfl⟩), (hw0 _ m_653), (hw0 _ m_654)⟩ (ci := 10) (q := (RX10, TX10, 41)) rfl rfl rfl hl.1 (Nat.le_of_ble_eq_true rfl) dX10_ringOf_2 ⟨Nat.le_of_ble_eq_true rfl, Nat.le_of_ble_eq_true rfl⟩ (fun r_1001 w_1001 H locs hw_1001 hP hD hS => ?_)
  obtain ⟨v_1002, bv_1002, er_1001, rfl⟩ := hw_1001
  subst r_1001
  obtain ⟨hP, hD⟩ : vPD G A H [(ce_X10 ob ob_thrown ob_world ob_images ob_hasImage ob_tape ob_taped ob_five ob_size ob_at ob_from ob_token ob_value ob_faultKind ob_faultPlace ob_fresh ob_parts ob_houses ob_houseMany ob_worthOf ob_byCall ob_over ob_bestSet ob_bestOver ob_bestWorth ob_row ob_tenDebts ob_tenMany ob_fewestBy ob_covered ob_queue ob_cameBy ob_parent ob_met ob_calls ob_callMany ob_calledOn ob_saved ob_many ob_width ob_numbers ob_moving), (ce_i16 y ob_calledOn fob_calledOn)] := ⟨hP, hD⟩
  refine lv_istore_n (lv' := [(2, .int v_1002), (0, .ref ob), (1, .int a1)]) hx hb dX10_ringOf_5 rfl hl (by decide) rfl (fun ls hl => ?_)
  refine lv_iload_n hx hb dX10_ringOf_6 rfl (lv_at hl 0 rfl) ?_
  refine cSim (As := [.int v_1002]) (rest := []) ⟨hx, hb, hml, hown, hw0⟩ hA hK hP hD hS [] (sX10_ones l G y _ v_1002 ) rfl ⟨(callB_of 1 hw0 (gA m_578) rfl rfl rfl (hw0 _ m_41) (hw0 _ m_447) cb_X10_ones ⟨Nat.le_of_ble_eq_true rfl, Nat.le_of_ble_eq_true rfl⟩), (hw0 _ m_448)⟩ rfl hl.1 (Nat.le_of_ble_eq_true rfl) dX10_ringOf_7 ⟨Nat.le_of_ble_eq_true rfl, Nat.le_of_ble_eq_true rfl⟩ (fun r_1003 w_1003 H locs hw_1003 hP hD hS => ?_)
  obtain ⟨v_1004, er_1003, rfl⟩ := hw_1003
  subst r_1003
  obtain ⟨hP, hD⟩ : vPD G A H [(ce_X10 ob ob_thrown ob_world ob_images ob_hasImage ob_tape ob_taped ob_five ob_size ob_at ob_from ob_token ob_value ob_faultKind ob_faultPlace ob_fresh ob_parts ob_houses ob_houseMany ob_worthOf ob_byCall ob_over ob_bestSet ob_bestOver ob_bestWorth ob_row ob_tenDebts ob_tenMany ob_fewestBy ob_covered ob_queue ob_cameBy ob_parent ob_met ob_calls ob_callMany ob_calledOn ob_saved ob_many ob_width ob_numbers ob_moving), (ce_i16 y ob_calledOn fob_calledOn)] := ⟨hP, hD⟩
  refine lv_iconst (v := 2) hx hb dX10_ringOf_10 (by decide) ?_
  refine lv_icmp_ge (tgt := 16) hx hb dX10_ringOf_11 (by decide) (fun c_1005 => ?_) (fun c_1005 => ?_)
  · skip
    have nc_1005 := nb_le (2) (2) c_1005 (bkc (x := 2) (c := 2) (by decide)) (btop v_1004) (by decide)
    refine lv_iconst (v := 0) hx hb dX10_ringOf_16 (by decide) ?_
    refine lv_istore_n (lv' := [(3, .int 0), (2, .int v_1002), (0, .ref ob), (1, .int a1)]) hx hb dX10_ringOf_17 rfl hl (by decide) rfl (fun ls hl => ?_)
    refine loopX (fun n H locs ls st => ∃ (v_1126 : Int32), (16 - v_1126.toInt).toNat = n ∧ ((0 : Int) ≤ v_1126.toInt ∧ v_1126.toInt ≤ 16) ∧ st = [] ∧ vPD G A H [(ce_X10 ob ob_thrown ob_world ob_images ob_hasImage ob_tape ob_taped ob_five ob_size ob_at ob_from ob_token ob_value ob_faultKind ob_faultPlace ob_fresh ob_parts ob_houses ob_houseMany ob_worthOf ob_byCall ob_over ob_bestSet ob_bestOver ob_bestWorth ob_row ob_tenDebts ob_tenMany ob_fewestBy ob_covered ob_queue ob_cameBy ob_parent ob_met ob_calls ob_callMany ob_calledOn ob_saved ob_many ob_width ob_numbers ob_moving), (ce_i16 y ob_calledOn fob_calledOn)] ∧ va_S A s.heap H locs ∧ lv_has ls 4 [(3, .int v_1126), (2, .int v_1002), (0, .ref ob)]) ?_ (n := (16 - (0 : Int32).toInt).toNat) ⟨0, rfl, (bw (0) (16) (bkc (x := 0) (c := 0) (by decide)) (by decide)), rfl, ⟨hP, hD⟩, hS, lv_sub hl [0, 1, 2] rfl⟩
    rintro n ih_1136 H locs ls st ⟨v_1126, hn_1136, bv_1126, rfl, ⟨hP, hD⟩, hS, hl⟩
    refine lv_iload_n hx hb dX10_ringOf_18 rfl (lv_at hl 0 rfl) ?_
    refine lv_bipush (v := 16) hx hb dX10_ringOf_19 (by decide) ?_
    refine lv_icmp_ge (tgt := 49) hx hb dX10_ringOf_21 (by decide) (fun c_1137 => ?_) (fun c_1137 => ?_)
    · skip
      have nc_1137 := nb_le (16) (16) c_1137 (bkc (x := 16) (c := 16) (by decide)) bv_1126 (by decide)
      refine lv_iload_n hx hb dX10_ringOf_49 rfl (lv_at hl 1 rfl) ?_
      exact W.iret (v := v_1002) hx hb hr (fun t ht hW => ⟨⟨v_1002, _, rfl, ⟨v_1002, bv_1002, rfl, rfl⟩, by rw [ht]; exact hP, hD⟩, hS.F ht⟩) hS.2.2 dX10_ringOf_50
    · skip
      have nc_1137 := nb_nle (15) (16) c_1137 bv_1126 (bkc (x := 16) (c := 16) (by decide)) (by decide)
      refine lv_iload_n hx hb dX10_ringOf_24 rfl (lv_at hl 1 rfl) ?_
      refine lv_iload_n hx hb dX10_ringOf_25 rfl (lv_at hl 0 rfl) ?_
      refine cutW 43 (fun H locs ls st => st = [] ∧ vPD G A H [(ce_X10 ob ob_thrown ob_world ob_images ob_hasImage ob_tape ob_taped ob_five ob_size ob_at ob_from ob_token ob_value ob_faultKind ob_faultPlace ob_fresh ob_parts ob_houses ob_houseMany ob_worthOf ob_byCall ob_over ob_bestSet ob_bestOver ob_bestWorth ob_row ob_tenDebts ob_tenMany ob_fewestBy ob_covered ob_queue ob_cameBy ob_parent ob_met ob_calls ob_callMany ob_calledOn ob_saved ob_many ob_width ob_numbers ob_moving), (ce_i16 y ob_calledOn fob_calledOn)] ∧ va_S A s.heap H locs ∧ lv_has ls 4 [(3, .int v_1126), (2, .int v_1002), (0, .ref ob)]) ?_ (fun J_43_1141 => ?_)
      · rintro H locs ls st ⟨rfl, ⟨hP, hD⟩, hS, hl⟩
        obtain ⟨v_1142, ev_1142⟩ : ∃ z : Int32, z = v_1126 + 1 := ⟨_, rfl⟩
        have qv_1142 := ba_add ev_1142 nc_1137.1 (bkc (x := 1) (c := 1) (by decide)) (by decide)
        have bv_1142 : (1 : Int) ≤ v_1142.toInt ∧ v_1142.toInt ≤ 16 := bq_add qv_1142 nc_1137.1 (bkc (x := 1) (c := 1) (by decide)) _ _ (by decide)
        have qv_1142 : v_1142.toInt = v_1126.toInt + (1) := qv_1142
        refine lv_iinc (v := v_1142) (lv' := [(3, .int v_1142), (2, .int v_1002), (0, .ref ob)]) hx hb dX10_ringOf_43 hl (k := 0) rfl (ev_1142.symm) (by decide) rfl (fun ls hl => ?_)
        refine lv_goto (tgt := 18) hx hb dX10_ringOf_46 (by decide) ?_
        exact ih_1136 _ (ml_inc (hi := 16) hn_1136 qv_1142 (by decide) ((bw (0) (16) bv_1142 (by decide))).2) _ _ _ _ ⟨v_1142, rfl, (bw (0) (16) bv_1142 (by decide)), rfl, ⟨hP, hD⟩, hS, lv_sub hl [0, 1, 2] rfl⟩
      · skip
        refine cSim (As := [.int v_1002, .int v_1126]) (rest := []) ⟨hx, hb, hml, hown, hw0⟩ hA hK hP hD hS [] (sX10_holds l G y _ v_1002 v_1126 ) rfl ⟨(callB_of 2 hw0 (gA m_512) rfl rfl rfl (hw0 _ m_41) (hw0 _ m_353) cb_X10_holds ⟨Nat.le_of_ble_eq_true rfl, Nat.le_of_ble_eq_true rfl⟩), (hw0 _ m_354)⟩ rfl hl.1 (Nat.le_of_ble_eq_true rfl) dX10_ringOf_26 ⟨Nat.le_of_ble_eq_true rfl, Nat.le_of_ble_eq_true rfl⟩ (fun r_1143 w_1143 H locs hw_1143 hP hD hS => ?_)
        rcases hw_1143 with ⟨rfl, rfl⟩ | ⟨rfl, rfl⟩
        · skip
          obtain ⟨hP, hD⟩ : vPD G A H [(ce_X10 ob ob_thrown ob_world ob_images ob_hasImage ob_tape ob_taped ob_five ob_size ob_at ob_from ob_token ob_value ob_faultKind ob_faultPlace ob_fresh ob_parts ob_houses ob_houseMany ob_worthOf ob_byCall ob_over ob_bestSet ob_bestOver ob_bestWorth ob_row ob_tenDebts ob_tenMany ob_fewestBy ob_covered ob_queue ob_cameBy ob_parent ob_met ob_calls ob_callMany ob_calledOn ob_saved ob_many ob_width ob_numbers ob_moving), (ce_i16 y ob_calledOn fob_calledOn)] := ⟨hP, hD⟩
          refine lv_if_eq (tgt := 43) hx hb dX10_ringOf_29 (by decide) (fun _ => ?_) (fun c9 => absurd (by decide) c9)
          exact J_43_1141 _ _ _ _ ⟨rfl, ⟨hP, hD⟩, hS, lv_sub hl [0, 1, 2] rfl⟩
        · skip
          obtain ⟨hP, hD⟩ : vPD G A H [(ce_X10 ob ob_thrown ob_world ob_images ob_hasImage ob_tape ob_taped ob_five ob_size ob_at ob_from ob_token ob_value ob_faultKind ob_faultPlace ob_fresh ob_parts ob_houses ob_houseMany ob_worthOf ob_byCall ob_over ob_bestSet ob_bestOver ob_bestWorth ob_row ob_tenDebts ob_tenMany ob_fewestBy ob_covered ob_queue ob_cameBy ob_parent ob_met ob_calls ob_callMany ob_calledOn ob_saved ob_many ob_width ob_numbers ob_moving), (ce_i16 y ob_calledOn fob_calledOn)] := ⟨hP, hD⟩
          refine lv_if_eq (tgt := 43) hx hb dX10_ringOf_29 (by decide) (fun c9 => absurd c9 (by decide)) (fun _ => ?_)
          refine lv_aload_n hx hb dX10_ringOf_32 rfl (lv_at hl 2 rfl) ?_
          refine lv_iload_n hx hb dX10_ringOf_33 rfl (lv_at hl 0 rfl) ?_
          refine cVim (As := [.int v_1126]) (rest := []) ⟨hx, hb, hml, hown, hw0⟩ hA hK hP hD hS [true, true] (sX10_comesTo l G y _ ob v_1126 ob_thrown ob_world ob_images ob_hasImage ob_tape ob_taped ob_five ob_size ob_at ob_from ob_token ob_value ob_faultKind ob_faultPlace ob_fresh ob_parts ob_houses ob_houseMany ob_worthOf ob_byCall ob_over ob_bestSet ob_bestOver ob_bestWorth ob_row ob_tenDebts ob_tenMany ob_fewestBy ob_covered ob_queue ob_cameBy ob_parent ob_met ob_calls ob_callMany ob_calledOn ob_saved ob_many ob_width ob_numbers ob_moving fob_calledOn p_ob_taped p_ob_size p_ob_at p_ob_from p_ob_token p_ob_value p_ob_faultKind p_ob_houseMany p_ob_bestSet p_ob_bestOver p_ob_tenMany p_ob_callMany p_fob_calledOn nc_1137.1) rfl ⟨(callB_of 1 hw0 (gA m_400) rfl rfl rfl (hw0 _ m_41) (hw0 _ m_652) cb_X10_comesTo ⟨Nat.le_of_ble_eq_true rfl, Nat.le_of_ble_eq_true rfl⟩), (hw0 _ m_653), (hw0 _ m_654)⟩ (ci := 10) (q := (RX10, TX10, 41)) rfl rfl rfl hl.1 (Nat.le_of_ble_eq_true rfl) dX10_ringOf_34 ⟨Nat.le_of_ble_eq_true rfl, Nat.le_of_ble_eq_true rfl⟩ (fun r_1144 w_1144 H locs hw_1144 hP hD hS => ?_)
          obtain ⟨v_1145, bv_1145, er_1144, rfl⟩ := hw_1144
          subst r_1144
          obtain ⟨hP, hD⟩ : vPD G A H [(ce_X10 ob ob_thrown ob_world ob_images ob_hasImage ob_tape ob_taped ob_five ob_size ob_at ob_from ob_token ob_value ob_faultKind ob_faultPlace ob_fresh ob_parts ob_houses ob_houseMany ob_worthOf ob_byCall ob_over ob_bestSet ob_bestOver ob_bestWorth ob_row ob_tenDebts ob_tenMany ob_fewestBy ob_covered ob_queue ob_cameBy ob_parent ob_met ob_calls ob_callMany ob_calledOn ob_saved ob_many ob_width ob_numbers ob_moving), (ce_i16 y ob_calledOn fob_calledOn)] := ⟨hP, hD⟩
          refine lv_iload_n hx hb dX10_ringOf_37 rfl (lv_at hl 1 rfl) ?_
          refine lv_icmp_eq (tgt := 43) hx hb dX10_ringOf_38 (by decide) (fun c_1146 => ?_) (fun c_1146 => ?_)
          · skip
            have nc_1146 := nb_eq (0) (65535) c_1146 bv_1145 bv_1002 (by decide)
            exact J_43_1141 _ _ _ _ ⟨rfl, ⟨hP, hD⟩, hS, lv_sub hl [0, 1, 2] rfl⟩
          · skip
            refine lv_iconst (v := 0) hx hb dX10_ringOf_41 (by decide) ?_
            exact W.iret (v := 0) hx hb hr (fun t ht hW => ⟨⟨0, _, rfl, ⟨0, (bw (0) (65535) (bkc (x := 0) (c := 0) (by decide)) (by decide)), rfl, rfl⟩, by rw [ht]; exact hP, hD⟩, hS.F ht⟩) hS.2.2 dX10_ringOf_42
  · skip
    have nc_1005 := nb_nle (1) (2) c_1005 (btop v_1004) (bkc (x := 2) (c := 2) (by decide)) (by decide)
    refine lv_iconst (v := 0) hx hb dX10_ringOf_14 (by decide) ?_
    exact W.iret (v := 0) hx hb hr (fun t ht hW => ⟨⟨0, _, rfl, ⟨0, (bw (0) (65535) (bkc (x := 0) (c := 0) (by decide)) (by decide)), rfl, rfl⟩, by rw [ht]; exact hP, hD⟩, hS.F ht⟩) hS.2.2 dX10_ringOf_15

set_option maxHeartbeats 4000000 in
set_option maxRecDepth 100000 in
theorem sX10_ring (l : Launch) (G : va_G) (y : Nat → ClassId) (sz : Nat) (ob : Nat) (a1 : Int32) (ob_thrown : Int32) (ob_world : Nat) (ob_images : Nat) (ob_hasImage : Nat) (ob_tape : Nat) (ob_taped : Int32) (ob_five : Nat) (ob_size : Int32) (ob_at : Int32) (ob_from : Int32) (ob_token : Int32) (ob_value : Int32) (ob_faultKind : Int32) (ob_faultPlace : Int32) (ob_fresh : Nat) (ob_parts : Nat) (ob_houses : Nat) (ob_houseMany : Int32) (ob_worthOf : Nat) (ob_byCall : Nat) (ob_over : Nat) (ob_bestSet : Int32) (ob_bestOver : Int32) (ob_bestWorth : Int32) (ob_row : Nat) (ob_tenDebts : Nat) (ob_tenMany : Int32) (ob_fewestBy : Nat) (ob_covered : Nat) (ob_queue : Nat) (ob_cameBy : Nat) (ob_parent : Nat) (ob_met : Nat) (ob_calls : Nat) (ob_callMany : Int32) (ob_calledOn : Nat) (ob_saved : Nat) (ob_many : Nat) (ob_width : Nat) (ob_numbers : Nat) (ob_moving : Nat) (fob_world : Nat → Int32) (fob_calledOn : Nat → Int32) (p_fob_world : RWw fob_world) (p_ob_taped : (0 : Int) ≤ ob_taped.toInt ∧ ob_taped.toInt ≤ 1400) (p_ob_size : (0 : Int) ≤ ob_size.toInt ∧ ob_size.toInt ≤ 1400) (p_ob_at : (0 : Int) ≤ ob_at.toInt ∧ ob_at.toInt ≤ 1400) (p_ob_from : (0 : Int) ≤ ob_from.toInt ∧ ob_from.toInt ≤ 1400) (p_ob_token : (0 : Int) ≤ ob_token.toInt ∧ ob_token.toInt ≤ 4) (p_ob_value : (0 : Int) ≤ ob_value.toInt ∧ ob_value.toInt ≤ 9999) (p_ob_faultKind : (0 : Int) ≤ ob_faultKind.toInt ∧ ob_faultKind.toInt ≤ 3) (p_ob_houseMany : (0 : Int) ≤ ob_houseMany.toInt ∧ ob_houseMany.toInt ≤ 10) (p_ob_bestSet : (0 : Int) ≤ ob_bestSet.toInt ∧ ob_bestSet.toInt ≤ 1023) (p_ob_bestOver : (-1 : Int) ≤ ob_bestOver.toInt ∧ ob_bestOver.toInt ≤ 180) (p_ob_tenMany : (0 : Int) ≤ ob_tenMany.toInt ∧ ob_tenMany.toInt ≤ 10) (p_ob_callMany : (0 : Int) ≤ ob_callMany.toInt ∧ ob_callMany.toInt ≤ 16) (p_fob_calledOn : ∀ i, (0 : Int) ≤ (fob_calledOn i).toInt ∧ (fob_calledOn i).toInt ≤ 65535) : Met l yX10_ring (Cond.code yX10_ring cX10_ring 2 (some .int) :: wAll) ({ frames := 3, cells := 0, slots := 0, locals := 68 }) (va_Pc [.ref ob, .int a1] (kp G y sz [(ce_X10 ob ob_thrown ob_world ob_images ob_hasImage ob_tape ob_taped ob_five ob_size ob_at ob_from ob_token ob_value ob_faultKind ob_faultPlace ob_fresh ob_parts ob_houses ob_houseMany ob_worthOf ob_byCall ob_over ob_bestSet ob_bestOver ob_bestWorth ob_row ob_tenDebts ob_tenMany ob_fewestBy ob_covered ob_queue ob_cameBy ob_parent ob_met ob_calls ob_callMany ob_calledOn ob_saved ob_many ob_width ob_numbers ob_moving), (ce_i9080 y ob_world fob_world), (ce_i16 y ob_calledOn fob_calledOn)])) (va_Qi (fun (r : Int32) (w : va_W) => (∃ (v_13 : Int32) (f_14 : Nat → Int32), ((-2 : Int) ≤ v_13.toInt ∧ v_13.toInt ≤ 65535) ∧ (∀ i, (0 : Int) ≤ (f_14 i).toInt ∧ (f_14 i).toInt ≤ 65535) ∧ r = v_13 ∧ w = [(ce_X10 ob ob_thrown ob_world ob_images ob_hasImage ob_tape ob_taped ob_five ob_size ob_at ob_from ob_token ob_value ob_faultKind ob_faultPlace ob_fresh ob_parts ob_houses ob_houseMany ob_worthOf ob_byCall ob_over ob_bestSet ob_bestOver ob_bestWorth ob_row ob_tenDebts ob_tenMany ob_fewestBy ob_covered ob_queue ob_cameBy ob_parent ob_met ob_calls ob_callMany ob_calledOn ob_saved ob_many ob_width ob_numbers ob_moving), (ce_i9080 y ob_world fob_world), (ce_i16 y ob_calledOn f_14)])) (kq G (va_A [(ce_X10 ob ob_thrown ob_world ob_images ob_hasImage ob_tape ob_taped ob_five ob_size ob_at ob_from ob_token ob_value ob_faultKind ob_faultPlace ob_fresh ob_parts ob_houses ob_houseMany ob_worthOf ob_byCall ob_over ob_bestSet ob_bestOver ob_bestWorth ob_row ob_tenDebts ob_tenMany ob_fewestBy ob_covered ob_queue ob_cameBy ob_parent ob_met ob_calls ob_callMany ob_calledOn ob_saved ob_many ob_width ob_numbers ob_moving), (ce_i9080 y ob_world fob_world), (ce_i16 y ob_calledOn fob_calledOn)] sz)) (va_A [(ce_X10 ob ob_thrown ob_world ob_images ob_hasImage ob_tape ob_taped ob_five ob_size ob_at ob_from ob_token ob_value ob_faultKind ob_faultPlace ob_fresh ob_parts ob_houses ob_houseMany ob_worthOf ob_byCall ob_over ob_bestSet ob_bestOver ob_bestWorth ob_row ob_tenDebts ob_tenMany ob_fewestBy ob_covered ob_queue ob_cameBy ob_parent ob_met ob_calls ob_callMany ob_calledOn ob_saved ob_many ob_width ob_numbers ob_moving), (ce_i9080 y ob_world fob_world), (ce_i16 y ob_calledOn fob_calledOn)] sz)) 0 0 (va_A [(ce_X10 ob ob_thrown ob_world ob_images ob_hasImage ob_tape ob_taped ob_five ob_size ob_at ob_from ob_token ob_value ob_faultKind ob_faultPlace ob_fresh ob_parts ob_houses ob_houseMany ob_worthOf ob_byCall ob_over ob_bestSet ob_bestOver ob_bestWorth ob_row ob_tenDebts ob_tenMany ob_fewestBy ob_covered ob_queue ob_cameBy ob_parent ob_met ob_calls ob_callMany ob_calledOn ob_saved ob_many ob_width ob_numbers ob_moving), (ce_i9080 y ob_world fob_world), (ce_i16 y ob_calledOn fob_calledOn)] sz) := by
  refine Met.ofW (cc := cX10_ring) (maxL := 2) (ret := (some .int)) (by decide) rfl ?_
  intro p e s m args below meth c s₁ B hml hv
  obtain ⟨rfl, hsz, hP, hK, hD0⟩ := hv
  have hx := B.exec
  have hb := B.bytes
  have hr := B.returns
  have hw0 : ∀ w ∈ wAll, w.before _ s = true := fun w h => atoms_spec (ws := Cond.code yX10_ring cX10_ring 2 (some .int) :: wAll) B.pre w (List.mem_cons_of_mem _ h)
  have hown : s.vm.findClass RX10 = some m.cls := findClass_of_methodNamed B.named
  subst hsz
  have hD := hD0.self (sz := s.heap.size)
  generalize hAe : va_A [(ce_X10 ob ob_thrown ob_world ob_images ob_hasImage ob_tape ob_taped ob_five ob_size ob_at ob_from ob_token ob_value ob_faultKind ob_faultPlace ob_fresh ob_parts ob_houses ob_houseMany ob_worthOf ob_byCall ob_over ob_bestSet ob_bestOver ob_bestWorth ob_row ob_tenDebts ob_tenMany ob_fewestBy ob_covered ob_queue ob_cameBy ob_parent ob_met ob_calls ob_callMany ob_calledOn ob_saved ob_many ob_width ob_numbers ob_moving), (ce_i9080 y ob_world fob_world), (ce_i16 y ob_calledOn fob_calledOn)] s.heap.size = A at hD ⊢
  have hA : ∀ q : Nat, s.heap.size ≤ q → A q := fun q h => by rw [← hAe]; exact Or.inr h
  have hS : va_S A s.heap s.heap [] := va_S.rf
  have hP : va_P G vwCl [(ce_X10 ob ob_thrown ob_world ob_images ob_hasImage ob_tape ob_taped ob_five ob_size ob_at ob_from ob_token ob_value ob_faultKind ob_faultPlace ob_fresh ob_parts ob_houses ob_houseMany ob_worthOf ob_byCall ob_over ob_bestSet ob_bestOver ob_bestWorth ob_row ob_tenDebts ob_tenMany ob_fewestBy ob_covered ob_queue ob_cameBy ob_parent ob_met ob_calls ob_callMany ob_calledOn ob_saved ob_many ob_width ob_numbers ob_moving), (ce_i9080 y ob_world fob_world), (ce_i16 y ob_calledOn fob_calledOn)] s.heap := hP
  have hl := lv_entry ([.ref ob, .int a1]) (n := 2) (Nat.le_of_ble_eq_true rfl)
  rw [lg_entry_eq]
  generalize (lg_sl ([.ref ob, .int a1]) ++ List.replicate (2 - (lg_sl ([.ref ob, .int a1])).length) Slot.unset).toArray = ls at hl ⊢
  have hl : lv_has ls 2 [(0, .ref ob), (1, .int a1)] := hl
  refine lv_aload_n hx hb dX10_ring_0 rfl (lv_at hl 0 rfl) ?_
  refine lv_iload_n hx hb dX10_ring_1 rfl (lv_at hl 1 rfl) ?_
  refine cVim (As := [.int a1]) (rest := []) ⟨hx, hb, hml, hown, hw0⟩ hA hK hP hD hS [true, true] (sX10_isHouse l G y _ ob a1 ob_thrown ob_world ob_images ob_hasImage ob_tape ob_taped ob_five ob_size ob_at ob_from ob_token ob_value ob_faultKind ob_faultPlace ob_fresh ob_parts ob_houses ob_houseMany ob_worthOf ob_byCall ob_over ob_bestSet ob_bestOver ob_bestWorth ob_row ob_tenDebts ob_tenMany ob_fewestBy ob_covered ob_queue ob_cameBy ob_parent ob_met ob_calls ob_callMany ob_calledOn ob_saved ob_many ob_width ob_numbers ob_moving fob_world p_fob_world p_ob_taped p_ob_size p_ob_at p_ob_from p_ob_token p_ob_value p_ob_faultKind p_ob_houseMany p_ob_bestSet p_ob_bestOver p_ob_tenMany p_ob_callMany) rfl ⟨(callB_of 1 hw0 (gA m_537) rfl rfl rfl (hw0 _ m_41) (hw0 _ m_356) cb_X10_isHouse ⟨Nat.le_of_ble_eq_true rfl, Nat.le_of_ble_eq_true rfl⟩), (hw0 _ m_357), (hw0 _ m_358)⟩ (ci := 10) (q := (RX10, TX10, 41)) rfl rfl rfl hl.1 (Nat.le_of_ble_eq_true rfl) dX10_ring_2 ⟨Nat.le_of_ble_eq_true rfl, Nat.le_of_ble_eq_true rfl⟩ (fun r_1001 w_1001 H locs hw_1001 hP hD hS => ?_)
  rcases hw_1001 with ⟨rfl, rfl⟩ | ⟨h_1002, rfl, rfl⟩
  · skip
    obtain ⟨hP, hD⟩ : vPD G A H [(ce_X10 ob ob_thrown ob_world ob_images ob_hasImage ob_tape ob_taped ob_five ob_size ob_at ob_from ob_token ob_value ob_faultKind ob_faultPlace ob_fresh ob_parts ob_houses ob_houseMany ob_worthOf ob_byCall ob_over ob_bestSet ob_bestOver ob_bestWorth ob_row ob_tenDebts ob_tenMany ob_fewestBy ob_covered ob_queue ob_cameBy ob_parent ob_met ob_calls ob_callMany ob_calledOn ob_saved ob_many ob_width ob_numbers ob_moving), (ce_i9080 y ob_world fob_world), (ce_i16 y ob_calledOn fob_calledOn)] := ⟨hP, hD⟩
    refine lv_if_ne (tgt := 11) hx hb dX10_ring_5 (by decide) (fun c9 => absurd (by decide) c9) (fun _ => ?_)
    refine lv_bipush (v := (-2)) hx hb dX10_ring_8 (by decide) ?_
    exact W.iret (v := (-2)) hx hb hr (fun t ht hW => ⟨⟨(-2), _, rfl, ⟨(-2), fob_calledOn, (bw (-2) (65535) (bkc (x := (-2)) (c := -2) (by decide)) (by decide)), p_fob_calledOn, rfl, rfl⟩, by rw [ht]; exact hP, hD⟩, hS.F ht⟩) hS.2.2 dX10_ring_10
  · skip
    obtain ⟨hP, hD⟩ : vPD G A H [(ce_X10 ob ob_thrown ob_world ob_images ob_hasImage ob_tape ob_taped ob_five ob_size ob_at ob_from ob_token ob_value ob_faultKind ob_faultPlace ob_fresh ob_parts ob_houses ob_houseMany ob_worthOf ob_byCall ob_over ob_bestSet ob_bestOver ob_bestWorth ob_row ob_tenDebts ob_tenMany ob_fewestBy ob_covered ob_queue ob_cameBy ob_parent ob_met ob_calls ob_callMany ob_calledOn ob_saved ob_many ob_width ob_numbers ob_moving), (ce_i9080 y ob_world fob_world), (ce_i16 y ob_calledOn fob_calledOn)] := ⟨hP, hD⟩
    refine lv_if_ne (tgt := 11) hx hb dX10_ring_5 (by decide) (fun _ => ?_) (fun c9 => absurd c9 (by decide))
    refine lv_aload_n hx hb dX10_ring_11 rfl (lv_at hl 0 rfl) ?_
    refine cVvm (As := []) (rest := []) ⟨hx, hb, hml, hown, hw0⟩ hA hK hP hD hS [true, true, true] (sX10_callsAll l G y _ ob ob_thrown ob_world ob_images ob_hasImage ob_tape ob_taped ob_five ob_size ob_at ob_from ob_token ob_value ob_faultKind ob_faultPlace ob_fresh ob_parts ob_houses ob_houseMany ob_worthOf ob_byCall ob_over ob_bestSet ob_bestOver ob_bestWorth ob_row ob_tenDebts ob_tenMany ob_fewestBy ob_covered ob_queue ob_cameBy ob_parent ob_met ob_calls ob_callMany ob_calledOn ob_saved ob_many ob_width ob_numbers ob_moving fob_world fob_calledOn p_fob_world p_ob_taped p_ob_size p_ob_at p_ob_from p_ob_token p_ob_value p_ob_faultKind p_ob_houseMany p_ob_bestSet p_ob_bestOver p_ob_tenMany p_ob_callMany p_fob_calledOn) rfl ⟨(callB_of 0 hw0 (gA m_396) rfl rfl rfl (hw0 _ m_41) (hw0 _ m_645) cb_X10_callsAll ⟨Nat.le_of_ble_eq_true rfl, Nat.le_of_ble_eq_true rfl⟩), (hw0 _ m_646), (hw0 _ m_647)⟩ (ci := 10) (q := (RX10, TX10, 41)) rfl rfl rfl hl.1 (Nat.le_of_ble_eq_true rfl) dX10_ring_12 ⟨Nat.le_of_ble_eq_true rfl, Nat.le_of_ble_eq_true rfl⟩ (fun w_1003 H locs hw_1003 hP hD hS => ?_)
    obtain ⟨f_1004, bf_1004, rfl⟩ := hw_1003
    obtain ⟨hP, hD⟩ : vPD G A H [(ce_X10 ob ob_thrown ob_world ob_images ob_hasImage ob_tape ob_taped ob_five ob_size ob_at ob_from ob_token ob_value ob_faultKind ob_faultPlace ob_fresh ob_parts ob_houses ob_houseMany ob_worthOf ob_byCall ob_over ob_bestSet ob_bestOver ob_bestWorth ob_row ob_tenDebts ob_tenMany ob_fewestBy ob_covered ob_queue ob_cameBy ob_parent ob_met ob_calls ob_callMany ob_calledOn ob_saved ob_many ob_width ob_numbers ob_moving), (ce_i9080 y ob_world fob_world), (ce_i16 y ob_calledOn f_1004)] := ⟨hP, hD⟩
    refine lv_aload_n hx hb dX10_ring_15 rfl (lv_at hl 0 rfl) ?_
    refine lv_iload_n hx hb dX10_ring_16 rfl (lv_at hl 1 rfl) ?_
    refine cVim (As := [.int a1]) (rest := []) ⟨hx, hb, hml, hown, hw0⟩ hA hK hP hD hS [true, false, true] (sX10_ringOf l G y _ ob a1 ob_thrown ob_world ob_images ob_hasImage ob_tape ob_taped ob_five ob_size ob_at ob_from ob_token ob_value ob_faultKind ob_faultPlace ob_fresh ob_parts ob_houses ob_houseMany ob_worthOf ob_byCall ob_over ob_bestSet ob_bestOver ob_bestWorth ob_row ob_tenDebts ob_tenMany ob_fewestBy ob_covered ob_queue ob_cameBy ob_parent ob_met ob_calls ob_callMany ob_calledOn ob_saved ob_many ob_width ob_numbers ob_moving f_1004 p_ob_taped p_ob_size p_ob_at p_ob_from p_ob_token p_ob_value p_ob_faultKind p_ob_houseMany p_ob_bestSet p_ob_bestOver p_ob_tenMany p_ob_callMany bf_1004 h_1002) rfl ⟨(callB_of 1 hw0 (gA m_651) rfl rfl rfl (hw0 _ m_41) (hw0 _ m_648) cb_X10_ringOf ⟨Nat.le_of_ble_eq_true rfl, Nat.le_of_ble_eq_true rfl⟩), (hw0 _ m_649), (hw0 _ m_650)⟩ (ci := 10) (q := (RX10, TX10, 41)) rfl rfl rfl hl.1 (Nat.le_of_ble_eq_true rfl) dX10_ring_17 ⟨Nat.le_of_ble_eq_true rfl, Nat.le_of_ble_eq_true rfl⟩ (fun r_1005 w_1005 H locs hw_1005 hP hD hS => ?_)
    obtain ⟨v_1006, bv_1006, er_1005, rfl⟩ := hw_1005
    subst r_1005
    obtain ⟨hP, hD⟩ : vPD G A H [(ce_X10 ob ob_thrown ob_world ob_images ob_hasImage ob_tape ob_taped ob_five ob_size ob_at ob_from ob_token ob_value ob_faultKind ob_faultPlace ob_fresh ob_parts ob_houses ob_houseMany ob_worthOf ob_byCall ob_over ob_bestSet ob_bestOver ob_bestWorth ob_row ob_tenDebts ob_tenMany ob_fewestBy ob_covered ob_queue ob_cameBy ob_parent ob_met ob_calls ob_callMany ob_calledOn ob_saved ob_many ob_width ob_numbers ob_moving), (ce_i9080 y ob_world fob_world), (ce_i16 y ob_calledOn f_1004)] := ⟨hP, hD⟩
    exact W.iret (v := v_1006) hx hb hr (fun t ht hW => ⟨⟨v_1006, _, rfl, ⟨v_1006, f_1004, (bw (-2) (65535) bv_1006 (by decide)), bf_1004, rfl, rfl⟩, by rw [ht]; exact hP, hD⟩, hS.F ht⟩) hS.2.2 dX10_ring_20

set_option maxHeartbeats 4000000 in
set_option maxRecDepth 100000 in
theorem sX10_rings (l : Launch) (G : va_G) (y : Nat → ClassId) (sz : Nat) (ob : Nat) (ob_thrown : Int32) (ob_world : Nat) (ob_images : Nat) (ob_hasImage : Nat) (ob_tape : Nat) (ob_taped : Int32) (ob_five : Nat) (ob_size : Int32) (ob_at : Int32) (ob_from : Int32) (ob_token : Int32) (ob_value : Int32) (ob_faultKind : Int32) (ob_faultPlace : Int32) (ob_fresh : Nat) (ob_parts : Nat) (ob_houses : Nat) (ob_houseMany : Int32) (ob_worthOf : Nat) (ob_byCall : Nat) (ob_over : Nat) (ob_bestSet : Int32) (ob_bestOver : Int32) (ob_bestWorth : Int32) (ob_row : Nat) (ob_tenDebts : Nat) (ob_tenMany : Int32) (ob_fewestBy : Nat) (ob_covered : Nat) (ob_queue : Nat) (ob_cameBy : Nat) (ob_parent : Nat) (ob_met : Nat) (ob_calls : Nat) (ob_callMany : Int32) (ob_calledOn : Nat) (ob_saved : Nat) (ob_many : Nat) (ob_width : Nat) (ob_numbers : Nat) (ob_moving : Nat) (fob_world : Nat → Int32) (fob_calledOn : Nat → Int32) (p_fob_world : RWw fob_world) (p_ob_taped : (0 : Int) ≤ ob_taped.toInt ∧ ob_taped.toInt ≤ 1400) (p_ob_size : (0 : Int) ≤ ob_size.toInt ∧ ob_size.toInt ≤ 1400) (p_ob_at : (0 : Int) ≤ ob_at.toInt ∧ ob_at.toInt ≤ 1400) (p_ob_from : (0 : Int) ≤ ob_from.toInt ∧ ob_from.toInt ≤ 1400) (p_ob_token : (0 : Int) ≤ ob_token.toInt ∧ ob_token.toInt ≤ 4) (p_ob_value : (0 : Int) ≤ ob_value.toInt ∧ ob_value.toInt ≤ 9999) (p_ob_faultKind : (0 : Int) ≤ ob_faultKind.toInt ∧ ob_faultKind.toInt ≤ 3) (p_ob_houseMany : (0 : Int) ≤ ob_houseMany.toInt ∧ ob_houseMany.toInt ≤ 10) (p_ob_bestSet : (0 : Int) ≤ ob_bestSet.toInt ∧ ob_bestSet.toInt ≤ 1023) (p_ob_bestOver : (-1 : Int) ≤ ob_bestOver.toInt ∧ ob_bestOver.toInt ≤ 180) (p_ob_tenMany : (0 : Int) ≤ ob_tenMany.toInt ∧ ob_tenMany.toInt ≤ 10) (p_ob_callMany : (0 : Int) ≤ ob_callMany.toInt ∧ ob_callMany.toInt ≤ 16) (p_fob_calledOn : ∀ i, (0 : Int) ≤ (fob_calledOn i).toInt ∧ (fob_calledOn i).toInt ≤ 65535) : Met l yX10_rings (Cond.code yX10_rings cX10_rings 4 (some .int) :: wAll) ({ frames := 3, cells := 0, slots := 0, locals := 68 }) (va_Pc [.ref ob] (kp G y sz [(ce_X10 ob ob_thrown ob_world ob_images ob_hasImage ob_tape ob_taped ob_five ob_size ob_at ob_from ob_token ob_value ob_faultKind ob_faultPlace ob_fresh ob_parts ob_houses ob_houseMany ob_worthOf ob_byCall ob_over ob_bestSet ob_bestOver ob_bestWorth ob_row ob_tenDebts ob_tenMany ob_fewestBy ob_covered ob_queue ob_cameBy ob_parent ob_met ob_calls ob_callMany ob_calledOn ob_saved ob_many ob_width ob_numbers ob_moving), (ce_i9080 y ob_world fob_world), (ce_i16 y ob_calledOn fob_calledOn)])) (va_Qi (fun (r : Int32) (w : va_W) => (∃ (v_857 : Int32) (f_858 : Nat → Int32), (∀ i, (0 : Int) ≤ (f_858 i).toInt ∧ (f_858 i).toInt ≤ 65535) ∧ r = v_857 ∧ w = [(ce_X10 ob ob_thrown ob_world ob_images ob_hasImage ob_tape ob_taped ob_five ob_size ob_at ob_from ob_token ob_value ob_faultKind ob_faultPlace ob_fresh ob_parts ob_houses ob_houseMany ob_worthOf ob_byCall ob_over ob_bestSet ob_bestOver ob_bestWorth ob_row ob_tenDebts ob_tenMany ob_fewestBy ob_covered ob_queue ob_cameBy ob_parent ob_met ob_calls ob_callMany ob_calledOn ob_saved ob_many ob_width ob_numbers ob_moving), (ce_i9080 y ob_world fob_world), (ce_i16 y ob_calledOn f_858)])) (kq G (va_A [(ce_X10 ob ob_thrown ob_world ob_images ob_hasImage ob_tape ob_taped ob_five ob_size ob_at ob_from ob_token ob_value ob_faultKind ob_faultPlace ob_fresh ob_parts ob_houses ob_houseMany ob_worthOf ob_byCall ob_over ob_bestSet ob_bestOver ob_bestWorth ob_row ob_tenDebts ob_tenMany ob_fewestBy ob_covered ob_queue ob_cameBy ob_parent ob_met ob_calls ob_callMany ob_calledOn ob_saved ob_many ob_width ob_numbers ob_moving), (ce_i9080 y ob_world fob_world), (ce_i16 y ob_calledOn fob_calledOn)] sz)) (va_A [(ce_X10 ob ob_thrown ob_world ob_images ob_hasImage ob_tape ob_taped ob_five ob_size ob_at ob_from ob_token ob_value ob_faultKind ob_faultPlace ob_fresh ob_parts ob_houses ob_houseMany ob_worthOf ob_byCall ob_over ob_bestSet ob_bestOver ob_bestWorth ob_row ob_tenDebts ob_tenMany ob_fewestBy ob_covered ob_queue ob_cameBy ob_parent ob_met ob_calls ob_callMany ob_calledOn ob_saved ob_many ob_width ob_numbers ob_moving), (ce_i9080 y ob_world fob_world), (ce_i16 y ob_calledOn fob_calledOn)] sz)) 0 0 (va_A [(ce_X10 ob ob_thrown ob_world ob_images ob_hasImage ob_tape ob_taped ob_five ob_size ob_at ob_from ob_token ob_value ob_faultKind ob_faultPlace ob_fresh ob_parts ob_houses ob_houseMany ob_worthOf ob_byCall ob_over ob_bestSet ob_bestOver ob_bestWorth ob_row ob_tenDebts ob_tenMany ob_fewestBy ob_covered ob_queue ob_cameBy ob_parent ob_met ob_calls ob_callMany ob_calledOn ob_saved ob_many ob_width ob_numbers ob_moving), (ce_i9080 y ob_world fob_world), (ce_i16 y ob_calledOn fob_calledOn)] sz) := by
  refine Met.ofW (cc := cX10_rings) (maxL := 4) (ret := (some .int)) (by decide) rfl ?_
  intro p e s m args below meth c s₁ B hml hv
  obtain ⟨rfl, hsz, hP, hK, hD0⟩ := hv
  have hx := B.exec
  have hb := B.bytes
  have hr := B.returns
  have hw0 : ∀ w ∈ wAll, w.before _ s = true := fun w h => atoms_spec (ws := Cond.code yX10_rings cX10_rings 4 (some .int) :: wAll) B.pre w (List.mem_cons_of_mem _ h)
  have hown : s.vm.findClass RX10 = some m.cls := findClass_of_methodNamed B.named
  subst hsz
  have hD := hD0.self (sz := s.heap.size)
  generalize hAe : va_A [(ce_X10 ob ob_thrown ob_world ob_images ob_hasImage ob_tape ob_taped ob_five ob_size ob_at ob_from ob_token ob_value ob_faultKind ob_faultPlace ob_fresh ob_parts ob_houses ob_houseMany ob_worthOf ob_byCall ob_over ob_bestSet ob_bestOver ob_bestWorth ob_row ob_tenDebts ob_tenMany ob_fewestBy ob_covered ob_queue ob_cameBy ob_parent ob_met ob_calls ob_callMany ob_calledOn ob_saved ob_many ob_width ob_numbers ob_moving), (ce_i9080 y ob_world fob_world), (ce_i16 y ob_calledOn fob_calledOn)] s.heap.size = A at hD ⊢
  have hA : ∀ q : Nat, s.heap.size ≤ q → A q := fun q h => by rw [← hAe]; exact Or.inr h
  have hS : va_S A s.heap s.heap [] := va_S.rf
  have hP : va_P G vwCl [(ce_X10 ob ob_thrown ob_world ob_images ob_hasImage ob_tape ob_taped ob_five ob_size ob_at ob_from ob_token ob_value ob_faultKind ob_faultPlace ob_fresh ob_parts ob_houses ob_houseMany ob_worthOf ob_byCall ob_over ob_bestSet ob_bestOver ob_bestWorth ob_row ob_tenDebts ob_tenMany ob_fewestBy ob_covered ob_queue ob_cameBy ob_parent ob_met ob_calls ob_callMany ob_calledOn ob_saved ob_many ob_width ob_numbers ob_moving), (ce_i9080 y ob_world fob_world), (ce_i16 y ob_calledOn fob_calledOn)] s.heap := hP
  have hl := lv_entry ([.ref ob]) (n := 4) (Nat.le_of_ble_eq_true rfl)
  rw [lg_entry_eq]
  generalize (lg_sl ([.ref ob]) ++ List.replicate (4 - (lg_sl ([.ref ob])).length) Slot.unset).toArray = ls at hl ⊢
  have hl : lv_has ls 4 [(0, .ref ob)] := hl
  refine lv_aload_n hx hb dX10_rings_0 rfl (lv_at hl 0 rfl) ?_
  refine cVvm (As := []) (rest := []) ⟨hx, hb, hml, hown, hw0⟩ hA hK hP hD hS [true, true, true] (sX10_callsAll l G y _ ob ob_thrown ob_world ob_images ob_hasImage ob_tape ob_taped ob_five ob_size ob_at ob_from ob_token ob_value ob_faultKind ob_faultPlace ob_fresh ob_parts ob_houses ob_houseMany ob_worthOf ob_byCall ob_over ob_bestSet ob_bestOver ob_bestWorth ob_row ob_tenDebts ob_tenMany ob_fewestBy ob_covered ob_queue ob_cameBy ob_parent ob_met ob_calls ob_callMany ob_calledOn ob_saved ob_many ob_width ob_numbers ob_moving fob_world fob_calledOn p_fob_world p_ob_taped p_ob_size p_ob_at p_ob_from p_ob_token p_ob_value p_ob_faultKind p_ob_houseMany p_ob_bestSet p_ob_bestOver p_ob_tenMany p_ob_callMany p_fob_calledOn) rfl ⟨(callB_of 0 hw0 (gA m_396) rfl rfl rfl (hw0 _ m_41) (hw0 _ m_645) cb_X10_callsAll ⟨Nat.le_of_ble_eq_true rfl, Nat.le_of_ble_eq_true rfl⟩), (hw0 _ m_646), (hw0 _ m_647)⟩ (ci := 10) (q := (RX10, TX10, 41)) rfl rfl rfl hl.1 (Nat.le_of_ble_eq_true rfl) dX10_rings_1 ⟨Nat.le_of_ble_eq_true rfl, Nat.le_of_ble_eq_true rfl⟩ (fun w_1001 H locs hw_1001 hP hD hS => ?_)
  obtain ⟨f_1002, bf_1002, rfl⟩ := hw_1001
  obtain ⟨hP, hD⟩ : vPD G A H [(ce_X10 ob ob_thrown ob_world ob_images ob_hasImage ob_tape ob_taped ob_five ob_size ob_at ob_from ob_token ob_value ob_faultKind ob_faultPlace ob_fresh ob_parts ob_houses ob_houseMany ob_worthOf ob_byCall ob_over ob_bestSet ob_bestOver ob_bestWorth ob_row ob_tenDebts ob_tenMany ob_fewestBy ob_covered ob_queue ob_cameBy ob_parent ob_met ob_calls ob_callMany ob_calledOn ob_saved ob_many ob_width ob_numbers ob_moving), (ce_i9080 y ob_world fob_world), (ce_i16 y ob_calledOn f_1002)] := ⟨hP, hD⟩
  refine lv_iconst (v := 0) hx hb dX10_rings_4 (by decide) ?_
  refine lv_istore_n (lv' := [(1, .int 0), (0, .ref ob)]) hx hb dX10_rings_5 rfl hl (by decide) rfl (fun ls hl => ?_)
  refine lv_iconst (v := 0) hx hb dX10_rings_6 (by decide) ?_
  refine lv_istore_n (lv' := [(2, .int 0), (1, .int 0), (0, .ref ob)]) hx hb dX10_rings_7 rfl hl (by decide) rfl (fun ls hl => ?_)
  refine loopX (fun n H locs ls st => ∃ (v_1373 : Int32) (v_1374 : Int32), (16 - v_1373.toInt).toNat = n ∧ ((0 : Int) ≤ v_1373.toInt ∧ v_1373.toInt ≤ 16) ∧ st = [] ∧ vPD G A H [(ce_X10 ob ob_thrown ob_world ob_images ob_hasImage ob_tape ob_taped ob_five ob_size ob_at ob_from ob_token ob_value ob_faultKind ob_faultPlace ob_fresh ob_parts ob_houses ob_houseMany ob_worthOf ob_byCall ob_over ob_bestSet ob_bestOver ob_bestWorth ob_row ob_tenDebts ob_tenMany ob_fewestBy ob_covered ob_queue ob_cameBy ob_parent ob_met ob_calls ob_callMany ob_calledOn ob_saved ob_many ob_width ob_numbers ob_moving), (ce_i9080 y ob_world fob_world), (ce_i16 y ob_calledOn f_1002)] ∧ va_S A s.heap H locs ∧ lv_has ls 4 [(2, .int v_1373), (1, .int v_1374), (0, .ref ob)]) ?_ (n := (16 - (0 : Int32).toInt).toNat) ⟨0, 0, rfl, (bw (0) (16) (bkc (x := 0) (c := 0) (by decide)) (by decide)), rfl, ⟨hP, hD⟩, hS, lv_sub hl [0, 1, 2] rfl⟩
  rintro n ih_1401 H locs ls st ⟨v_1373, v_1374, hn_1401, bv_1373, rfl, ⟨hP, hD⟩, hS, hl⟩
  refine lv_iload_n hx hb dX10_rings_8 rfl (lv_at hl 0 rfl) ?_
  refine lv_aload_n hx hb dX10_rings_9 rfl (lv_at hl 2 rfl) ?_
  refine va_get (D := G) (ci := 10) (v := .ref ob_world) (C := RX10) (T := TX10) (N := 41) hx hb hw0 inA_wsX100 hown hK.1 hP 0 rfl rfl 1 (by decide) (hw0 _ m_352) (fun _ h9 => h9) rfl dX10_rings_10 ?_
  refine lv_iconst (v := 0) hx hb dX10_rings_13 (by decide) ?_
  refine va_iald hx hb hK.1 hP 1 1 rfl rfl (vi (bkc (x := 0) (c := 0) (by decide)) (by decide)) dX10_rings_14 ?_
  refine lv_topi (fun v_1402 ev_1402 => ?_)
  have bv_1402 : (0 : Int) ≤ v_1402.toInt ∧ v_1402.toInt ≤ 16 := rdk ev_1402 (p_fob_world).1.1 (by decide)
  refine lv_icmp_ge (tgt := 52) hx hb dX10_rings_15 (by decide) (fun c_1403 => ?_) (fun c_1403 => ?_)
  · skip
    have nc_1403 := nb_le (16) (0) c_1403 bv_1402 bv_1373 (by decide)
    refine lv_iload_n hx hb dX10_rings_52 rfl (lv_at hl 1 rfl) ?_
    exact W.iret (v := v_1374) hx hb hr (fun t ht hW => ⟨⟨v_1374, _, rfl, ⟨v_1374, f_1002, bf_1002, rfl, rfl⟩, by rw [ht]; exact hP, hD⟩, hS.F ht⟩) hS.2.2 dX10_rings_53
  · skip
    have nc_1403 := nb_nle (15) (1) c_1403 bv_1373 bv_1402 (by decide)
    refine lv_aload_n hx hb dX10_rings_18 rfl (lv_at hl 2 rfl) ?_
    refine lv_iload_n hx hb dX10_rings_19 rfl (lv_at hl 0 rfl) ?_
    refine cVim (As := [.int v_1373]) (rest := []) ⟨hx, hb, hml, hown, hw0⟩ hA hK hP hD hS [true, false, true] (sX10_ringOf l G y _ ob v_1373 ob_thrown ob_world ob_images ob_hasImage ob_tape ob_taped ob_five ob_size ob_at ob_from ob_token ob_value ob_faultKind ob_faultPlace ob_fresh ob_parts ob_houses ob_houseMany ob_worthOf ob_byCall ob_over ob_bestSet ob_bestOver ob_bestWorth ob_row ob_tenDebts ob_tenMany ob_fewestBy ob_covered ob_queue ob_cameBy ob_parent ob_met ob_calls ob_callMany ob_calledOn ob_saved ob_many ob_width ob_numbers ob_moving f_1002 p_ob_taped p_ob_size p_ob_at p_ob_from p_ob_token p_ob_value p_ob_faultKind p_ob_houseMany p_ob_bestSet p_ob_bestOver p_ob_tenMany p_ob_callMany bf_1002 nc_1403.1) rfl ⟨(callB_of 1 hw0 (gA m_651) rfl rfl rfl (hw0 _ m_41) (hw0 _ m_648) cb_X10_ringOf ⟨Nat.le_of_ble_eq_true rfl, Nat.le_of_ble_eq_true rfl⟩), (hw0 _ m_649), (hw0 _ m_650)⟩ (ci := 10) (q := (RX10, TX10, 41)) rfl rfl rfl hl.1 (Nat.le_of_ble_eq_true rfl) dX10_rings_20 ⟨Nat.le_of_ble_eq_true rfl, Nat.le_of_ble_eq_true rfl⟩ (fun r_1404 w_1404 H locs hw_1404 hP hD hS => ?_)
    obtain ⟨v_1405, bv_1405, er_1404, rfl⟩ := hw_1404
    subst r_1404
    obtain ⟨hP, hD⟩ : vPD G A H [(ce_X10 ob ob_thrown ob_world ob_images ob_hasImage ob_tape ob_taped ob_five ob_size ob_at ob_from ob_token ob_value ob_faultKind ob_faultPlace ob_fresh ob_parts ob_houses ob_houseMany ob_worthOf ob_byCall ob_over ob_bestSet ob_bestOver ob_bestWorth ob_row ob_tenDebts ob_tenMany ob_fewestBy ob_covered ob_queue ob_cameBy ob_parent ob_met ob_calls ob_callMany ob_calledOn ob_saved ob_many ob_width ob_numbers ob_moving), (ce_i9080 y ob_world fob_world), (ce_i16 y ob_calledOn f_1002)] := ⟨hP, hD⟩
    refine lv_istore_n (lv' := [(3, .int v_1405), (2, .int v_1373), (1, .int v_1374), (0, .ref ob)]) hx hb dX10_rings_23 rfl hl (by decide) rfl (fun ls hl => ?_)
    refine lv_iload_n hx hb dX10_rings_24 rfl (lv_at hl 2 rfl) ?_
    refine lv_iload_n hx hb dX10_rings_25 rfl (lv_at hl 0 rfl) ?_
    refine cutW 44 (fun H locs ls st => ∃ (v_1416 : Int32), ((0 : Int) ≤ v_1416.toInt ∧ v_1416.toInt ≤ 1) ∧ st = [.int v_1416, .int v_1374] ∧ vPD G A H [(ce_X10 ob ob_thrown ob_world ob_images ob_hasImage ob_tape ob_taped ob_five ob_size ob_at ob_from ob_token ob_value ob_faultKind ob_faultPlace ob_fresh ob_parts ob_houses ob_houseMany ob_worthOf ob_byCall ob_over ob_bestSet ob_bestOver ob_bestWorth ob_row ob_tenDebts ob_tenMany ob_fewestBy ob_covered ob_queue ob_cameBy ob_parent ob_met ob_calls ob_callMany ob_calledOn ob_saved ob_many ob_width ob_numbers ob_moving), (ce_i9080 y ob_world fob_world), (ce_i16 y ob_calledOn f_1002)] ∧ va_S A s.heap H locs ∧ lv_has ls 4 [(2, .int v_1373), (0, .ref ob)]) ?_ (fun J_44_1416 => ?_)
    · rintro H locs ls st ⟨v_1416, bv_1416, rfl, ⟨hP, hD⟩, hS, hl⟩
      refine lv_iadd hx hb dX10_rings_44 ?_
      refine lv_topi (fun v_1417 ev_1417 => ?_)
      refine lv_istore_n (lv' := [(1, .int v_1417), (2, .int v_1373), (0, .ref ob)]) hx hb dX10_rings_45 rfl hl (by decide) rfl (fun ls hl => ?_)
      obtain ⟨v_1418, ev_1418⟩ : ∃ z : Int32, z = v_1373 + 1 := ⟨_, rfl⟩
      have qv_1418 := ba_add ev_1418 nc_1403.1 (bkc (x := 1) (c := 1) (by decide)) (by decide)
      have bv_1418 : (1 : Int) ≤ v_1418.toInt ∧ v_1418.toInt ≤ 16 := bq_add qv_1418 nc_1403.1 (bkc (x := 1) (c := 1) (by decide)) _ _ (by decide)
      have qv_1418 : v_1418.toInt = v_1373.toInt + (1) := qv_1418
      refine lv_iinc (v := v_1418) (lv' := [(2, .int v_1418), (1, .int v_1417), (0, .ref ob)]) hx hb dX10_rings_46 hl (k := 1) rfl (ev_1418.symm) (by decide) rfl (fun ls hl => ?_)
      refine lv_goto (tgt := 8) hx hb dX10_rings_49 (by decide) ?_
      exact ih_1401 _ (ml_inc (hi := 16) hn_1401 qv_1418 (by decide) ((bw (0) (16) bv_1418 (by decide))).2) _ _ _ _ ⟨v_1418, v_1417, rfl, (bw (0) (16) bv_1418 (by decide)), rfl, ⟨hP, hD⟩, hS, lv_sub hl [0, 1, 2] rfl⟩
    · skip
      refine cutW 43 (fun H locs ls st => st = [.int v_1374] ∧ vPD G A H [(ce_X10 ob ob_thrown ob_world ob_images ob_hasImage ob_tape ob_taped ob_five ob_size ob_at ob_from ob_token ob_value ob_faultKind ob_faultPlace ob_fresh ob_parts ob_houses ob_houseMany ob_worthOf ob_byCall ob_over ob_bestSet ob_bestOver ob_bestWorth ob_row ob_tenDebts ob_tenMany ob_fewestBy ob_covered ob_queue ob_cameBy ob_parent ob_met ob_calls ob_callMany ob_calledOn ob_saved ob_many ob_width ob_numbers ob_moving), (ce_i9080 y ob_world fob_world), (ce_i16 y ob_calledOn f_1002)] ∧ va_S A s.heap H locs ∧ lv_has ls 4 [(2, .int v_1373), (0, .ref ob)]) ?_ (fun J_43_1423 => ?_)
      · rintro H locs ls st ⟨rfl, ⟨hP, hD⟩, hS, hl⟩
        refine lv_iconst (v := 0) hx hb dX10_rings_43 (by decide) ?_
        exact J_44_1416 _ _ _ _ ⟨0, (bw (0) (1) (bkc (x := 0) (c := 0) (by decide)) (by decide)), rfl, ⟨hP, hD⟩, hS, lv_sub hl [0, 1] rfl⟩
      · skip
        refine lv_if_eq (tgt := 43) hx hb dX10_rings_26 (by decide) (fun c_1424 => ?_) (fun c_1424 => ?_)
        · skip
          have nc_1424 := nb_eq (0) (0) c_1424 bv_1405 (bkc (x := 0) (c := 0) (by decide)) (by decide)
          exact J_43_1423 _ _ _ _ ⟨rfl, ⟨hP, hD⟩, hS, lv_sub hl [1, 3] rfl⟩
        · skip
          have nc_1424 := nb_ne (1) (65535) c_1424 bv_1405 (k := 0) (by decide) (by decide)
          refine lv_iload_n hx hb dX10_rings_29 rfl (lv_at hl 0 rfl) ?_
          refine lv_iconst (v := 1) hx hb dX10_rings_30 (by decide) ?_
          refine lv_iload_n hx hb dX10_rings_31 rfl (lv_at hl 1 rfl) ?_
          refine lv_ishl hx hb dX10_rings_32 ?_
          refine lv_topi (fun v_1425 ev_1425 => ?_)
          have bv_1425 : (1 : Int) ≤ v_1425.toInt ∧ v_1425.toInt ≤ 32768 := ba_shl 0 15 ev_1425 nc_1403.1 (by decide)
          refine lv_iconst (v := 1) hx hb dX10_rings_33 (by decide) ?_
          refine lv_isub hx hb dX10_rings_34 ?_
          refine lv_topi (fun v_1426 ev_1426 => ?_)
          have qv_1426 := ba_sub ev_1426 bv_1425 (bkc (x := 1) (c := 1) (by decide)) (by decide)
          have bv_1426 : (0 : Int) ≤ v_1426.toInt ∧ v_1426.toInt ≤ 32767 := bq_sub qv_1426 bv_1425 (bkc (x := 1) (c := 1) (by decide)) _ _ (by decide)
          have qv_1426 : v_1426.toInt = v_1425.toInt - (1) := qv_1426
          refine lv_iand hx hb dX10_rings_35 ?_
          refine lv_topi (fun v_1427 ev_1427 => ?_)
          have bv_1427 : (0 : Int) ≤ v_1427.toInt ∧ v_1427.toInt ≤ 32767 := ba_andr ev_1427 bv_1426 (by decide)
          refine lv_if_ne (tgt := 43) hx hb dX10_rings_36 (by decide) (fun c_1428 => ?_) (fun c_1428 => ?_)
          · skip
            have nc_1428 := nb_ne (1) (32767) c_1428 bv_1427 (k := 0) (by decide) (by decide)
            exact J_43_1423 _ _ _ _ ⟨rfl, ⟨hP, hD⟩, hS, lv_sub hl [1, 3] rfl⟩
          · skip
            have nc_1428 := nb_eq (0) (0) c_1428 bv_1427 (bkc (x := 0) (c := 0) (by decide)) (by decide)
            refine lv_iconst (v := 1) hx hb dX10_rings_39 (by decide) ?_
            refine lv_goto (tgt := 44) hx hb dX10_rings_40 (by decide) ?_
            exact J_44_1416 _ _ _ _ ⟨1, (bw (0) (1) (bkc (x := 1) (c := 1) (by decide)) (by decide)), rfl, ⟨hP, hD⟩, hS, lv_sub hl [1, 3] rfl⟩

set_option maxHeartbeats 4000000 in
set_option maxRecDepth 100000 in
theorem sX10_house (l : Launch) (G : va_G) (y : Nat → ClassId) (sz : Nat) (ob : Nat) (a1 : Int32) (a2 : Int32) (ob_thrown : Int32) (ob_world : Nat) (ob_images : Nat) (ob_hasImage : Nat) (ob_tape : Nat) (ob_taped : Int32) (ob_five : Nat) (ob_size : Int32) (ob_at : Int32) (ob_from : Int32) (ob_token : Int32) (ob_value : Int32) (ob_faultKind : Int32) (ob_faultPlace : Int32) (ob_fresh : Nat) (ob_parts : Nat) (ob_houses : Nat) (ob_houseMany : Int32) (ob_worthOf : Nat) (ob_byCall : Nat) (ob_over : Nat) (ob_bestSet : Int32) (ob_bestOver : Int32) (ob_bestWorth : Int32) (ob_row : Nat) (ob_tenDebts : Nat) (ob_tenMany : Int32) (ob_fewestBy : Nat) (ob_covered : Nat) (ob_queue : Nat) (ob_cameBy : Nat) (ob_parent : Nat) (ob_met : Nat) (ob_calls : Nat) (ob_callMany : Int32) (ob_calledOn : Nat) (ob_saved : Nat) (ob_many : Nat) (ob_width : Nat) (ob_numbers : Nat) (ob_moving : Nat) (fob_world : Nat → Int32) (p_fob_world : RWw fob_world) (p_ob_taped : (0 : Int) ≤ ob_taped.toInt ∧ ob_taped.toInt ≤ 1400) (p_ob_size : (0 : Int) ≤ ob_size.toInt ∧ ob_size.toInt ≤ 1400) (p_ob_at : (0 : Int) ≤ ob_at.toInt ∧ ob_at.toInt ≤ 1400) (p_ob_from : (0 : Int) ≤ ob_from.toInt ∧ ob_from.toInt ≤ 1400) (p_ob_token : (0 : Int) ≤ ob_token.toInt ∧ ob_token.toInt ≤ 4) (p_ob_value : (0 : Int) ≤ ob_value.toInt ∧ ob_value.toInt ≤ 9999) (p_ob_faultKind : (0 : Int) ≤ ob_faultKind.toInt ∧ ob_faultKind.toInt ≤ 3) (p_ob_houseMany : (0 : Int) ≤ ob_houseMany.toInt ∧ ob_houseMany.toInt ≤ 10) (p_ob_bestSet : (0 : Int) ≤ ob_bestSet.toInt ∧ ob_bestSet.toInt ≤ 1023) (p_ob_bestOver : (-1 : Int) ≤ ob_bestOver.toInt ∧ ob_bestOver.toInt ≤ 180) (p_ob_tenMany : (0 : Int) ≤ ob_tenMany.toInt ∧ ob_tenMany.toInt ≤ 10) (p_ob_callMany : (0 : Int) ≤ ob_callMany.toInt ∧ ob_callMany.toInt ≤ 16) : Met l yX10_house (Cond.code yX10_house cX10_house 5 (some .int) :: wAll) ({ frames := 2, cells := 0, slots := 0, locals := 46 }) (va_Pc [.ref ob, .int a1, .int a2] (kp G y sz [(ce_X10 ob ob_thrown ob_world ob_images ob_hasImage ob_tape ob_taped ob_five ob_size ob_at ob_from ob_token ob_value ob_faultKind ob_faultPlace ob_fresh ob_parts ob_houses ob_houseMany ob_worthOf ob_byCall ob_over ob_bestSet ob_bestOver ob_bestWorth ob_row ob_tenDebts ob_tenMany ob_fewestBy ob_covered ob_queue ob_cameBy ob_parent ob_met ob_calls ob_callMany ob_calledOn ob_saved ob_many ob_width ob_numbers ob_moving), (ce_i9080 y ob_world fob_world)])) (va_Qi (fun (r : Int32) (w : va_W) => (∃ (v_1799 : Int32), r = v_1799 ∧ w = [(ce_X10 ob ob_thrown ob_world ob_images ob_hasImage ob_tape ob_taped ob_five ob_size ob_at ob_from ob_token ob_value ob_faultKind ob_faultPlace ob_fresh ob_parts ob_houses ob_houseMany ob_worthOf ob_byCall ob_over ob_bestSet ob_bestOver ob_bestWorth ob_row ob_tenDebts ob_tenMany ob_fewestBy ob_covered ob_queue ob_cameBy ob_parent ob_met ob_calls ob_callMany ob_calledOn ob_saved ob_many ob_width ob_numbers ob_moving), (ce_i9080 y ob_world fob_world)])) (kq G (va_A [(ce_X10 ob ob_thrown ob_world ob_images ob_hasImage ob_tape ob_taped ob_five ob_size ob_at ob_from ob_token ob_value ob_faultKind ob_faultPlace ob_fresh ob_parts ob_houses ob_houseMany ob_worthOf ob_byCall ob_over ob_bestSet ob_bestOver ob_bestWorth ob_row ob_tenDebts ob_tenMany ob_fewestBy ob_covered ob_queue ob_cameBy ob_parent ob_met ob_calls ob_callMany ob_calledOn ob_saved ob_many ob_width ob_numbers ob_moving), (ce_i9080 y ob_world fob_world)] sz)) (va_A [(ce_X10 ob ob_thrown ob_world ob_images ob_hasImage ob_tape ob_taped ob_five ob_size ob_at ob_from ob_token ob_value ob_faultKind ob_faultPlace ob_fresh ob_parts ob_houses ob_houseMany ob_worthOf ob_byCall ob_over ob_bestSet ob_bestOver ob_bestWorth ob_row ob_tenDebts ob_tenMany ob_fewestBy ob_covered ob_queue ob_cameBy ob_parent ob_met ob_calls ob_callMany ob_calledOn ob_saved ob_many ob_width ob_numbers ob_moving), (ce_i9080 y ob_world fob_world)] sz)) 0 0 (va_A [(ce_X10 ob ob_thrown ob_world ob_images ob_hasImage ob_tape ob_taped ob_five ob_size ob_at ob_from ob_token ob_value ob_faultKind ob_faultPlace ob_fresh ob_parts ob_houses ob_houseMany ob_worthOf ob_byCall ob_over ob_bestSet ob_bestOver ob_bestWorth ob_row ob_tenDebts ob_tenMany ob_fewestBy ob_covered ob_queue ob_cameBy ob_parent ob_met ob_calls ob_callMany ob_calledOn ob_saved ob_many ob_width ob_numbers ob_moving), (ce_i9080 y ob_world fob_world)] sz) := by
  refine Met.ofW (cc := cX10_house) (maxL := 5) (ret := (some .int)) (by decide) rfl ?_
  intro p e s m args below meth c s₁ B hml hv
  obtain ⟨rfl, hsz, hP, hK, hD0⟩ := hv
  have hx := B.exec
  have hb := B.bytes
  have hr := B.returns
  have hw0 : ∀ w ∈ wAll, w.before _ s = true := fun w h => atoms_spec (ws := Cond.code yX10_house cX10_house 5 (some .int) :: wAll) B.pre w (List.mem_cons_of_mem _ h)
  have hown : s.vm.findClass RX10 = some m.cls := findClass_of_methodNamed B.named
  subst hsz
  have hD := hD0.self (sz := s.heap.size)
  generalize hAe : va_A [(ce_X10 ob ob_thrown ob_world ob_images ob_hasImage ob_tape ob_taped ob_five ob_size ob_at ob_from ob_token ob_value ob_faultKind ob_faultPlace ob_fresh ob_parts ob_houses ob_houseMany ob_worthOf ob_byCall ob_over ob_bestSet ob_bestOver ob_bestWorth ob_row ob_tenDebts ob_tenMany ob_fewestBy ob_covered ob_queue ob_cameBy ob_parent ob_met ob_calls ob_callMany ob_calledOn ob_saved ob_many ob_width ob_numbers ob_moving), (ce_i9080 y ob_world fob_world)] s.heap.size = A at hD ⊢
  have hA : ∀ q : Nat, s.heap.size ≤ q → A q := fun q h => by rw [← hAe]; exact Or.inr h
  have hS : va_S A s.heap s.heap [] := va_S.rf
  have hP : va_P G vwCl [(ce_X10 ob ob_thrown ob_world ob_images ob_hasImage ob_tape ob_taped ob_five ob_size ob_at ob_from ob_token ob_value ob_faultKind ob_faultPlace ob_fresh ob_parts ob_houses ob_houseMany ob_worthOf ob_byCall ob_over ob_bestSet ob_bestOver ob_bestWorth ob_row ob_tenDebts ob_tenMany ob_fewestBy ob_covered ob_queue ob_cameBy ob_parent ob_met ob_calls ob_callMany ob_calledOn ob_saved ob_many ob_width ob_numbers ob_moving), (ce_i9080 y ob_world fob_world)] s.heap := hP
  have hl := lv_entry ([.ref ob, .int a1, .int a2]) (n := 5) (Nat.le_of_ble_eq_true rfl)
  rw [lg_entry_eq]
  generalize (lg_sl ([.ref ob, .int a1, .int a2]) ++ List.replicate (5 - (lg_sl ([.ref ob, .int a1, .int a2])).length) Slot.unset).toArray = ls at hl ⊢
  have hl : lv_has ls 5 [(0, .ref ob), (1, .int a1), (2, .int a2)] := hl
  refine lv_aload_n hx hb dX10_house_0 rfl (lv_at hl 0 rfl) ?_
  refine lv_iload_n hx hb dX10_house_1 rfl (lv_at hl 1 rfl) ?_
  refine cutW 20 (fun H locs ls st => st = [] ∧ vPD G A H [(ce_X10 ob ob_thrown ob_world ob_images ob_hasImage ob_tape ob_taped ob_five ob_size ob_at ob_from ob_token ob_value ob_faultKind ob_faultPlace ob_fresh ob_parts ob_houses ob_houseMany ob_worthOf ob_byCall ob_over ob_bestSet ob_bestOver ob_bestWorth ob_row ob_tenDebts ob_tenMany ob_fewestBy ob_covered ob_queue ob_cameBy ob_parent ob_met ob_calls ob_callMany ob_calledOn ob_saved ob_many ob_width ob_numbers ob_moving), (ce_i9080 y ob_world fob_world)] ∧ va_S A s.heap H locs ∧ lv_has ls 5 []) ?_ (fun J_20_1008 => ?_)
  · rintro H locs ls st ⟨rfl, ⟨hP, hD⟩, hS, hl⟩
    refine lv_ldcw (own := RX10) (v := (-2000000000)) hx hb hown (hw0 _ m_515) dX10_house_20 ?_
    exact W.iret (v := (-2000000000)) hx hb hr (fun t ht hW => ⟨⟨(-2000000000), _, rfl, ⟨(-2000000000), rfl, rfl⟩, by rw [ht]; exact hP, hD⟩, hS.F ht⟩) hS.2.2 dX10_house_23
  · skip
    refine cVim (As := [.int a1]) (rest := []) ⟨hx, hb, hml, hown, hw0⟩ hA hK hP hD hS [true, true] (sX10_isHouse l G y _ ob a1 ob_thrown ob_world ob_images ob_hasImage ob_tape ob_taped ob_five ob_size ob_at ob_from ob_token ob_value ob_faultKind ob_faultPlace ob_fresh ob_parts ob_houses ob_houseMany ob_worthOf ob_byCall ob_over ob_bestSet ob_bestOver ob_bestWorth ob_row ob_tenDebts ob_tenMany ob_fewestBy ob_covered ob_queue ob_cameBy ob_parent ob_met ob_calls ob_callMany ob_calledOn ob_saved ob_many ob_width ob_numbers ob_moving fob_world p_fob_world p_ob_taped p_ob_size p_ob_at p_ob_from p_ob_token p_ob_value p_ob_faultKind p_ob_houseMany p_ob_bestSet p_ob_bestOver p_ob_tenMany p_ob_callMany) rfl ⟨(callB_of 1 hw0 (gA m_537) rfl rfl rfl (hw0 _ m_41) (hw0 _ m_356) cb_X10_isHouse ⟨Nat.le_of_ble_eq_true rfl, Nat.le_of_ble_eq_true rfl⟩), (hw0 _ m_357), (hw0 _ m_358)⟩ (ci := 10) (q := (RX10, TX10, 41)) rfl rfl rfl hl.1 (Nat.le_of_ble_eq_true rfl) dX10_house_2 ⟨Nat.le_of_ble_eq_true rfl, Nat.le_of_ble_eq_true rfl⟩ (fun r_1009 w_1009 H locs hw_1009 hP hD hS => ?_)
    rcases hw_1009 with ⟨rfl, rfl⟩ | ⟨h_1010, rfl, rfl⟩
    · skip
      obtain ⟨hP, hD⟩ : vPD G A H [(ce_X10 ob ob_thrown ob_world ob_images ob_hasImage ob_tape ob_taped ob_five ob_size ob_at ob_from ob_token ob_value ob_faultKind ob_faultPlace ob_fresh ob_parts ob_houses ob_houseMany ob_worthOf ob_byCall ob_over ob_bestSet ob_bestOver ob_bestWorth ob_row ob_tenDebts ob_tenMany ob_fewestBy ob_covered ob_queue ob_cameBy ob_parent ob_met ob_calls ob_callMany ob_calledOn ob_saved ob_many ob_width ob_numbers ob_moving), (ce_i9080 y ob_world fob_world)] := ⟨hP, hD⟩
      refine lv_if_eq (tgt := 20) hx hb dX10_house_5 (by decide) (fun _ => ?_) (fun c9 => absurd (by decide) c9)
      exact J_20_1008 _ _ _ _ ⟨rfl, ⟨hP, hD⟩, hS, lv_sub hl [] rfl⟩
    · skip
      obtain ⟨hP, hD⟩ : vPD G A H [(ce_X10 ob ob_thrown ob_world ob_images ob_hasImage ob_tape ob_taped ob_five ob_size ob_at ob_from ob_token ob_value ob_faultKind ob_faultPlace ob_fresh ob_parts ob_houses ob_houseMany ob_worthOf ob_byCall ob_over ob_bestSet ob_bestOver ob_bestWorth ob_row ob_tenDebts ob_tenMany ob_fewestBy ob_covered ob_queue ob_cameBy ob_parent ob_met ob_calls ob_callMany ob_calledOn ob_saved ob_many ob_width ob_numbers ob_moving), (ce_i9080 y ob_world fob_world)] := ⟨hP, hD⟩
      refine lv_if_eq (tgt := 20) hx hb dX10_house_5 (by decide) (fun c9 => absurd c9 (by decide)) (fun _ => ?_)
      refine lv_iload_n hx hb dX10_house_8 rfl (lv_at hl 2 rfl) ?_
      refine lv_i2l hx hb dX10_house_9 rfl ?_
      refine lv_lconst (v := 0) hx hb dX10_house_10 (by decide) ?_
      refine lv_ldc2 (own := RX10) (v := 8) hx hb hown (hw0 _ m_514) dX10_house_11 ?_
      refine cSim (As := [.long (a2).toInt64, .long 0, .long 8]) (rest := []) ⟨hx, hb, hml, hown, hw0⟩ hA hK hP hD hS [] (sX10_in l G y _ ((a2).toInt64) 0 8 ) rfl ⟨(callB_of 3 hw0 (gA m_516) rfl rfl rfl (hw0 _ m_41) (hw0 _ m_345) cb_X10_in ⟨Nat.le_of_ble_eq_true rfl, Nat.le_of_ble_eq_true rfl⟩), (hw0 _ m_346)⟩ rfl hl.1 (Nat.le_of_ble_eq_true rfl) dX10_house_14 ⟨Nat.le_of_ble_eq_true rfl, Nat.le_of_ble_eq_true rfl⟩ (fun r_1011 w_1011 H locs hw_1011 hP hD hS => ?_)
      rcases hw_1011 with ⟨h_1012, rfl, rfl⟩ | ⟨h_1013, rfl, rfl⟩
      · skip
        have h_1014 : a2.toInt < (0 : Int) ∨ (8 : Int) < a2.toInt := in_n h_1012 (Int32.toInt_toInt64 _) (by decide) (by decide)
        obtain ⟨hP, hD⟩ : vPD G A H [(ce_X10 ob ob_thrown ob_world ob_images ob_hasImage ob_tape ob_taped ob_five ob_size ob_at ob_from ob_token ob_value ob_faultKind ob_faultPlace ob_fresh ob_parts ob_houses ob_houseMany ob_worthOf ob_byCall ob_over ob_bestSet ob_bestOver ob_bestWorth ob_row ob_tenDebts ob_tenMany ob_fewestBy ob_covered ob_queue ob_cameBy ob_parent ob_met ob_calls ob_callMany ob_calledOn ob_saved ob_many ob_width ob_numbers ob_moving), (ce_i9080 y ob_world fob_world)] := ⟨hP, hD⟩
        refine lv_if_ne (tgt := 24) hx hb dX10_house_17 (by decide) (fun c9 => absurd (by decide) c9) (fun _ => ?_)
        exact J_20_1008 _ _ _ _ ⟨rfl, ⟨hP, hD⟩, hS, lv_sub hl [] rfl⟩
      · skip
        have h_1015 : (0 : Int) ≤ a2.toInt ∧ a2.toInt ≤ (8 : Int) := in_y h_1013 (Int32.toInt_toInt64 _) (by decide) (by decide)
        have h_1016_0 := (btop a2)
        have h_1016_1 := True.intro
        have h_1016_2 := True.intro
        have h_1016 : (0 : Int) ≤ a2.toInt ∧ a2.toInt ≤ 8 := by omega
        obtain ⟨hP, hD⟩ : vPD G A H [(ce_X10 ob ob_thrown ob_world ob_images ob_hasImage ob_tape ob_taped ob_five ob_size ob_at ob_from ob_token ob_value ob_faultKind ob_faultPlace ob_fresh ob_parts ob_houses ob_houseMany ob_worthOf ob_byCall ob_over ob_bestSet ob_bestOver ob_bestWorth ob_row ob_tenDebts ob_tenMany ob_fewestBy ob_covered ob_queue ob_cameBy ob_parent ob_met ob_calls ob_callMany ob_calledOn ob_saved ob_many ob_width ob_numbers ob_moving), (ce_i9080 y ob_world fob_world)] := ⟨hP, hD⟩
        refine lv_if_ne (tgt := 24) hx hb dX10_house_17 (by decide) (fun _ => ?_) (fun c9 => absurd c9 (by decide))
        refine lv_iload_n hx hb dX10_house_24 rfl (lv_at hl 2 rfl) ?_
        refine lv_bipush (v := 7) hx hb dX10_house_25 (by decide) ?_
        refine lv_icmp_ge (tgt := 37) hx hb dX10_house_27 (by decide) (fun c_1017 => ?_) (fun c_1017 => ?_)
        · skip
          have nc_1017 := nb_le (7) (7) c_1017 (bkc (x := 7) (c := 7) (by decide)) h_1016 (by decide)
          refine lv_iconst (v := 0) hx hb dX10_house_37 (by decide) ?_
          refine lv_istore_n (lv' := [(3, .int 0), (0, .ref ob), (1, .int a1), (2, .int a2)]) hx hb dX10_house_38 rfl hl (by decide) rfl (fun ls hl => ?_)
          refine lv_iconst (v := 0) hx hb dX10_house_39 (by decide) ?_
          refine lv_istore (lv' := [(4, .int 0), (3, .int 0), (0, .ref ob), (1, .int a1), (2, .int a2)]) hx hb dX10_house_40 hl (by decide) rfl (fun ls hl => ?_)
          refine loopX (fun n H locs ls st => ∃ (v_1782 : Int32) (v_1783 : Int32), (600 - v_1782.toInt).toNat = n ∧ ((0 : Int) ≤ v_1782.toInt ∧ v_1782.toInt ≤ 600) ∧ st = [] ∧ vPD G A H [(ce_X10 ob ob_thrown ob_world ob_images ob_hasImage ob_tape ob_taped ob_five ob_size ob_at ob_from ob_token ob_value ob_faultKind ob_faultPlace ob_fresh ob_parts ob_houses ob_houseMany ob_worthOf ob_byCall ob_over ob_bestSet ob_bestOver ob_bestWorth ob_row ob_tenDebts ob_tenMany ob_fewestBy ob_covered ob_queue ob_cameBy ob_parent ob_met ob_calls ob_callMany ob_calledOn ob_saved ob_many ob_width ob_numbers ob_moving), (ce_i9080 y ob_world fob_world)] ∧ va_S A s.heap H locs ∧ lv_has ls 5 [(4, .int v_1782), (3, .int v_1783), (0, .ref ob), (1, .int a1), (2, .int a2)]) ?_ (n := (600 - (0 : Int32).toInt).toNat) ⟨0, 0, rfl, (bw (0) (600) (bkc (x := 0) (c := 0) (by decide)) (by decide)), rfl, ⟨hP, hD⟩, hS, lv_sub hl [0, 1, 2, 3, 4] rfl⟩
          rintro n ih_1840 H locs ls st ⟨v_1782, v_1783, hn_1840, bv_1782, rfl, ⟨hP, hD⟩, hS, hl⟩
          refine lv_iload hx hb dX10_house_42 (lv_at hl 0 rfl) ?_
          refine lv_aload_n hx hb dX10_house_44 rfl (lv_at hl 2 rfl) ?_
          refine va_get (D := G) (ci := 10) (v := .ref ob_world) (C := RX10) (T := TX10) (N := 41) hx hb hw0 inA_wsX100 hown hK.1 hP 0 rfl rfl 1 (by decide) (hw0 _ m_352) (fun _ h9 => h9) rfl dX10_house_45 ?_
          refine lv_bipush (v := 8) hx hb dX10_house_48 (by decide) ?_
          refine va_iald hx hb hK.1 hP 1 1 rfl rfl (vi (bkc (x := 8) (c := 8) (by decide)) (by decide)) dX10_house_50 ?_
          refine lv_topi (fun v_1841 ev_1841 => ?_)
          have bv_1841 : (0 : Int) ≤ v_1841.toInt ∧ v_1841.toInt ≤ 600 := rdk ev_1841 (p_fob_world).1.1 (by decide)
          refine lv_icmp_ge (tgt := 118) hx hb dX10_house_51 (by decide) (fun c_1842 => ?_) (fun c_1842 => ?_)
          · skip
            have nc_1842 := nb_le (600) (0) c_1842 bv_1841 bv_1782 (by decide)
            refine lv_iload_n hx hb dX10_house_118 rfl (lv_at hl 1 rfl) ?_
            exact W.iret (v := v_1783) hx hb hr (fun t ht hW => ⟨⟨v_1783, _, rfl, ⟨v_1783, rfl, rfl⟩, by rw [ht]; exact hP, hD⟩, hS.F ht⟩) hS.2.2 dX10_house_119
          · skip
            have nc_1842 := nb_nle (599) (1) c_1842 bv_1782 bv_1841 (by decide)
            refine lv_iload_n hx hb dX10_house_54 rfl (lv_at hl 1 rfl) ?_
            refine lv_aload_n hx hb dX10_house_55 rfl (lv_at hl 2 rfl) ?_
            refine va_get (D := G) (ci := 10) (v := .ref ob_world) (C := RX10) (T := TX10) (N := 41) hx hb hw0 inA_wsX100 hown hK.1 hP 0 rfl rfl 1 (by decide) (hw0 _ m_352) (fun _ h9 => h9) rfl dX10_house_56 ?_
            refine lv_sipush (v := 6680) hx hb dX10_house_59 (by decide) ?_
            refine lv_iconst (v := 4) hx hb dX10_house_62 (by decide) ?_
            refine lv_iload hx hb dX10_house_63 (lv_at hl 0 rfl) ?_
            refine lv_imul hx hb dX10_house_65 ?_
            refine lv_topi (fun v_1843 ev_1843 => ?_)
            have qv_1843 := ba_mul 4 (ev_1843.trans (Int32.mul_comm _ _)) nc_1842.1 (by decide) (by decide) (by decide)
            have bv_1843 : (0 : Int) ≤ v_1843.toInt ∧ v_1843.toInt ≤ 2396 := qv_1843.2
            refine lv_iadd hx hb dX10_house_66 ?_
            refine lv_topi (fun v_1844 ev_1844 => ?_)
            have qv_1844 := ba_add ev_1844 (bkc (x := 6680) (c := 6680) (by decide)) bv_1843 (by decide)
            have bv_1844 : (6680 : Int) ≤ v_1844.toInt ∧ v_1844.toInt ≤ 9076 := bq_add qv_1844 (bkc (x := 6680) (c := 6680) (by decide)) bv_1843 _ _ (by decide)
            have qv_1844 : v_1844.toInt = (6680) + v_1843.toInt := qv_1844
            refine lv_iconst (v := 2) hx hb dX10_house_67 (by decide) ?_
            refine lv_iadd hx hb dX10_house_68 ?_
            refine lv_topi (fun v_1845 ev_1845 => ?_)
            have qv_1845 := ba_add ev_1845 bv_1844 (bkc (x := 2) (c := 2) (by decide)) (by decide)
            have bv_1845 : (6682 : Int) ≤ v_1845.toInt ∧ v_1845.toInt ≤ 9078 := bq_add qv_1845 bv_1844 (bkc (x := 2) (c := 2) (by decide)) _ _ (by decide)
            have qv_1845 : v_1845.toInt = v_1844.toInt + (2) := qv_1845
            refine va_iald hx hb hK.1 hP 1 1 rfl rfl (vi bv_1845 (by decide)) dX10_house_69 ?_
            refine lv_topi (fun v_1846 ev_1846 => ?_)
            refine lv_i2l hx hb dX10_house_70 rfl ?_
            refine lv_ldc2 (own := RX10) (v := 2) hx hb hown (hw0 _ m_360) dX10_house_71 ?_
            refine lv_ldc2 (own := RX10) (v := 3) hx hb hown (hw0 _ m_398) dX10_house_74 ?_
            refine cutW 110 (fun H locs ls st => ∃ (v_1871 : Int32), ((0 : Int) ≤ v_1871.toInt ∧ v_1871.toInt ≤ 1) ∧ st = [.int v_1871, .int v_1783] ∧ vPD G A H [(ce_X10 ob ob_thrown ob_world ob_images ob_hasImage ob_tape ob_taped ob_five ob_size ob_at ob_from ob_token ob_value ob_faultKind ob_faultPlace ob_fresh ob_parts ob_houses ob_houseMany ob_worthOf ob_byCall ob_over ob_bestSet ob_bestOver ob_bestWorth ob_row ob_tenDebts ob_tenMany ob_fewestBy ob_covered ob_queue ob_cameBy ob_parent ob_met ob_calls ob_callMany ob_calledOn ob_saved ob_many ob_width ob_numbers ob_moving), (ce_i9080 y ob_world fob_world)] ∧ va_S A s.heap H locs ∧ lv_has ls 5 [(4, .int v_1782), (0, .ref ob), (1, .int a1), (2, .int a2)]) ?_ (fun J_110_1871 => ?_)
            · rintro H locs ls st ⟨v_1871, bv_1871, rfl, ⟨hP, hD⟩, hS, hl⟩
              refine lv_iadd hx hb dX10_house_110 ?_
              refine lv_topi (fun v_1872 ev_1872 => ?_)
              refine lv_istore_n (lv' := [(3, .int v_1872), (4, .int v_1782), (0, .ref ob), (1, .int a1), (2, .int a2)]) hx hb dX10_house_111 rfl hl (by decide) rfl (fun ls hl => ?_)
              obtain ⟨v_1873, ev_1873⟩ : ∃ z : Int32, z = v_1782 + 1 := ⟨_, rfl⟩
              have qv_1873 := ba_add ev_1873 nc_1842.1 (bkc (x := 1) (c := 1) (by decide)) (by decide)
              have bv_1873 : (1 : Int) ≤ v_1873.toInt ∧ v_1873.toInt ≤ 600 := bq_add qv_1873 nc_1842.1 (bkc (x := 1) (c := 1) (by decide)) _ _ (by decide)
              have qv_1873 : v_1873.toInt = v_1782.toInt + (1) := qv_1873
              refine lv_iinc (v := v_1873) (lv' := [(4, .int v_1873), (3, .int v_1872), (0, .ref ob), (1, .int a1), (2, .int a2)]) hx hb dX10_house_112 hl (k := 1) rfl (ev_1873.symm) (by decide) rfl (fun ls hl => ?_)
              refine lv_goto (tgt := 42) hx hb dX10_house_115 (by decide) ?_
              exact ih_1840 _ (ml_inc (hi := 600) hn_1840 qv_1873 (by decide) ((bw (0) (600) bv_1873 (by decide))).2) _ _ _ _ ⟨v_1873, v_1872, rfl, (bw (0) (600) bv_1873 (by decide)), rfl, ⟨hP, hD⟩, hS, lv_sub hl [0, 1, 2, 3, 4] rfl⟩
            · skip
              refine cutW 109 (fun H locs ls st => st = [.int v_1783] ∧ vPD G A H [(ce_X10 ob ob_thrown ob_world ob_images ob_hasImage ob_tape ob_taped ob_five ob_size ob_at ob_from ob_token ob_value ob_faultKind ob_faultPlace ob_fresh ob_parts ob_houses ob_houseMany ob_worthOf ob_byCall ob_over ob_bestSet ob_bestOver ob_bestWorth ob_row ob_tenDebts ob_tenMany ob_fewestBy ob_covered ob_queue ob_cameBy ob_parent ob_met ob_calls ob_callMany ob_calledOn ob_saved ob_many ob_width ob_numbers ob_moving), (ce_i9080 y ob_world fob_world)] ∧ va_S A s.heap H locs ∧ lv_has ls 5 [(4, .int v_1782), (0, .ref ob), (1, .int a1), (2, .int a2)]) ?_ (fun J_109_1885 => ?_)
              · rintro H locs ls st ⟨rfl, ⟨hP, hD⟩, hS, hl⟩
                refine lv_iconst (v := 0) hx hb dX10_house_109 (by decide) ?_
                exact J_110_1871 _ _ _ _ ⟨0, (bw (0) (1) (bkc (x := 0) (c := 0) (by decide)) (by decide)), rfl, ⟨hP, hD⟩, hS, lv_sub hl [0, 1, 2, 3] rfl⟩
              · skip
                refine cSim (As := [.long (v_1846).toInt64, .long 2, .long 3]) (rest := [.int v_1783]) ⟨hx, hb, hml, hown, hw0⟩ hA hK hP hD hS [] (sX10_in l G y _ ((v_1846).toInt64) 2 3 ) rfl ⟨(callB_of 3 hw0 (gA m_516) rfl rfl rfl (hw0 _ m_41) (hw0 _ m_345) cb_X10_in ⟨Nat.le_of_ble_eq_true rfl, Nat.le_of_ble_eq_true rfl⟩), (hw0 _ m_346)⟩ rfl hl.1 (Nat.le_of_ble_eq_true rfl) dX10_house_77 ⟨Nat.le_of_ble_eq_true rfl, Nat.le_of_ble_eq_true rfl⟩ (fun r_1886 w_1886 H locs hw_1886 hP hD hS => ?_)
                rcases hw_1886 with ⟨h_1887, rfl, rfl⟩ | ⟨h_1888, rfl, rfl⟩
                · skip
                  have h_1889 : v_1846.toInt < (2 : Int) ∨ (3 : Int) < v_1846.toInt := in_n h_1887 (Int32.toInt_toInt64 _) (by decide) (by decide)
                  obtain ⟨hP, hD⟩ : vPD G A H [(ce_X10 ob ob_thrown ob_world ob_images ob_hasImage ob_tape ob_taped ob_five ob_size ob_at ob_from ob_token ob_value ob_faultKind ob_faultPlace ob_fresh ob_parts ob_houses ob_houseMany ob_worthOf ob_byCall ob_over ob_bestSet ob_bestOver ob_bestWorth ob_row ob_tenDebts ob_tenMany ob_fewestBy ob_covered ob_queue ob_cameBy ob_parent ob_met ob_calls ob_callMany ob_calledOn ob_saved ob_many ob_width ob_numbers ob_moving), (ce_i9080 y ob_world fob_world)] := ⟨hP, hD⟩
                  refine lv_if_eq (tgt := 109) hx hb dX10_house_80 (by decide) (fun _ => ?_) (fun c9 => absurd (by decide) c9)
                  exact J_109_1885 _ _ _ _ ⟨rfl, ⟨hP, hD⟩, hS, lv_sub hl [0, 2, 3, 4] rfl⟩
                · skip
                  have h_1890 : (2 : Int) ≤ v_1846.toInt ∧ v_1846.toInt ≤ (3 : Int) := in_y h_1888 (Int32.toInt_toInt64 _) (by decide) (by decide)
                  have h_1891_0 := (btop v_1846)
                  have h_1891_1 := True.intro
                  have h_1891_2 := True.intro
                  have h_1891 : (2 : Int) ≤ v_1846.toInt ∧ v_1846.toInt ≤ 3 := by omega
                  obtain ⟨hP, hD⟩ : vPD G A H [(ce_X10 ob ob_thrown ob_world ob_images ob_hasImage ob_tape ob_taped ob_five ob_size ob_at ob_from ob_token ob_value ob_faultKind ob_faultPlace ob_fresh ob_parts ob_houses ob_houseMany ob_worthOf ob_byCall ob_over ob_bestSet ob_bestOver ob_bestWorth ob_row ob_tenDebts ob_tenMany ob_fewestBy ob_covered ob_queue ob_cameBy ob_parent ob_met ob_calls ob_callMany ob_calledOn ob_saved ob_many ob_width ob_numbers ob_moving), (ce_i9080 y ob_world fob_world)] := ⟨hP, hD⟩
                  refine lv_if_eq (tgt := 109) hx hb dX10_house_80 (by decide) (fun c9 => absurd c9 (by decide)) (fun _ => ?_)
                  refine lv_aload_n hx hb dX10_house_83 rfl (lv_at hl 2 rfl) ?_
                  refine va_get (D := G) (ci := 10) (v := .ref ob_world) (C := RX10) (T := TX10) (N := 41) hx hb hw0 inA_wsX100 hown hK.1 hP 0 rfl rfl 1 (by decide) (hw0 _ m_352) (fun _ h9 => h9) rfl dX10_house_84 ?_
                  refine lv_sipush (v := 6680) hx hb dX10_house_87 (by decide) ?_
                  refine lv_iconst (v := 4) hx hb dX10_house_90 (by decide) ?_
                  refine lv_iload hx hb dX10_house_91 (lv_at hl 0 rfl) ?_
                  refine lv_imul hx hb dX10_house_93 ?_
                  refine lv_topi (fun v_1892 ev_1892 => ?_)
                  obtain rfl : v_1843 = v_1892 := (ev_1892.trans (ev_1843.symm)).symm
                  refine lv_iadd hx hb dX10_house_94 ?_
                  refine lv_topi (fun v_1893 ev_1893 => ?_)
                  obtain rfl : v_1844 = v_1893 := (ev_1893.trans (ev_1844.symm)).symm
                  refine lv_iload_n hx hb dX10_house_95 rfl (lv_at hl 4 rfl) ?_
                  refine lv_iadd hx hb dX10_house_96 ?_
                  refine lv_topi (fun v_1894 ev_1894 => ?_)
                  have qv_1894 := ba_add ev_1894 bv_1844 nc_1017.2.1 (by decide)
                  have bv_1894 : (6687 : Int) ≤ v_1894.toInt ∧ v_1894.toInt ≤ 9084 := bq_add qv_1894 bv_1844 nc_1017.2.1 _ _ (by decide)
                  refine lv_bipush (v := 7) hx hb dX10_house_97 (by decide) ?_
                  refine lv_isub hx hb dX10_house_99 ?_
                  refine lv_topi (fun v_1895 ev_1895 => ?_)
                  have qv_1895 := ba_sub ev_1895 bv_1894 (bkc (x := 7) (c := 7) (by decide)) (by decide)
                  have bv_1895 : (6680 : Int) ≤ v_1895.toInt ∧ v_1895.toInt ≤ 9077 := bq_sub qv_1895 bv_1894 (bkc (x := 7) (c := 7) (by decide)) _ _ (by decide)
                  have qv_1895 : v_1895.toInt = v_1894.toInt - (7) := qv_1895
                  refine va_iald hx hb hK.1 hP 1 1 rfl rfl (vi bv_1895 (by decide)) dX10_house_100 ?_
                  refine lv_topi (fun v_1896 ev_1896 => ?_)
                  refine lv_iload_n hx hb dX10_house_101 rfl (lv_at hl 3 rfl) ?_
                  refine lv_icmp_ne (tgt := 109) hx hb dX10_house_102 (by decide) (fun c_1897 => ?_) (fun c_1897 => ?_)
                  · skip
                    exact J_109_1885 _ _ _ _ ⟨rfl, ⟨hP, hD⟩, hS, lv_sub hl [0, 2, 3, 4] rfl⟩
                  · skip
                    have nc_1897 := nb_eq (0) (15) c_1897 (btop v_1896) h_1010 (by decide)
                    refine lv_iconst (v := 1) hx hb dX10_house_105 (by decide) ?_
                    refine lv_goto (tgt := 110) hx hb dX10_house_106 (by decide) ?_
                    exact J_110_1871 _ _ _ _ ⟨1, (bw (0) (1) (bkc (x := 1) (c := 1) (by decide)) (by decide)), rfl, ⟨hP, hD⟩, hS, lv_sub hl [0, 2, 3, 4] rfl⟩
        · skip
          have nc_1017 := nb_nle (6) (7) c_1017 h_1016 (bkc (x := 7) (c := 7) (by decide)) (by decide)
          refine lv_aload_n hx hb dX10_house_30 rfl (lv_at hl 0 rfl) ?_
          refine lv_iload_n hx hb dX10_house_31 rfl (lv_at hl 1 rfl) ?_
          refine lv_iload_n hx hb dX10_house_32 rfl (lv_at hl 2 rfl) ?_
          refine cVim (As := [.int a1, .int a2]) (rest := []) ⟨hx, hb, hml, hown, hw0⟩ hA hK hP hD hS [true, true] (sX10_ofHouse l G y _ ob a1 a2 ob_thrown ob_world ob_images ob_hasImage ob_tape ob_taped ob_five ob_size ob_at ob_from ob_token ob_value ob_faultKind ob_faultPlace ob_fresh ob_parts ob_houses ob_houseMany ob_worthOf ob_byCall ob_over ob_bestSet ob_bestOver ob_bestWorth ob_row ob_tenDebts ob_tenMany ob_fewestBy ob_covered ob_queue ob_cameBy ob_parent ob_met ob_calls ob_callMany ob_calledOn ob_saved ob_many ob_width ob_numbers ob_moving fob_world p_fob_world p_ob_taped p_ob_size p_ob_at p_ob_from p_ob_token p_ob_value p_ob_faultKind p_ob_houseMany p_ob_bestSet p_ob_bestOver p_ob_tenMany p_ob_callMany h_1010 (bw (0) (8) nc_1017.1 (by decide))) rfl ⟨(callB_of 2 hw0 (gA m_577) rfl rfl rfl (hw0 _ m_41) (hw0 _ m_388) cb_X10_ofHouse ⟨Nat.le_of_ble_eq_true rfl, Nat.le_of_ble_eq_true rfl⟩), (hw0 _ m_389), (hw0 _ m_390)⟩ (ci := 10) (q := (RX10, TX10, 41)) rfl rfl rfl hl.1 (Nat.le_of_ble_eq_true rfl) dX10_house_33 ⟨Nat.le_of_ble_eq_true rfl, Nat.le_of_ble_eq_true rfl⟩ (fun r_1898 w_1898 H locs hw_1898 hP hD hS => ?_)
          obtain ⟨v_1899, er_1898, rfl⟩ := hw_1898
          subst r_1898
          obtain ⟨hP, hD⟩ : vPD G A H [(ce_X10 ob ob_thrown ob_world ob_images ob_hasImage ob_tape ob_taped ob_five ob_size ob_at ob_from ob_token ob_value ob_faultKind ob_faultPlace ob_fresh ob_parts ob_houses ob_houseMany ob_worthOf ob_byCall ob_over ob_bestSet ob_bestOver ob_bestWorth ob_row ob_tenDebts ob_tenMany ob_fewestBy ob_covered ob_queue ob_cameBy ob_parent ob_met ob_calls ob_callMany ob_calledOn ob_saved ob_many ob_width ob_numbers ob_moving), (ce_i9080 y ob_world fob_world)] := ⟨hP, hD⟩
          exact W.iret (v := v_1899) hx hb hr (fun t ht hW => ⟨⟨v_1899, _, rfl, ⟨v_1899, rfl, rfl⟩, by rw [ht]; exact hP, hD⟩, hS.F ht⟩) hS.2.2 dX10_house_36

set_option maxHeartbeats 4000000 in
set_option maxRecDepth 100000 in
theorem sX10_count (l : Launch) (G : va_G) (y : Nat → ClassId) (sz : Nat) (ob : Nat) (a1 : Int32) (ob_thrown : Int32) (ob_world : Nat) (ob_images : Nat) (ob_hasImage : Nat) (ob_tape : Nat) (ob_taped : Int32) (ob_five : Nat) (ob_size : Int32) (ob_at : Int32) (ob_from : Int32) (ob_token : Int32) (ob_value : Int32) (ob_faultKind : Int32) (ob_faultPlace : Int32) (ob_fresh : Nat) (ob_parts : Nat) (ob_houses : Nat) (ob_houseMany : Int32) (ob_worthOf : Nat) (ob_byCall : Nat) (ob_over : Nat) (ob_bestSet : Int32) (ob_bestOver : Int32) (ob_bestWorth : Int32) (ob_row : Nat) (ob_tenDebts : Nat) (ob_tenMany : Int32) (ob_fewestBy : Nat) (ob_covered : Nat) (ob_queue : Nat) (ob_cameBy : Nat) (ob_parent : Nat) (ob_met : Nat) (ob_calls : Nat) (ob_callMany : Int32) (ob_calledOn : Nat) (ob_saved : Nat) (ob_many : Nat) (ob_width : Nat) (ob_numbers : Nat) (ob_moving : Nat) (fob_world : Nat → Int32) (fob_many : Nat → Int32) (p_fob_world : RWw fob_world) (p_ob_taped : (0 : Int) ≤ ob_taped.toInt ∧ ob_taped.toInt ≤ 1400) (p_ob_size : (0 : Int) ≤ ob_size.toInt ∧ ob_size.toInt ≤ 1400) (p_ob_at : (0 : Int) ≤ ob_at.toInt ∧ ob_at.toInt ≤ 1400) (p_ob_from : (0 : Int) ≤ ob_from.toInt ∧ ob_from.toInt ≤ 1400) (p_ob_token : (0 : Int) ≤ ob_token.toInt ∧ ob_token.toInt ≤ 4) (p_ob_value : (0 : Int) ≤ ob_value.toInt ∧ ob_value.toInt ≤ 9999) (p_ob_faultKind : (0 : Int) ≤ ob_faultKind.toInt ∧ ob_faultKind.toInt ≤ 3) (p_ob_houseMany : (0 : Int) ≤ ob_houseMany.toInt ∧ ob_houseMany.toInt ≤ 10) (p_ob_bestSet : (0 : Int) ≤ ob_bestSet.toInt ∧ ob_bestSet.toInt ≤ 1023) (p_ob_bestOver : (-1 : Int) ≤ ob_bestOver.toInt ∧ ob_bestOver.toInt ≤ 180) (p_ob_tenMany : (0 : Int) ≤ ob_tenMany.toInt ∧ ob_tenMany.toInt ≤ 10) (p_ob_callMany : (0 : Int) ≤ ob_callMany.toInt ∧ ob_callMany.toInt ≤ 16) (p_fob_many : ∀ i, (-1 : Int) ≤ (fob_many i).toInt ∧ (fob_many i).toInt ≤ 60) : Met l yX10_count (Cond.code yX10_count cX10_count 4 (some .int) :: wAll) ({ frames := 1, cells := 0, slots := 0, locals := 22 }) (va_Pc [.ref ob, .int a1] (kp G y sz [(ce_X10 ob ob_thrown ob_world ob_images ob_hasImage ob_tape ob_taped ob_five ob_size ob_at ob_from ob_token ob_value ob_faultKind ob_faultPlace ob_fresh ob_parts ob_houses ob_houseMany ob_worthOf ob_byCall ob_over ob_bestSet ob_bestOver ob_bestWorth ob_row ob_tenDebts ob_tenMany ob_fewestBy ob_covered ob_queue ob_cameBy ob_parent ob_met ob_calls ob_callMany ob_calledOn ob_saved ob_many ob_width ob_numbers ob_moving), (ce_i9080 y ob_world fob_world), (ce_i4 y ob_many fob_many)])) (va_Qi (fun (r : Int32) (w : va_W) => (∃ (v_683 : Int32), r = v_683 ∧ w = [(ce_X10 ob ob_thrown ob_world ob_images ob_hasImage ob_tape ob_taped ob_five ob_size ob_at ob_from ob_token ob_value ob_faultKind ob_faultPlace ob_fresh ob_parts ob_houses ob_houseMany ob_worthOf ob_byCall ob_over ob_bestSet ob_bestOver ob_bestWorth ob_row ob_tenDebts ob_tenMany ob_fewestBy ob_covered ob_queue ob_cameBy ob_parent ob_met ob_calls ob_callMany ob_calledOn ob_saved ob_many ob_width ob_numbers ob_moving), (ce_i9080 y ob_world fob_world), (ce_i4 y ob_many fob_many)])) (kq G (va_A [(ce_X10 ob ob_thrown ob_world ob_images ob_hasImage ob_tape ob_taped ob_five ob_size ob_at ob_from ob_token ob_value ob_faultKind ob_faultPlace ob_fresh ob_parts ob_houses ob_houseMany ob_worthOf ob_byCall ob_over ob_bestSet ob_bestOver ob_bestWorth ob_row ob_tenDebts ob_tenMany ob_fewestBy ob_covered ob_queue ob_cameBy ob_parent ob_met ob_calls ob_callMany ob_calledOn ob_saved ob_many ob_width ob_numbers ob_moving), (ce_i9080 y ob_world fob_world), (ce_i4 y ob_many fob_many)] sz)) (va_A [(ce_X10 ob ob_thrown ob_world ob_images ob_hasImage ob_tape ob_taped ob_five ob_size ob_at ob_from ob_token ob_value ob_faultKind ob_faultPlace ob_fresh ob_parts ob_houses ob_houseMany ob_worthOf ob_byCall ob_over ob_bestSet ob_bestOver ob_bestWorth ob_row ob_tenDebts ob_tenMany ob_fewestBy ob_covered ob_queue ob_cameBy ob_parent ob_met ob_calls ob_callMany ob_calledOn ob_saved ob_many ob_width ob_numbers ob_moving), (ce_i9080 y ob_world fob_world), (ce_i4 y ob_many fob_many)] sz)) 0 0 (va_A [(ce_X10 ob ob_thrown ob_world ob_images ob_hasImage ob_tape ob_taped ob_five ob_size ob_at ob_from ob_token ob_value ob_faultKind ob_faultPlace ob_fresh ob_parts ob_houses ob_houseMany ob_worthOf ob_byCall ob_over ob_bestSet ob_bestOver ob_bestWorth ob_row ob_tenDebts ob_tenMany ob_fewestBy ob_covered ob_queue ob_cameBy ob_parent ob_met ob_calls ob_callMany ob_calledOn ob_saved ob_many ob_width ob_numbers ob_moving), (ce_i9080 y ob_world fob_world), (ce_i4 y ob_many fob_many)] sz) := by
  refine Met.ofW (cc := cX10_count) (maxL := 4) (ret := (some .int)) (by decide) rfl ?_
  intro p e s m args below meth c s₁ B hml hv
  obtain ⟨rfl, hsz, hP, hK, hD0⟩ := hv
  have hx := B.exec
  have hb := B.bytes
  have hr := B.returns
  have hw0 : ∀ w ∈ wAll, w.before _ s = true := fun w h => atoms_spec (ws := Cond.code yX10_count cX10_count 4 (some .int) :: wAll) B.pre w (List.mem_cons_of_mem _ h)
  have hown : s.vm.findClass RX10 = some m.cls := findClass_of_methodNamed B.named
  subst hsz
  have hD := hD0.self (sz := s.heap.size)
  generalize hAe : va_A [(ce_X10 ob ob_thrown ob_world ob_images ob_hasImage ob_tape ob_taped ob_five ob_size ob_at ob_from ob_token ob_value ob_faultKind ob_faultPlace ob_fresh ob_parts ob_houses ob_houseMany ob_worthOf ob_byCall ob_over ob_bestSet ob_bestOver ob_bestWorth ob_row ob_tenDebts ob_tenMany ob_fewestBy ob_covered ob_queue ob_cameBy ob_parent ob_met ob_calls ob_callMany ob_calledOn ob_saved ob_many ob_width ob_numbers ob_moving), (ce_i9080 y ob_world fob_world), (ce_i4 y ob_many fob_many)] s.heap.size = A at hD ⊢
  have hA : ∀ q : Nat, s.heap.size ≤ q → A q := fun q h => by rw [← hAe]; exact Or.inr h
  have hS : va_S A s.heap s.heap [] := va_S.rf
  have hP : va_P G vwCl [(ce_X10 ob ob_thrown ob_world ob_images ob_hasImage ob_tape ob_taped ob_five ob_size ob_at ob_from ob_token ob_value ob_faultKind ob_faultPlace ob_fresh ob_parts ob_houses ob_houseMany ob_worthOf ob_byCall ob_over ob_bestSet ob_bestOver ob_bestWorth ob_row ob_tenDebts ob_tenMany ob_fewestBy ob_covered ob_queue ob_cameBy ob_parent ob_met ob_calls ob_callMany ob_calledOn ob_saved ob_many ob_width ob_numbers ob_moving), (ce_i9080 y ob_world fob_world), (ce_i4 y ob_many fob_many)] s.heap := hP
  have hl := lv_entry ([.ref ob, .int a1]) (n := 4) (Nat.le_of_ble_eq_true rfl)
  rw [lg_entry_eq]
  generalize (lg_sl ([.ref ob, .int a1]) ++ List.replicate (4 - (lg_sl ([.ref ob, .int a1])).length) Slot.unset).toArray = ls at hl ⊢
  have hl : lv_has ls 4 [(0, .ref ob), (1, .int a1)] := hl
  refine lv_iconst (v := 0) hx hb dX10_count_0 (by decide) ?_
  refine lv_istore_n (lv' := [(2, .int 0), (0, .ref ob), (1, .int a1)]) hx hb dX10_count_1 rfl hl (by decide) rfl (fun ls hl => ?_)
  refine lv_iload_n hx hb dX10_count_2 rfl (lv_at hl 2 rfl) ?_
  rcases tsw (0) 10 a1 with ⟨j9, hj9, ej9⟩ | t_a1
  · rcases (by omega : j9 = 0 ∨ j9 = 1 ∨ j9 = 2 ∨ j9 = 3 ∨ j9 = 4 ∨ j9 = 5 ∨ j9 = 6 ∨ j9 = 7 ∨ j9 = 8 ∨ j9 = 9 ∨ j9 = 10) with rfl | rfl | rfl | rfl | rfl | rfl | rfl | rfl | rfl | rfl | rfl
    · obtain rfl : 0 = a1 := (ej9.trans (by decide)).symm
      refine lv_tableIn (tgt := 60) hx hb dX10_count_3 (by decide) (by decide) rfl (by decide) ?_
      refine lv_aload_n hx hb dX10_count_60 rfl (lv_at hl 1 rfl) ?_
      refine va_get (D := G) (ci := 10) (v := .ref ob_world) (C := RX10) (T := TX10) (N := 41) hx hb hw0 inA_wsX100 hown hK.1 hP 0 rfl rfl 1 (by decide) (hw0 _ m_352) (fun _ h9 => h9) rfl dX10_count_61 ?_
      refine lv_iconst (v := 0) hx hb dX10_count_64 (by decide) ?_
      refine va_iald hx hb hK.1 hP 1 1 rfl rfl (vi (bkc (x := 0) (c := 0) (by decide)) (by decide)) dX10_count_65 ?_
      refine lv_topi (fun v_1001 ev_1001 => ?_)
      have bv_1001 : (0 : Int) ≤ v_1001.toInt ∧ v_1001.toInt ≤ 16 := rdk ev_1001 (p_fob_world).1.1 (by decide)
      exact W.iret (v := v_1001) hx hb hr (fun t ht hW => ⟨⟨v_1001, _, rfl, ⟨v_1001, rfl, rfl⟩, by rw [ht]; exact hP, hD⟩, hS.F ht⟩) hS.2.2 dX10_count_66
    · obtain rfl : 1 = a1 := (ej9.trans (by decide)).symm
      refine lv_tableIn (tgt := 67) hx hb dX10_count_3 (by decide) (by decide) rfl (by decide) ?_
      refine lv_aload_n hx hb dX10_count_67 rfl (lv_at hl 1 rfl) ?_
      refine va_get (D := G) (ci := 10) (v := .ref ob_world) (C := RX10) (T := TX10) (N := 41) hx hb hw0 inA_wsX100 hown hK.1 hP 0 rfl rfl 1 (by decide) (hw0 _ m_352) (fun _ h9 => h9) rfl dX10_count_68 ?_
      refine lv_iconst (v := 1) hx hb dX10_count_71 (by decide) ?_
      refine va_iald hx hb hK.1 hP 1 1 rfl rfl (vi (bkc (x := 1) (c := 1) (by decide)) (by decide)) dX10_count_72 ?_
      refine lv_topi (fun v_1002 ev_1002 => ?_)
      have bv_1002 : (0 : Int) ≤ v_1002.toInt ∧ v_1002.toInt ≤ 24 := rdk ev_1002 (p_fob_world).1.1 (by decide)
      exact W.iret (v := v_1002) hx hb hr (fun t ht hW => ⟨⟨v_1002, _, rfl, ⟨v_1002, rfl, rfl⟩, by rw [ht]; exact hP, hD⟩, hS.F ht⟩) hS.2.2 dX10_count_73
    · obtain rfl : 2 = a1 := (ej9.trans (by decide)).symm
      refine lv_tableIn (tgt := 74) hx hb dX10_count_3 (by decide) (by decide) rfl (by decide) ?_
      refine lv_aload_n hx hb dX10_count_74 rfl (lv_at hl 1 rfl) ?_
      refine cVim (As := []) (rest := []) ⟨hx, hb, hml, hown, hw0⟩ hA hK hP hD hS [true, true] (sX10_today l G y _ ob ob_thrown ob_world ob_images ob_hasImage ob_tape ob_taped ob_five ob_size ob_at ob_from ob_token ob_value ob_faultKind ob_faultPlace ob_fresh ob_parts ob_houses ob_houseMany ob_worthOf ob_byCall ob_over ob_bestSet ob_bestOver ob_bestWorth ob_row ob_tenDebts ob_tenMany ob_fewestBy ob_covered ob_queue ob_cameBy ob_parent ob_met ob_calls ob_callMany ob_calledOn ob_saved ob_many ob_width ob_numbers ob_moving fob_world p_fob_world p_ob_taped p_ob_size p_ob_at p_ob_from p_ob_token p_ob_value p_ob_faultKind p_ob_houseMany p_ob_bestSet p_ob_bestOver p_ob_tenMany p_ob_callMany) rfl ⟨(callB_of 0 hw0 (gA m_689) rfl rfl rfl (hw0 _ m_41) (hw0 _ m_373) cb_X10_today ⟨Nat.le_of_ble_eq_true rfl, Nat.le_of_ble_eq_true rfl⟩), (hw0 _ m_374), (hw0 _ m_375)⟩ (ci := 10) (q := (RX10, TX10, 41)) rfl rfl rfl hl.1 (Nat.le_of_ble_eq_true rfl) dX10_count_75 ⟨Nat.le_of_ble_eq_true rfl, Nat.le_of_ble_eq_true rfl⟩ (fun r_1003 w_1003 H locs hw_1003 hP hD hS => ?_)
      obtain ⟨v_1004, bv_1004, h_1005, er_1003, rfl⟩ := hw_1003
      subst r_1003
      obtain ⟨hP, hD⟩ : vPD G A H [(ce_X10 ob ob_thrown ob_world ob_images ob_hasImage ob_tape ob_taped ob_five ob_size ob_at ob_from ob_token ob_value ob_faultKind ob_faultPlace ob_fresh ob_parts ob_houses ob_houseMany ob_worthOf ob_byCall ob_over ob_bestSet ob_bestOver ob_bestWorth ob_row ob_tenDebts ob_tenMany ob_fewestBy ob_covered ob_queue ob_cameBy ob_parent ob_met ob_calls ob_callMany ob_calledOn ob_saved ob_many ob_width ob_numbers ob_moving), (ce_i9080 y ob_world fob_world), (ce_i4 y ob_many fob_many)] := ⟨hP, hD⟩
      exact W.iret (v := v_1004) hx hb hr (fun t ht hW => ⟨⟨v_1004, _, rfl, ⟨v_1004, rfl, rfl⟩, by rw [ht]; exact hP, hD⟩, hS.F ht⟩) hS.2.2 dX10_count_78
    · obtain rfl : 3 = a1 := (ej9.trans (by decide)).symm
      refine lv_tableIn (tgt := 79) hx hb dX10_count_3 (by decide) (by decide) rfl (by decide) ?_
      refine lv_aload_n hx hb dX10_count_79 rfl (lv_at hl 1 rfl) ?_
      refine va_get (D := G) (ci := 10) (v := .ref ob_world) (C := RX10) (T := TX10) (N := 41) hx hb hw0 inA_wsX100 hown hK.1 hP 0 rfl rfl 1 (by decide) (hw0 _ m_352) (fun _ h9 => h9) rfl dX10_count_80 ?_
      refine lv_bipush (v := 7) hx hb dX10_count_83 (by decide) ?_
      refine va_iald hx hb hK.1 hP 1 1 rfl rfl (vi (bkc (x := 7) (c := 7) (by decide)) (by decide)) dX10_count_85 ?_
      refine lv_topi (fun v_1006 ev_1006 => ?_)
      have bv_1006 : (0 : Int) ≤ v_1006.toInt ∧ v_1006.toInt ≤ 600 := rdk ev_1006 (p_fob_world).1.1 (by decide)
      exact W.iret (v := v_1006) hx hb hr (fun t ht hW => ⟨⟨v_1006, _, rfl, ⟨v_1006, rfl, rfl⟩, by rw [ht]; exact hP, hD⟩, hS.F ht⟩) hS.2.2 dX10_count_86
    · obtain rfl : 4 = a1 := (ej9.trans (by decide)).symm
      refine lv_tableIn (tgt := 87) hx hb dX10_count_3 (by decide) (by decide) rfl (by decide) ?_
      refine lv_iconst (v := 0) hx hb dX10_count_87 (by decide) ?_
      refine lv_istore_n (lv' := [(3, .int 0), (2, .int 0), (0, .ref ob), (1, .int 4)]) hx hb dX10_count_88 rfl hl (by decide) rfl (fun ls hl => ?_)
      refine loopX (fun n H locs ls st => ∃ (v_1186 : Int32) (v_1187 : Int32), (600 - v_1186.toInt).toNat = n ∧ ((0 : Int) ≤ v_1186.toInt ∧ v_1186.toInt ≤ 600) ∧ st = [] ∧ vPD G A H [(ce_X10 ob ob_thrown ob_world ob_images ob_hasImage ob_tape ob_taped ob_five ob_size ob_at ob_from ob_token ob_value ob_faultKind ob_faultPlace ob_fresh ob_parts ob_houses ob_houseMany ob_worthOf ob_byCall ob_over ob_bestSet ob_bestOver ob_bestWorth ob_row ob_tenDebts ob_tenMany ob_fewestBy ob_covered ob_queue ob_cameBy ob_parent ob_met ob_calls ob_callMany ob_calledOn ob_saved ob_many ob_width ob_numbers ob_moving), (ce_i9080 y ob_world fob_world), (ce_i4 y ob_many fob_many)] ∧ va_S A s.heap H locs ∧ lv_has ls 4 [(3, .int v_1186), (2, .int v_1187), (0, .ref ob)]) ?_ (n := (600 - (0 : Int32).toInt).toNat) ⟨0, 0, rfl, (bw (0) (600) (bkc (x := 0) (c := 0) (by decide)) (by decide)), rfl, ⟨hP, hD⟩, hS, lv_sub hl [0, 1, 2] rfl⟩
      rintro n ih_1199 H locs ls st ⟨v_1186, v_1187, hn_1199, bv_1186, rfl, ⟨hP, hD⟩, hS, hl⟩
      refine lv_iload_n hx hb dX10_count_89 rfl (lv_at hl 0 rfl) ?_
      refine lv_aload_n hx hb dX10_count_90 rfl (lv_at hl 2 rfl) ?_
      refine va_get (D := G) (ci := 10) (v := .ref ob_world) (C := RX10) (T := TX10) (N := 41) hx hb hw0 inA_wsX100 hown hK.1 hP 0 rfl rfl 1 (by decide) (hw0 _ m_352) (fun _ h9 => h9) rfl dX10_count_91 ?_
      refine lv_bipush (v := 7) hx hb dX10_count_94 (by decide) ?_
      refine va_iald hx hb hK.1 hP 1 1 rfl rfl (vi (bkc (x := 7) (c := 7) (by decide)) (by decide)) dX10_count_96 ?_
      refine lv_topi (fun v_1200 ev_1200 => ?_)
      have bv_1200 : (0 : Int) ≤ v_1200.toInt ∧ v_1200.toInt ≤ 600 := rdk ev_1200 (p_fob_world).1.1 (by decide)
      refine lv_icmp_ge (tgt := 127) hx hb dX10_count_97 (by decide) (fun c_1201 => ?_) (fun c_1201 => ?_)
      · skip
        have nc_1201 := nb_le (600) (0) c_1201 bv_1200 bv_1186 (by decide)
        refine lv_iload_n hx hb dX10_count_127 rfl (lv_at hl 1 rfl) ?_
        exact W.iret (v := v_1187) hx hb hr (fun t ht hW => ⟨⟨v_1187, _, rfl, ⟨v_1187, rfl, rfl⟩, by rw [ht]; exact hP, hD⟩, hS.F ht⟩) hS.2.2 dX10_count_128
      · skip
        have nc_1201 := nb_nle (599) (1) c_1201 bv_1186 bv_1200 (by decide)
        refine lv_iload_n hx hb dX10_count_100 rfl (lv_at hl 1 rfl) ?_
        refine lv_aload_n hx hb dX10_count_101 rfl (lv_at hl 2 rfl) ?_
        refine lv_iload_n hx hb dX10_count_102 rfl (lv_at hl 0 rfl) ?_
        refine lv_iconst (v := 3) hx hb dX10_count_103 (by decide) ?_
        refine cVim (As := [.int v_1186, .int 3]) (rest := [.int v_1187]) ⟨hx, hb, hml, hown, hw0⟩ hA hK hP hD hS [true, true] (sofDebt3 l G y _ ob v_1186 ob_thrown ob_world ob_images ob_hasImage ob_tape ob_taped ob_five ob_size ob_at ob_from ob_token ob_value ob_faultKind ob_faultPlace ob_fresh ob_parts ob_houses ob_houseMany ob_worthOf ob_byCall ob_over ob_bestSet ob_bestOver ob_bestWorth ob_row ob_tenDebts ob_tenMany ob_fewestBy ob_covered ob_queue ob_cameBy ob_parent ob_met ob_calls ob_callMany ob_calledOn ob_saved ob_many ob_width ob_numbers ob_moving fob_world p_fob_world p_ob_taped p_ob_size p_ob_at p_ob_from p_ob_token p_ob_value p_ob_faultKind p_ob_houseMany p_ob_bestSet p_ob_bestOver p_ob_tenMany p_ob_callMany (bw (0) (959) nc_1201.1 (by decide))) rfl ⟨(callB_of 2 hw0 (gA m_576) rfl rfl rfl (hw0 _ m_41) (hw0 _ m_402) cb_X10_ofDebt ⟨Nat.le_of_ble_eq_true rfl, Nat.le_of_ble_eq_true rfl⟩), (hw0 _ m_403), (hw0 _ m_404)⟩ (ci := 10) (q := (RX10, TX10, 41)) rfl rfl rfl hl.1 (Nat.le_of_ble_eq_true rfl) dX10_count_104 ⟨Nat.le_of_ble_eq_true rfl, Nat.le_of_ble_eq_true rfl⟩ (fun r_1202 w_1202 H locs hw_1202 hP hD hS => ?_)
        obtain ⟨v_1203, er_1202, rfl⟩ := hw_1202
        subst r_1202
        obtain ⟨hP, hD⟩ : vPD G A H [(ce_X10 ob ob_thrown ob_world ob_images ob_hasImage ob_tape ob_taped ob_five ob_size ob_at ob_from ob_token ob_value ob_faultKind ob_faultPlace ob_fresh ob_parts ob_houses ob_houseMany ob_worthOf ob_byCall ob_over ob_bestSet ob_bestOver ob_bestWorth ob_row ob_tenDebts ob_tenMany ob_fewestBy ob_covered ob_queue ob_cameBy ob_parent ob_met ob_calls ob_callMany ob_calledOn ob_saved ob_many ob_width ob_numbers ob_moving), (ce_i9080 y ob_world fob_world), (ce_i4 y ob_many fob_many)] := ⟨hP, hD⟩
        refine lv_aload_n hx hb dX10_count_107 rfl (lv_at hl 2 rfl) ?_
        refine cVim (As := []) (rest := [.int v_1203, .int v_1187]) ⟨hx, hb, hml, hown, hw0⟩ hA hK hP hD hS [true, true] (sX10_today l G y _ ob ob_thrown ob_world ob_images ob_hasImage ob_tape ob_taped ob_five ob_size ob_at ob_from ob_token ob_value ob_faultKind ob_faultPlace ob_fresh ob_parts ob_houses ob_houseMany ob_worthOf ob_byCall ob_over ob_bestSet ob_bestOver ob_bestWorth ob_row ob_tenDebts ob_tenMany ob_fewestBy ob_covered ob_queue ob_cameBy ob_parent ob_met ob_calls ob_callMany ob_calledOn ob_saved ob_many ob_width ob_numbers ob_moving fob_world p_fob_world p_ob_taped p_ob_size p_ob_at p_ob_from p_ob_token p_ob_value p_ob_faultKind p_ob_houseMany p_ob_bestSet p_ob_bestOver p_ob_tenMany p_ob_callMany) rfl ⟨(callB_of 0 hw0 (gA m_689) rfl rfl rfl (hw0 _ m_41) (hw0 _ m_373) cb_X10_today ⟨Nat.le_of_ble_eq_true rfl, Nat.le_of_ble_eq_true rfl⟩), (hw0 _ m_374), (hw0 _ m_375)⟩ (ci := 10) (q := (RX10, TX10, 41)) rfl rfl rfl hl.1 (Nat.le_of_ble_eq_true rfl) dX10_count_108 ⟨Nat.le_of_ble_eq_true rfl, Nat.le_of_ble_eq_true rfl⟩ (fun r_1204 w_1204 H locs hw_1204 hP hD hS => ?_)
        obtain ⟨v_1205, bv_1205, h_1206, er_1204, rfl⟩ := hw_1204
        subst r_1204
        obtain ⟨hP, hD⟩ : vPD G A H [(ce_X10 ob ob_thrown ob_world ob_images ob_hasImage ob_tape ob_taped ob_five ob_size ob_at ob_from ob_token ob_value ob_faultKind ob_faultPlace ob_fresh ob_parts ob_houses ob_houseMany ob_worthOf ob_byCall ob_over ob_bestSet ob_bestOver ob_bestWorth ob_row ob_tenDebts ob_tenMany ob_fewestBy ob_covered ob_queue ob_cameBy ob_parent ob_met ob_calls ob_callMany ob_calledOn ob_saved ob_many ob_width ob_numbers ob_moving), (ce_i9080 y ob_world fob_world), (ce_i4 y ob_many fob_many)] := ⟨hP, hD⟩
        refine cutW 119 (fun H locs ls st => ∃ (v_1208 : Int32), ((0 : Int) ≤ v_1208.toInt ∧ v_1208.toInt ≤ 1) ∧ st = [.int v_1208, .int v_1187] ∧ vPD G A H [(ce_X10 ob ob_thrown ob_world ob_images ob_hasImage ob_tape ob_taped ob_five ob_size ob_at ob_from ob_token ob_value ob_faultKind ob_faultPlace ob_fresh ob_parts ob_houses ob_houseMany ob_worthOf ob_byCall ob_over ob_bestSet ob_bestOver ob_bestWorth ob_row ob_tenDebts ob_tenMany ob_fewestBy ob_covered ob_queue ob_cameBy ob_parent ob_met ob_calls ob_callMany ob_calledOn ob_saved ob_many ob_width ob_numbers ob_moving), (ce_i9080 y ob_world fob_world), (ce_i4 y ob_many fob_many)] ∧ va_S A s.heap H locs ∧ lv_has ls 4 [(3, .int v_1186), (0, .ref ob)]) ?_ (fun J_119_1208 => ?_)
        · rintro H locs ls st ⟨v_1208, bv_1208, rfl, ⟨hP, hD⟩, hS, hl⟩
          refine lv_iadd hx hb dX10_count_119 ?_
          refine lv_topi (fun v_1209 ev_1209 => ?_)
          refine lv_istore_n (lv' := [(2, .int v_1209), (3, .int v_1186), (0, .ref ob)]) hx hb dX10_count_120 rfl hl (by decide) rfl (fun ls hl => ?_)
          obtain ⟨v_1210, ev_1210⟩ : ∃ z : Int32, z = v_1186 + 1 := ⟨_, rfl⟩
          have qv_1210 := ba_add ev_1210 nc_1201.1 (bkc (x := 1) (c := 1) (by decide)) (by decide)
          have bv_1210 : (1 : Int) ≤ v_1210.toInt ∧ v_1210.toInt ≤ 600 := bq_add qv_1210 nc_1201.1 (bkc (x := 1) (c := 1) (by decide)) _ _ (by decide)
          have qv_1210 : v_1210.toInt = v_1186.toInt + (1) := qv_1210
          refine lv_iinc (v := v_1210) (lv' := [(3, .int v_1210), (2, .int v_1209), (0, .ref ob)]) hx hb dX10_count_121 hl (k := 1) rfl (ev_1210.symm) (by decide) rfl (fun ls hl => ?_)
          refine lv_goto (tgt := 89) hx hb dX10_count_124 (by decide) ?_
          exact ih_1199 _ (ml_inc (hi := 600) hn_1199 qv_1210 (by decide) ((bw (0) (600) bv_1210 (by decide))).2) _ _ _ _ ⟨v_1210, v_1209, rfl, (bw (0) (600) bv_1210 (by decide)), rfl, ⟨hP, hD⟩, hS, lv_sub hl [0, 1, 2] rfl⟩
        · skip
          refine lv_icmp_ge (tgt := 118) hx hb dX10_count_111 (by decide) (fun c_1211 => ?_) (fun c_1211 => ?_)
          · skip
            have nc_1211 := nb_le (399) (0) c_1211 bv_1205 (btop v_1203) (by decide)
            refine lv_iconst (v := 0) hx hb dX10_count_118 (by decide) ?_
            exact J_119_1208 _ _ _ _ ⟨0, (bw (0) (1) (bkc (x := 0) (c := 0) (by decide)) (by decide)), rfl, ⟨hP, hD⟩, hS, lv_sub hl [0, 2] rfl⟩
          · skip
            have nc_1211 := nb_nle (398) (0) c_1211 (btop v_1203) bv_1205 (by decide)
            refine lv_iconst (v := 1) hx hb dX10_count_114 (by decide) ?_
            refine lv_goto (tgt := 119) hx hb dX10_count_115 (by decide) ?_
            exact J_119_1208 _ _ _ _ ⟨1, (bw (0) (1) (bkc (x := 1) (c := 1) (by decide)) (by decide)), rfl, ⟨hP, hD⟩, hS, lv_sub hl [0, 2] rfl⟩
    · obtain rfl : 5 = a1 := (ej9.trans (by decide)).symm
      refine lv_tableIn (tgt := 129) hx hb dX10_count_3 (by decide) (by decide) rfl (by decide) ?_
      refine lv_aload_n hx hb dX10_count_129 rfl (lv_at hl 1 rfl) ?_
      refine va_get (D := G) (ci := 10) (v := .ref ob_world) (C := RX10) (T := TX10) (N := 41) hx hb hw0 inA_wsX100 hown hK.1 hP 0 rfl rfl 1 (by decide) (hw0 _ m_352) (fun _ h9 => h9) rfl dX10_count_130 ?_
      refine lv_bipush (v := 8) hx hb dX10_count_133 (by decide) ?_
      refine va_iald hx hb hK.1 hP 1 1 rfl rfl (vi (bkc (x := 8) (c := 8) (by decide)) (by decide)) dX10_count_135 ?_
      refine lv_topi (fun v_1212 ev_1212 => ?_)
      have bv_1212 : (0 : Int) ≤ v_1212.toInt ∧ v_1212.toInt ≤ 600 := rdk ev_1212 (p_fob_world).1.1 (by decide)
      exact W.iret (v := v_1212) hx hb hr (fun t ht hW => ⟨⟨v_1212, _, rfl, ⟨v_1212, rfl, rfl⟩, by rw [ht]; exact hP, hD⟩, hS.F ht⟩) hS.2.2 dX10_count_136
    · obtain rfl : 6 = a1 := (ej9.trans (by decide)).symm
      refine lv_tableIn (tgt := 137) hx hb dX10_count_3 (by decide) (by decide) rfl (by decide) ?_
      refine lv_aload_n hx hb dX10_count_137 rfl (lv_at hl 1 rfl) ?_
      refine va_get (D := G) (ci := 10) (v := .ref ob_world) (C := RX10) (T := TX10) (N := 41) hx hb hw0 inA_wsX100 hown hK.1 hP 0 rfl rfl 1 (by decide) (hw0 _ m_352) (fun _ h9 => h9) rfl dX10_count_138 ?_
      refine lv_bipush (v := 9) hx hb dX10_count_141 (by decide) ?_
      refine va_iald hx hb hK.1 hP 1 1 rfl rfl (vi (bkc (x := 9) (c := 9) (by decide)) (by decide)) dX10_count_143 ?_
      refine lv_topi (fun v_1213 ev_1213 => ?_)
      exact W.iret (v := v_1213) hx hb hr (fun t ht hW => ⟨⟨v_1213, _, rfl, ⟨v_1213, rfl, rfl⟩, by rw [ht]; exact hP, hD⟩, hS.F ht⟩) hS.2.2 dX10_count_144
    · obtain rfl : 7 = a1 := (ej9.trans (by decide)).symm
      refine lv_tableIn (tgt := 145) hx hb dX10_count_3 (by decide) (by decide) rfl (by decide) ?_
      refine lv_aload_n hx hb dX10_count_145 rfl (lv_at hl 1 rfl) ?_
      refine va_get (D := G) (ci := 10) (v := .int ob_taped) (C := RX10) (T := TX10) (N := 41) hx hb hw0 inA_wsX100 hown hK.1 hP 0 rfl rfl 5 (by decide) (hw0 _ m_405) (fun _ h9 => h9) rfl dX10_count_146 ?_
      exact W.iret (v := ob_taped) hx hb hr (fun t ht hW => ⟨⟨ob_taped, _, rfl, ⟨ob_taped, rfl, rfl⟩, by rw [ht]; exact hP, hD⟩, hS.F ht⟩) hS.2.2 dX10_count_149
    · obtain rfl : 8 = a1 := (ej9.trans (by decide)).symm
      refine lv_tableIn (tgt := 150) hx hb dX10_count_3 (by decide) (by decide) rfl (by decide) ?_
      refine lv_aload_n hx hb dX10_count_150 rfl (lv_at hl 1 rfl) ?_
      refine va_get (D := G) (ci := 10) (v := .ref ob_world) (C := RX10) (T := TX10) (N := 41) hx hb hw0 inA_wsX100 hown hK.1 hP 0 rfl rfl 1 (by decide) (hw0 _ m_352) (fun _ h9 => h9) rfl dX10_count_151 ?_
      refine lv_iconst (v := 5) hx hb dX10_count_154 (by decide) ?_
      refine va_iald hx hb hK.1 hP 1 1 rfl rfl (vi (bkc (x := 5) (c := 5) (by decide)) (by decide)) dX10_count_155 ?_
      refine lv_topi (fun v_1214 ev_1214 => ?_)
      exact W.iret (v := v_1214) hx hb hr (fun t ht hW => ⟨⟨v_1214, _, rfl, ⟨v_1214, rfl, rfl⟩, by rw [ht]; exact hP, hD⟩, hS.F ht⟩) hS.2.2 dX10_count_156
    · obtain rfl : 9 = a1 := (ej9.trans (by decide)).symm
      refine lv_tableIn (tgt := 157) hx hb dX10_count_3 (by decide) (by decide) rfl (by decide) ?_
      refine lv_aload_n hx hb dX10_count_157 rfl (lv_at hl 1 rfl) ?_
      refine va_get (D := G) (ci := 10) (v := .ref ob_world) (C := RX10) (T := TX10) (N := 41) hx hb hw0 inA_wsX100 hown hK.1 hP 0 rfl rfl 1 (by decide) (hw0 _ m_352) (fun _ h9 => h9) rfl dX10_count_158 ?_
      refine lv_iconst (v := 4) hx hb dX10_count_161 (by decide) ?_
      refine va_iald hx hb hK.1 hP 1 1 rfl rfl (vi (bkc (x := 4) (c := 4) (by decide)) (by decide)) dX10_count_162 ?_
      refine lv_topi (fun v_1215 ev_1215 => ?_)
      exact W.iret (v := v_1215) hx hb hr (fun t ht hW => ⟨⟨v_1215, _, rfl, ⟨v_1215, rfl, rfl⟩, by rw [ht]; exact hP, hD⟩, hS.F ht⟩) hS.2.2 dX10_count_163
    · obtain rfl : 10 = a1 := (ej9.trans (by decide)).symm
      refine lv_tableIn (tgt := 164) hx hb dX10_count_3 (by decide) (by decide) rfl (by decide) ?_
      refine lv_iconst (v := 0) hx hb dX10_count_164 (by decide) ?_
      refine lv_istore_n (lv' := [(3, .int 0), (2, .int 0), (0, .ref ob), (1, .int 10)]) hx hb dX10_count_165 rfl hl (by decide) rfl (fun ls hl => ?_)
      refine loopX (fun n H locs ls st => ∃ (v_1326 : Int32) (v_1327 : Int32), (4 - v_1326.toInt).toNat = n ∧ ((0 : Int) ≤ v_1326.toInt ∧ v_1326.toInt ≤ 4) ∧ st = [] ∧ vPD G A H [(ce_X10 ob ob_thrown ob_world ob_images ob_hasImage ob_tape ob_taped ob_five ob_size ob_at ob_from ob_token ob_value ob_faultKind ob_faultPlace ob_fresh ob_parts ob_houses ob_houseMany ob_worthOf ob_byCall ob_over ob_bestSet ob_bestOver ob_bestWorth ob_row ob_tenDebts ob_tenMany ob_fewestBy ob_covered ob_queue ob_cameBy ob_parent ob_met ob_calls ob_callMany ob_calledOn ob_saved ob_many ob_width ob_numbers ob_moving), (ce_i9080 y ob_world fob_world), (ce_i4 y ob_many fob_many)] ∧ va_S A s.heap H locs ∧ lv_has ls 4 [(3, .int v_1326), (2, .int v_1327), (0, .ref ob)]) ?_ (n := (4 - (0 : Int32).toInt).toNat) ⟨0, 0, rfl, (bw (0) (4) (bkc (x := 0) (c := 0) (by decide)) (by decide)), rfl, ⟨hP, hD⟩, hS, lv_sub hl [0, 1, 2] rfl⟩
      rintro n ih_1334 H locs ls st ⟨v_1326, v_1327, hn_1334, bv_1326, rfl, ⟨hP, hD⟩, hS, hl⟩
      refine lv_iload_n hx hb dX10_count_166 rfl (lv_at hl 0 rfl) ?_
      refine lv_iconst (v := 4) hx hb dX10_count_167 (by decide) ?_
      refine lv_icmp_ge (tgt := 195) hx hb dX10_count_168 (by decide) (fun c_1335 => ?_) (fun c_1335 => ?_)
      · skip
        have nc_1335 := nb_le (4) (4) c_1335 (bkc (x := 4) (c := 4) (by decide)) bv_1326 (by decide)
        refine lv_iload_n hx hb dX10_count_195 rfl (lv_at hl 1 rfl) ?_
        exact W.iret (v := v_1327) hx hb hr (fun t ht hW => ⟨⟨v_1327, _, rfl, ⟨v_1327, rfl, rfl⟩, by rw [ht]; exact hP, hD⟩, hS.F ht⟩) hS.2.2 dX10_count_196
      · skip
        have nc_1335 := nb_nle (3) (4) c_1335 bv_1326 (bkc (x := 4) (c := 4) (by decide)) (by decide)
        refine lv_iload_n hx hb dX10_count_171 rfl (lv_at hl 1 rfl) ?_
        refine lv_aload_n hx hb dX10_count_172 rfl (lv_at hl 2 rfl) ?_
        refine va_get (D := G) (ci := 10) (v := .ref ob_many) (C := RX10) (T := TX10) (N := 41) hx hb hw0 inA_wsX100 hown hK.1 hP 0 rfl rfl 37 (by decide) (hw0 _ m_406) (fun _ h9 => h9) rfl dX10_count_173 ?_
        refine lv_iload_n hx hb dX10_count_176 rfl (lv_at hl 0 rfl) ?_
        refine va_iald hx hb hK.1 hP 2 1 rfl rfl (vi nc_1335.1 (by decide)) dX10_count_177 ?_
        refine lv_topi (fun v_1336 ev_1336 => ?_)
        have bv_1336 : (-1 : Int) ≤ v_1336.toInt ∧ v_1336.toInt ≤ 60 := rd_b ev_1336 p_fob_many
        refine lv_iconst (v := (-1)) hx hb dX10_count_178 (by decide) ?_
        refine cutW 187 (fun H locs ls st => ∃ (v_1338 : Int32), ((0 : Int) ≤ v_1338.toInt ∧ v_1338.toInt ≤ 1) ∧ st = [.int v_1338, .int v_1327] ∧ vPD G A H [(ce_X10 ob ob_thrown ob_world ob_images ob_hasImage ob_tape ob_taped ob_five ob_size ob_at ob_from ob_token ob_value ob_faultKind ob_faultPlace ob_fresh ob_parts ob_houses ob_houseMany ob_worthOf ob_byCall ob_over ob_bestSet ob_bestOver ob_bestWorth ob_row ob_tenDebts ob_tenMany ob_fewestBy ob_covered ob_queue ob_cameBy ob_parent ob_met ob_calls ob_callMany ob_calledOn ob_saved ob_many ob_width ob_numbers ob_moving), (ce_i9080 y ob_world fob_world), (ce_i4 y ob_many fob_many)] ∧ va_S A s.heap H locs ∧ lv_has ls 4 [(3, .int v_1326), (0, .ref ob)]) ?_ (fun J_187_1338 => ?_)
        · rintro H locs ls st ⟨v_1338, bv_1338, rfl, ⟨hP, hD⟩, hS, hl⟩
          refine lv_iadd hx hb dX10_count_187 ?_
          refine lv_topi (fun v_1339 ev_1339 => ?_)
          refine lv_istore_n (lv' := [(2, .int v_1339), (3, .int v_1326), (0, .ref ob)]) hx hb dX10_count_188 rfl hl (by decide) rfl (fun ls hl => ?_)
          obtain ⟨v_1340, ev_1340⟩ : ∃ z : Int32, z = v_1326 + 1 := ⟨_, rfl⟩
          have qv_1340 := ba_add ev_1340 nc_1335.1 (bkc (x := 1) (c := 1) (by decide)) (by decide)
          have bv_1340 : (1 : Int) ≤ v_1340.toInt ∧ v_1340.toInt ≤ 4 := bq_add qv_1340 nc_1335.1 (bkc (x := 1) (c := 1) (by decide)) _ _ (by decide)
          have qv_1340 : v_1340.toInt = v_1326.toInt + (1) := qv_1340
          refine lv_iinc (v := v_1340) (lv' := [(3, .int v_1340), (2, .int v_1339), (0, .ref ob)]) hx hb dX10_count_189 hl (k := 1) rfl (ev_1340.symm) (by decide) rfl (fun ls hl => ?_)
          refine lv_goto (tgt := 166) hx hb dX10_count_192 (by decide) ?_
          exact ih_1334 _ (ml_inc (hi := 4) hn_1334 qv_1340 (by decide) ((bw (0) (4) bv_1340 (by decide))).2) _ _ _ _ ⟨v_1340, v_1339, rfl, (bw (0) (4) bv_1340 (by decide)), rfl, ⟨hP, hD⟩, hS, lv_sub hl [0, 1, 2] rfl⟩
        · skip
          refine lv_icmp_ne (tgt := 186) hx hb dX10_count_179 (by decide) (fun c_1341 => ?_) (fun c_1341 => ?_)
          · skip
            have nc_1341 := nb_ne (0) (60) c_1341 bv_1336 (k := -1) (by decide) (by decide)
            refine lv_iconst (v := 1) hx hb dX10_count_186 (by decide) ?_
            exact J_187_1338 _ _ _ _ ⟨1, (bw (0) (1) (bkc (x := 1) (c := 1) (by decide)) (by decide)), rfl, ⟨hP, hD⟩, hS, lv_sub hl [0, 2] rfl⟩
          · skip
            have nc_1341 := nb_eq (-1) (-1) c_1341 bv_1336 (bkc (x := (-1)) (c := -1) (by decide)) (by decide)
            refine lv_iconst (v := 0) hx hb dX10_count_182 (by decide) ?_
            refine lv_goto (tgt := 187) hx hb dX10_count_183 (by decide) ?_
            exact J_187_1338 _ _ _ _ ⟨0, (bw (0) (1) (bkc (x := 0) (c := 0) (by decide)) (by decide)), rfl, ⟨hP, hD⟩, hS, lv_sub hl [0, 2] rfl⟩
  · refine lv_tableOut (tgt := 197) hx hb dX10_count_3 t_a1 (by decide) ?_
    refine lv_iconst (v := (-1)) hx hb dX10_count_197 (by decide) ?_
    exact W.iret (v := (-1)) hx hb hr (fun t ht hW => ⟨⟨(-1), _, rfl, ⟨(-1), rfl, rfl⟩, by rw [ht]; exact hP, hD⟩, hS.F ht⟩) hS.2.2 dX10_count_198

set_option maxHeartbeats 4000000 in
set_option maxRecDepth 100000 in
theorem sX10_row (l : Launch) (G : va_G) (y : Nat → ClassId) (sz : Nat) (ob : Nat) (a1 : Int32) (a2 : Int32) (a3 : Int32) (ob_thrown : Int32) (ob_world : Nat) (ob_images : Nat) (ob_hasImage : Nat) (ob_tape : Nat) (ob_taped : Int32) (ob_five : Nat) (ob_size : Int32) (ob_at : Int32) (ob_from : Int32) (ob_token : Int32) (ob_value : Int32) (ob_faultKind : Int32) (ob_faultPlace : Int32) (ob_fresh : Nat) (ob_parts : Nat) (ob_houses : Nat) (ob_houseMany : Int32) (ob_worthOf : Nat) (ob_byCall : Nat) (ob_over : Nat) (ob_bestSet : Int32) (ob_bestOver : Int32) (ob_bestWorth : Int32) (ob_row : Nat) (ob_tenDebts : Nat) (ob_tenMany : Int32) (ob_fewestBy : Nat) (ob_covered : Nat) (ob_queue : Nat) (ob_cameBy : Nat) (ob_parent : Nat) (ob_met : Nat) (ob_calls : Nat) (ob_callMany : Int32) (ob_calledOn : Nat) (ob_saved : Nat) (ob_many : Nat) (ob_width : Nat) (ob_numbers : Nat) (ob_moving : Nat) (fob_many : Nat → Int32) (fob_width : Nat → Int32) (fob_numbers : Nat → Int64) (p_ob_taped : (0 : Int) ≤ ob_taped.toInt ∧ ob_taped.toInt ≤ 1400) (p_ob_size : (0 : Int) ≤ ob_size.toInt ∧ ob_size.toInt ≤ 1400) (p_ob_at : (0 : Int) ≤ ob_at.toInt ∧ ob_at.toInt ≤ 1400) (p_ob_from : (0 : Int) ≤ ob_from.toInt ∧ ob_from.toInt ≤ 1400) (p_ob_token : (0 : Int) ≤ ob_token.toInt ∧ ob_token.toInt ≤ 4) (p_ob_value : (0 : Int) ≤ ob_value.toInt ∧ ob_value.toInt ≤ 9999) (p_ob_faultKind : (0 : Int) ≤ ob_faultKind.toInt ∧ ob_faultKind.toInt ≤ 3) (p_ob_houseMany : (0 : Int) ≤ ob_houseMany.toInt ∧ ob_houseMany.toInt ≤ 10) (p_ob_bestSet : (0 : Int) ≤ ob_bestSet.toInt ∧ ob_bestSet.toInt ≤ 1023) (p_ob_bestOver : (-1 : Int) ≤ ob_bestOver.toInt ∧ ob_bestOver.toInt ≤ 180) (p_ob_tenMany : (0 : Int) ≤ ob_tenMany.toInt ∧ ob_tenMany.toInt ≤ 10) (p_ob_callMany : (0 : Int) ≤ ob_callMany.toInt ∧ ob_callMany.toInt ≤ 16) (p_fob_many : ∀ i, (-1 : Int) ≤ (fob_many i).toInt ∧ (fob_many i).toInt ≤ 60) (p_fob_width : ∀ i, (0 : Int) ≤ (fob_width i).toInt ∧ (fob_width i).toInt ≤ 3) : Met l yX10_row (Cond.code yX10_row cX10_row 5 (some .int) :: wAll) ({ frames := 2, cells := 0, slots := 0, locals := 45 }) (va_Pc [.ref ob, .int a1, .int a2, .int a3] (kp G y sz [(ce_X10 ob ob_thrown ob_world ob_images ob_hasImage ob_tape ob_taped ob_five ob_size ob_at ob_from ob_token ob_value ob_faultKind ob_faultPlace ob_fresh ob_parts ob_houses ob_houseMany ob_worthOf ob_byCall ob_over ob_bestSet ob_bestOver ob_bestWorth ob_row ob_tenDebts ob_tenMany ob_fewestBy ob_covered ob_queue ob_cameBy ob_parent ob_met ob_calls ob_callMany ob_calledOn ob_saved ob_many ob_width ob_numbers ob_moving), (ce_i4 y ob_many fob_many), (ce_i4 y ob_width fob_width), (ce_l240 y ob_numbers fob_numbers)])) (va_Qi (fun (r : Int32) (w : va_W) => (∃ (v_209 : Int32) (f_210 : Nat → Int32) (f_211 : Nat → Int32) (f_212 : Nat → Int64), ((-3 : Int) ≤ v_209.toInt ∧ v_209.toInt ≤ 0) ∧ (∀ i, (-1 : Int) ≤ (f_210 i).toInt ∧ (f_210 i).toInt ≤ 60) ∧ (∀ i, (0 : Int) ≤ (f_211 i).toInt ∧ (f_211 i).toInt ≤ 3) ∧ r = v_209 ∧ w = [(ce_X10 ob ob_thrown ob_world ob_images ob_hasImage ob_tape ob_taped ob_five ob_size ob_at ob_from ob_token ob_value ob_faultKind ob_faultPlace ob_fresh ob_parts ob_houses ob_houseMany ob_worthOf ob_byCall ob_over ob_bestSet ob_bestOver ob_bestWorth ob_row ob_tenDebts ob_tenMany ob_fewestBy ob_covered ob_queue ob_cameBy ob_parent ob_met ob_calls ob_callMany ob_calledOn ob_saved ob_many ob_width ob_numbers ob_moving), (ce_i4 y ob_many f_210), (ce_i4 y ob_width f_211), (ce_l240 y ob_numbers f_212)])) (kq G (va_A [(ce_X10 ob ob_thrown ob_world ob_images ob_hasImage ob_tape ob_taped ob_five ob_size ob_at ob_from ob_token ob_value ob_faultKind ob_faultPlace ob_fresh ob_parts ob_houses ob_houseMany ob_worthOf ob_byCall ob_over ob_bestSet ob_bestOver ob_bestWorth ob_row ob_tenDebts ob_tenMany ob_fewestBy ob_covered ob_queue ob_cameBy ob_parent ob_met ob_calls ob_callMany ob_calledOn ob_saved ob_many ob_width ob_numbers ob_moving), (ce_i4 y ob_many fob_many), (ce_i4 y ob_width fob_width), (ce_l240 y ob_numbers fob_numbers)] sz)) (va_A [(ce_X10 ob ob_thrown ob_world ob_images ob_hasImage ob_tape ob_taped ob_five ob_size ob_at ob_from ob_token ob_value ob_faultKind ob_faultPlace ob_fresh ob_parts ob_houses ob_houseMany ob_worthOf ob_byCall ob_over ob_bestSet ob_bestOver ob_bestWorth ob_row ob_tenDebts ob_tenMany ob_fewestBy ob_covered ob_queue ob_cameBy ob_parent ob_met ob_calls ob_callMany ob_calledOn ob_saved ob_many ob_width ob_numbers ob_moving), (ce_i4 y ob_many fob_many), (ce_i4 y ob_width fob_width), (ce_l240 y ob_numbers fob_numbers)] sz)) 0 0 (va_A [(ce_X10 ob ob_thrown ob_world ob_images ob_hasImage ob_tape ob_taped ob_five ob_size ob_at ob_from ob_token ob_value ob_faultKind ob_faultPlace ob_fresh ob_parts ob_houses ob_houseMany ob_worthOf ob_byCall ob_over ob_bestSet ob_bestOver ob_bestWorth ob_row ob_tenDebts ob_tenMany ob_fewestBy ob_covered ob_queue ob_cameBy ob_parent ob_met ob_calls ob_callMany ob_calledOn ob_saved ob_many ob_width ob_numbers ob_moving), (ce_i4 y ob_many fob_many), (ce_i4 y ob_width fob_width), (ce_l240 y ob_numbers fob_numbers)] sz) := by
  refine Met.ofW (cc := cX10_row) (maxL := 5) (ret := (some .int)) (by decide) rfl ?_
  intro p e s m args below meth c s₁ B hml hv
  obtain ⟨rfl, hsz, hP, hK, hD0⟩ := hv
  have hx := B.exec
  have hb := B.bytes
  have hr := B.returns
  have hw0 : ∀ w ∈ wAll, w.before _ s = true := fun w h => atoms_spec (ws := Cond.code yX10_row cX10_row 5 (some .int) :: wAll) B.pre w (List.mem_cons_of_mem _ h)
  have hown : s.vm.findClass RX10 = some m.cls := findClass_of_methodNamed B.named
  subst hsz
  have hD := hD0.self (sz := s.heap.size)
  generalize hAe : va_A [(ce_X10 ob ob_thrown ob_world ob_images ob_hasImage ob_tape ob_taped ob_five ob_size ob_at ob_from ob_token ob_value ob_faultKind ob_faultPlace ob_fresh ob_parts ob_houses ob_houseMany ob_worthOf ob_byCall ob_over ob_bestSet ob_bestOver ob_bestWorth ob_row ob_tenDebts ob_tenMany ob_fewestBy ob_covered ob_queue ob_cameBy ob_parent ob_met ob_calls ob_callMany ob_calledOn ob_saved ob_many ob_width ob_numbers ob_moving), (ce_i4 y ob_many fob_many), (ce_i4 y ob_width fob_width), (ce_l240 y ob_numbers fob_numbers)] s.heap.size = A at hD ⊢
  have hA : ∀ q : Nat, s.heap.size ≤ q → A q := fun q h => by rw [← hAe]; exact Or.inr h
  have hS : va_S A s.heap s.heap [] := va_S.rf
  have hP : va_P G vwCl [(ce_X10 ob ob_thrown ob_world ob_images ob_hasImage ob_tape ob_taped ob_five ob_size ob_at ob_from ob_token ob_value ob_faultKind ob_faultPlace ob_fresh ob_parts ob_houses ob_houseMany ob_worthOf ob_byCall ob_over ob_bestSet ob_bestOver ob_bestWorth ob_row ob_tenDebts ob_tenMany ob_fewestBy ob_covered ob_queue ob_cameBy ob_parent ob_met ob_calls ob_callMany ob_calledOn ob_saved ob_many ob_width ob_numbers ob_moving), (ce_i4 y ob_many fob_many), (ce_i4 y ob_width fob_width), (ce_l240 y ob_numbers fob_numbers)] s.heap := hP
  have hl := lv_entry ([.ref ob, .int a1, .int a2, .int a3]) (n := 5) (Nat.le_of_ble_eq_true rfl)
  rw [lg_entry_eq]
  generalize (lg_sl ([.ref ob, .int a1, .int a2, .int a3]) ++ List.replicate (5 - (lg_sl ([.ref ob, .int a1, .int a2, .int a3])).length) Slot.unset).toArray = ls at hl ⊢
  have hl : lv_has ls 5 [(0, .ref ob), (1, .int a1), (2, .int a2), (3, .int a3)] := hl
  refine lv_iload_n hx hb dX10_row_0 rfl (lv_at hl 1 rfl) ?_
  refine cutW 25 (fun H locs ls st => st = [] ∧ vPD G A H [(ce_X10 ob ob_thrown ob_world ob_images ob_hasImage ob_tape ob_taped ob_five ob_size ob_at ob_from ob_token ob_value ob_faultKind ob_faultPlace ob_fresh ob_parts ob_houses ob_houseMany ob_worthOf ob_byCall ob_over ob_bestSet ob_bestOver ob_bestWorth ob_row ob_tenDebts ob_tenMany ob_fewestBy ob_covered ob_queue ob_cameBy ob_parent ob_met ob_calls ob_callMany ob_calledOn ob_saved ob_many ob_width ob_numbers ob_moving), (ce_i4 y ob_many fob_many), (ce_i4 y ob_width fob_width), (ce_l240 y ob_numbers fob_numbers)] ∧ va_S A s.heap H locs ∧ lv_has ls 5 []) ?_ (fun J_25_1009 => ?_)
  · rintro H locs ls st ⟨rfl, ⟨hP, hD⟩, hS, hl⟩
    refine lv_bipush (v := (-2)) hx hb dX10_row_25 (by decide) ?_
    exact W.iret (v := (-2)) hx hb hr (fun t ht hW => ⟨⟨(-2), _, rfl, ⟨(-2), fob_many, fob_width, fob_numbers, (bw (-3) (0) (bkc (x := (-2)) (c := -2) (by decide)) (by decide)), p_fob_many, p_fob_width, rfl, rfl⟩, by rw [ht]; exact hP, hD⟩, hS.F ht⟩) hS.2.2 dX10_row_27
  · skip
    refine cSim (As := [.int a1]) (rest := []) ⟨hx, hb, hml, hown, hw0⟩ hA hK hP hD hS [] (sX10_isSlot l G y _ a1 ) rfl ⟨(callB_of 1 hw0 (gA m_543) rfl rfl rfl (hw0 _ m_41) (hw0 _ m_433) cb_X10_isSlot ⟨Nat.le_of_ble_eq_true rfl, Nat.le_of_ble_eq_true rfl⟩), (hw0 _ m_434)⟩ rfl hl.1 (Nat.le_of_ble_eq_true rfl) dX10_row_1 ⟨Nat.le_of_ble_eq_true rfl, Nat.le_of_ble_eq_true rfl⟩ (fun r_1010 w_1010 H locs hw_1010 hP hD hS => ?_)
    rcases hw_1010 with ⟨rfl, rfl⟩ | ⟨h_1011, rfl, rfl⟩
    · skip
      obtain ⟨hP, hD⟩ : vPD G A H [(ce_X10 ob ob_thrown ob_world ob_images ob_hasImage ob_tape ob_taped ob_five ob_size ob_at ob_from ob_token ob_value ob_faultKind ob_faultPlace ob_fresh ob_parts ob_houses ob_houseMany ob_worthOf ob_byCall ob_over ob_bestSet ob_bestOver ob_bestWorth ob_row ob_tenDebts ob_tenMany ob_fewestBy ob_covered ob_queue ob_cameBy ob_parent ob_met ob_calls ob_callMany ob_calledOn ob_saved ob_many ob_width ob_numbers ob_moving), (ce_i4 y ob_many fob_many), (ce_i4 y ob_width fob_width), (ce_l240 y ob_numbers fob_numbers)] := ⟨hP, hD⟩
      refine lv_if_eq (tgt := 25) hx hb dX10_row_4 (by decide) (fun _ => ?_) (fun c9 => absurd (by decide) c9)
      exact J_25_1009 _ _ _ _ ⟨rfl, ⟨hP, hD⟩, hS, lv_sub hl [] rfl⟩
    · skip
      obtain ⟨hP, hD⟩ : vPD G A H [(ce_X10 ob ob_thrown ob_world ob_images ob_hasImage ob_tape ob_taped ob_five ob_size ob_at ob_from ob_token ob_value ob_faultKind ob_faultPlace ob_fresh ob_parts ob_houses ob_houseMany ob_worthOf ob_byCall ob_over ob_bestSet ob_bestOver ob_bestWorth ob_row ob_tenDebts ob_tenMany ob_fewestBy ob_covered ob_queue ob_cameBy ob_parent ob_met ob_calls ob_callMany ob_calledOn ob_saved ob_many ob_width ob_numbers ob_moving), (ce_i4 y ob_many fob_many), (ce_i4 y ob_width fob_width), (ce_l240 y ob_numbers fob_numbers)] := ⟨hP, hD⟩
      refine lv_if_eq (tgt := 25) hx hb dX10_row_4 (by decide) (fun c9 => absurd c9 (by decide)) (fun _ => ?_)
      refine lv_iload_n hx hb dX10_row_7 rfl (lv_at hl 2 rfl) ?_
      refine lv_i2l hx hb dX10_row_8 rfl ?_
      refine lv_lconst (v := 0) hx hb dX10_row_9 (by decide) ?_
      refine lv_ldc2 (own := RX10) (v := 3) hx hb hown (hw0 _ m_398) dX10_row_10 ?_
      refine cSim (As := [.long (a2).toInt64, .long 0, .long 3]) (rest := []) ⟨hx, hb, hml, hown, hw0⟩ hA hK hP hD hS [] (sX10_in l G y _ ((a2).toInt64) 0 3 ) rfl ⟨(callB_of 3 hw0 (gA m_516) rfl rfl rfl (hw0 _ m_41) (hw0 _ m_345) cb_X10_in ⟨Nat.le_of_ble_eq_true rfl, Nat.le_of_ble_eq_true rfl⟩), (hw0 _ m_346)⟩ rfl hl.1 (Nat.le_of_ble_eq_true rfl) dX10_row_13 ⟨Nat.le_of_ble_eq_true rfl, Nat.le_of_ble_eq_true rfl⟩ (fun r_1012 w_1012 H locs hw_1012 hP hD hS => ?_)
      rcases hw_1012 with ⟨h_1013, rfl, rfl⟩ | ⟨h_1014, rfl, rfl⟩
      · skip
        have h_1015 : a2.toInt < (0 : Int) ∨ (3 : Int) < a2.toInt := in_n h_1013 (Int32.toInt_toInt64 _) (by decide) (by decide)
        obtain ⟨hP, hD⟩ : vPD G A H [(ce_X10 ob ob_thrown ob_world ob_images ob_hasImage ob_tape ob_taped ob_five ob_size ob_at ob_from ob_token ob_value ob_faultKind ob_faultPlace ob_fresh ob_parts ob_houses ob_houseMany ob_worthOf ob_byCall ob_over ob_bestSet ob_bestOver ob_bestWorth ob_row ob_tenDebts ob_tenMany ob_fewestBy ob_covered ob_queue ob_cameBy ob_parent ob_met ob_calls ob_callMany ob_calledOn ob_saved ob_many ob_width ob_numbers ob_moving), (ce_i4 y ob_many fob_many), (ce_i4 y ob_width fob_width), (ce_l240 y ob_numbers fob_numbers)] := ⟨hP, hD⟩
        refine lv_if_eq (tgt := 25) hx hb dX10_row_16 (by decide) (fun _ => ?_) (fun c9 => absurd (by decide) c9)
        exact J_25_1009 _ _ _ _ ⟨rfl, ⟨hP, hD⟩, hS, lv_sub hl [] rfl⟩
      · skip
        have h_1016 : (0 : Int) ≤ a2.toInt ∧ a2.toInt ≤ (3 : Int) := in_y h_1014 (Int32.toInt_toInt64 _) (by decide) (by decide)
        have h_1017_0 := (btop a2)
        have h_1017_1 := True.intro
        have h_1017_2 := True.intro
        have h_1017 : (0 : Int) ≤ a2.toInt ∧ a2.toInt ≤ 3 := by omega
        obtain ⟨hP, hD⟩ : vPD G A H [(ce_X10 ob ob_thrown ob_world ob_images ob_hasImage ob_tape ob_taped ob_five ob_size ob_at ob_from ob_token ob_value ob_faultKind ob_faultPlace ob_fresh ob_parts ob_houses ob_houseMany ob_worthOf ob_byCall ob_over ob_bestSet ob_bestOver ob_bestWorth ob_row ob_tenDebts ob_tenMany ob_fewestBy ob_covered ob_queue ob_cameBy ob_parent ob_met ob_calls ob_callMany ob_calledOn ob_saved ob_many ob_width ob_numbers ob_moving), (ce_i4 y ob_many fob_many), (ce_i4 y ob_width fob_width), (ce_l240 y ob_numbers fob_numbers)] := ⟨hP, hD⟩
        refine lv_if_eq (tgt := 25) hx hb dX10_row_16 (by decide) (fun c9 => absurd c9 (by decide)) (fun _ => ?_)
        refine lv_iload_n hx hb dX10_row_19 rfl (lv_at hl 3 rfl) ?_
        refine lv_bipush (v := 60) hx hb dX10_row_20 (by decide) ?_
        refine lv_icmp_le (tgt := 28) hx hb dX10_row_22 (by decide) (fun c_1018 => ?_) (fun c_1018 => ?_)
        · skip
          have nc_1018 := nb_le (60) (60) c_1018 (btop a3) (bkc (x := 60) (c := 60) (by decide)) (by decide)
          refine lv_iload_n hx hb dX10_row_28 rfl (lv_at hl 3 rfl) ?_
          refine lv_if_ge (tgt := 35) hx hb dX10_row_29 (by decide) (fun c_1019 => ?_) (fun c_1019 => ?_)
          · skip
            have nc_1019 := nb_le (0) (0) c_1019 (bkc (x := 0) (c := 0) (by decide)) nc_1018.1 (by decide)
            refine lv_aload_n hx hb dX10_row_35 rfl (lv_at hl 0 rfl) ?_
            refine va_get (D := G) (ci := 10) (v := .ref ob_many) (C := RX10) (T := TX10) (N := 41) hx hb hw0 inA_wsX100 hown hK.1 hP 0 rfl rfl 37 (by decide) (hw0 _ m_406) (fun _ h9 => h9) rfl dX10_row_36 ?_
            refine lv_iload_n hx hb dX10_row_39 rfl (lv_at hl 1 rfl) ?_
            refine lv_iload_n hx hb dX10_row_40 rfl (lv_at hl 3 rfl) ?_
            refine va_iast hx hb hK.1 hP hD hS 1 1 rfl rfl (vi h_1011 (by decide)) dX10_row_41 (fun H locs hP hD hS => ?_)
            generalize hf_1020 : (upd fob_many (a1 : Int32).toNatClampNeg a3) = f_1020 at hP hD
            have bf_1020 : ∀ i, (-1 : Int) ≤ (f_1020 i).toInt ∧ (f_1020 i).toInt ≤ 60 := hf_1020 ▸ up_b p_fob_many (bw (-1) (60) nc_1019.2.1 (by decide))
            obtain ⟨hP, hD⟩ : vPD G A H [(ce_X10 ob ob_thrown ob_world ob_images ob_hasImage ob_tape ob_taped ob_five ob_size ob_at ob_from ob_token ob_value ob_faultKind ob_faultPlace ob_fresh ob_parts ob_houses ob_houseMany ob_worthOf ob_byCall ob_over ob_bestSet ob_bestOver ob_bestWorth ob_row ob_tenDebts ob_tenMany ob_fewestBy ob_covered ob_queue ob_cameBy ob_parent ob_met ob_calls ob_callMany ob_calledOn ob_saved ob_many ob_width ob_numbers ob_moving), (ce_i4 y ob_many f_1020), (ce_i4 y ob_width fob_width), (ce_l240 y ob_numbers fob_numbers)] := ⟨hP, hD⟩
            refine lv_aload_n hx hb dX10_row_42 rfl (lv_at hl 0 rfl) ?_
            refine va_get (D := G) (ci := 10) (v := .ref ob_width) (C := RX10) (T := TX10) (N := 41) hx hb hw0 inA_wsX100 hown hK.1 hP 0 rfl rfl 38 (by decide) (hw0 _ m_527) (fun _ h9 => h9) rfl dX10_row_43 ?_
            refine lv_iload_n hx hb dX10_row_46 rfl (lv_at hl 1 rfl) ?_
            refine lv_iload_n hx hb dX10_row_47 rfl (lv_at hl 2 rfl) ?_
            refine va_iast hx hb hK.1 hP hD hS 2 1 rfl rfl (vi h_1011 (by decide)) dX10_row_48 (fun H locs hP hD hS => ?_)
            generalize hf_1021 : (upd fob_width (a1 : Int32).toNatClampNeg a2) = f_1021 at hP hD
            have bf_1021 : ∀ i, (0 : Int) ≤ (f_1021 i).toInt ∧ (f_1021 i).toInt ≤ 3 := hf_1021 ▸ up_b p_fob_width h_1017
            obtain ⟨hP, hD⟩ : vPD G A H [(ce_X10 ob ob_thrown ob_world ob_images ob_hasImage ob_tape ob_taped ob_five ob_size ob_at ob_from ob_token ob_value ob_faultKind ob_faultPlace ob_fresh ob_parts ob_houses ob_houseMany ob_worthOf ob_byCall ob_over ob_bestSet ob_bestOver ob_bestWorth ob_row ob_tenDebts ob_tenMany ob_fewestBy ob_covered ob_queue ob_cameBy ob_parent ob_met ob_calls ob_callMany ob_calledOn ob_saved ob_many ob_width ob_numbers ob_moving), (ce_i4 y ob_many f_1020), (ce_i4 y ob_width f_1021), (ce_l240 y ob_numbers fob_numbers)] := ⟨hP, hD⟩
            refine lv_iconst (v := 0) hx hb dX10_row_49 (by decide) ?_
            refine lv_istore (lv' := [(4, .int 0), (0, .ref ob), (1, .int a1), (2, .int a2), (3, .int a3)]) hx hb dX10_row_50 hl (by decide) rfl (fun ls hl => ?_)
            refine loopX (fun n H locs ls st => ∃ (v_1093 : Int32) (f_1094 : Nat → Int64), (60 - v_1093.toInt).toNat = n ∧ ((0 : Int) ≤ v_1093.toInt ∧ v_1093.toInt ≤ 60) ∧ st = [] ∧ vPD G A H [(ce_X10 ob ob_thrown ob_world ob_images ob_hasImage ob_tape ob_taped ob_five ob_size ob_at ob_from ob_token ob_value ob_faultKind ob_faultPlace ob_fresh ob_parts ob_houses ob_houseMany ob_worthOf ob_byCall ob_over ob_bestSet ob_bestOver ob_bestWorth ob_row ob_tenDebts ob_tenMany ob_fewestBy ob_covered ob_queue ob_cameBy ob_parent ob_met ob_calls ob_callMany ob_calledOn ob_saved ob_many ob_width ob_numbers ob_moving), (ce_i4 y ob_many f_1020), (ce_i4 y ob_width f_1021), (ce_l240 y ob_numbers f_1094)] ∧ va_S A s.heap H locs ∧ lv_has ls 5 [(4, .int v_1093), (0, .ref ob), (1, .int a1)]) ?_ (n := (60 - (0 : Int32).toInt).toNat) ⟨0, fob_numbers, rfl, (bw (0) (60) (bkc (x := 0) (c := 0) (by decide)) (by decide)), rfl, ⟨hP, hD⟩, hS, lv_sub hl [0, 1, 2] rfl⟩
            rintro n ih_1099 H locs ls st ⟨v_1093, f_1094, hn_1099, bv_1093, rfl, ⟨hP, hD⟩, hS, hl⟩
            refine lv_iload hx hb dX10_row_52 (lv_at hl 0 rfl) ?_
            refine lv_bipush (v := 60) hx hb dX10_row_54 (by decide) ?_
            refine lv_icmp_ge (tgt := 78) hx hb dX10_row_56 (by decide) (fun c_1100 => ?_) (fun c_1100 => ?_)
            · skip
              have nc_1100 := nb_le (60) (60) c_1100 (bkc (x := 60) (c := 60) (by decide)) bv_1093 (by decide)
              refine lv_iconst (v := 0) hx hb dX10_row_78 (by decide) ?_
              exact W.iret (v := 0) hx hb hr (fun t ht hW => ⟨⟨0, _, rfl, ⟨0, f_1020, f_1021, f_1094, (bw (-3) (0) (bkc (x := 0) (c := 0) (by decide)) (by decide)), bf_1020, bf_1021, rfl, rfl⟩, by rw [ht]; exact hP, hD⟩, hS.F ht⟩) hS.2.2 dX10_row_79
            · skip
              have nc_1100 := nb_nle (59) (60) c_1100 bv_1093 (bkc (x := 60) (c := 60) (by decide)) (by decide)
              refine lv_aload_n hx hb dX10_row_59 rfl (lv_at hl 1 rfl) ?_
              refine va_get (D := G) (ci := 10) (v := .ref ob_numbers) (C := RX10) (T := TX10) (N := 41) hx hb hw0 inA_wsX100 hown hK.1 hP 0 rfl rfl 39 (by decide) (hw0 _ m_435) (fun _ h9 => h9) rfl dX10_row_60 ?_
              refine lv_bipush (v := 60) hx hb dX10_row_63 (by decide) ?_
              refine lv_iload_n hx hb dX10_row_65 rfl (lv_at hl 2 rfl) ?_
              refine lv_imul hx hb dX10_row_66 ?_
              refine lv_topi (fun v_1101 ev_1101 => ?_)
              have qv_1101 := ba_mul 60 (ev_1101.trans (Int32.mul_comm _ _)) h_1011 (by decide) (by decide) (by decide)
              have bv_1101 : (0 : Int) ≤ v_1101.toInt ∧ v_1101.toInt ≤ 180 := qv_1101.2
              refine lv_iload hx hb dX10_row_67 (lv_at hl 0 rfl) ?_
              refine lv_iadd hx hb dX10_row_69 ?_
              refine lv_topi (fun v_1102 ev_1102 => ?_)
              have qv_1102 := ba_add ev_1102 bv_1101 nc_1100.1 (by decide)
              have bv_1102 : (0 : Int) ≤ v_1102.toInt ∧ v_1102.toInt ≤ 239 := bq_add qv_1102 bv_1101 nc_1100.1 _ _ (by decide)
              refine lv_lconst (v := 0) hx hb dX10_row_70 (by decide) ?_
              refine va_last hx hb hK.1 hP hD hS 3 2 rfl rfl (vi bv_1102 (by decide)) dX10_row_71 (fun H locs hP hD hS => ?_)
              generalize hf_1103 : (vp_updL f_1094 (v_1102 : Int32).toNatClampNeg 0) = f_1103 at hP hD
              obtain ⟨hP, hD⟩ : vPD G A H [(ce_X10 ob ob_thrown ob_world ob_images ob_hasImage ob_tape ob_taped ob_five ob_size ob_at ob_from ob_token ob_value ob_faultKind ob_faultPlace ob_fresh ob_parts ob_houses ob_houseMany ob_worthOf ob_byCall ob_over ob_bestSet ob_bestOver ob_bestWorth ob_row ob_tenDebts ob_tenMany ob_fewestBy ob_covered ob_queue ob_cameBy ob_parent ob_met ob_calls ob_callMany ob_calledOn ob_saved ob_many ob_width ob_numbers ob_moving), (ce_i4 y ob_many f_1020), (ce_i4 y ob_width f_1021), (ce_l240 y ob_numbers f_1103)] := ⟨hP, hD⟩
              obtain ⟨v_1104, ev_1104⟩ : ∃ z : Int32, z = v_1093 + 1 := ⟨_, rfl⟩
              have qv_1104 := ba_add ev_1104 nc_1100.1 (bkc (x := 1) (c := 1) (by decide)) (by decide)
              have bv_1104 : (1 : Int) ≤ v_1104.toInt ∧ v_1104.toInt ≤ 60 := bq_add qv_1104 nc_1100.1 (bkc (x := 1) (c := 1) (by decide)) _ _ (by decide)
              have qv_1104 : v_1104.toInt = v_1093.toInt + (1) := qv_1104
              refine lv_iinc (v := v_1104) (lv' := [(4, .int v_1104), (0, .ref ob), (1, .int a1)]) hx hb dX10_row_72 hl (k := 0) rfl (ev_1104.symm) (by decide) rfl (fun ls hl => ?_)
              refine lv_goto (tgt := 52) hx hb dX10_row_75 (by decide) ?_
              exact ih_1099 _ (ml_inc (hi := 60) hn_1099 qv_1104 (by decide) ((bw (0) (60) bv_1104 (by decide))).2) _ _ _ _ ⟨v_1104, f_1103, rfl, (bw (0) (60) bv_1104 (by decide)), rfl, ⟨hP, hD⟩, hS, lv_sub hl [0, 1, 2] rfl⟩
          · skip
            have nc_1019 := nb_nle (-1) (0) c_1019 nc_1018.1 (bkc (x := 0) (c := 0) (by decide)) (by decide)
            refine lv_bipush (v := (-3)) hx hb dX10_row_32 (by decide) ?_
            exact W.iret (v := (-3)) hx hb hr (fun t ht hW => ⟨⟨(-3), _, rfl, ⟨(-3), fob_many, fob_width, fob_numbers, (bw (-3) (0) (bkc (x := (-3)) (c := -3) (by decide)) (by decide)), p_fob_many, p_fob_width, rfl, rfl⟩, by rw [ht]; exact hP, hD⟩, hS.F ht⟩) hS.2.2 dX10_row_34
        · skip
          have nc_1018 := nb_nle (60) (61) c_1018 (bkc (x := 60) (c := 60) (by decide)) (btop a3) (by decide)
          exact J_25_1009 _ _ _ _ ⟨rfl, ⟨hP, hD⟩, hS, lv_sub hl [] rfl⟩

set_option maxHeartbeats 4000000 in
set_option maxRecDepth 100000 in
theorem sX10_write (l : Launch) (G : va_G) (y : Nat → ClassId) (sz : Nat) (ob : Nat) (a1 : Int32) (a2 : Int32) (a3 : Int64) (ob_thrown : Int32) (ob_world : Nat) (ob_images : Nat) (ob_hasImage : Nat) (ob_tape : Nat) (ob_taped : Int32) (ob_five : Nat) (ob_size : Int32) (ob_at : Int32) (ob_from : Int32) (ob_token : Int32) (ob_value : Int32) (ob_faultKind : Int32) (ob_faultPlace : Int32) (ob_fresh : Nat) (ob_parts : Nat) (ob_houses : Nat) (ob_houseMany : Int32) (ob_worthOf : Nat) (ob_byCall : Nat) (ob_over : Nat) (ob_bestSet : Int32) (ob_bestOver : Int32) (ob_bestWorth : Int32) (ob_row : Nat) (ob_tenDebts : Nat) (ob_tenMany : Int32) (ob_fewestBy : Nat) (ob_covered : Nat) (ob_queue : Nat) (ob_cameBy : Nat) (ob_parent : Nat) (ob_met : Nat) (ob_calls : Nat) (ob_callMany : Int32) (ob_calledOn : Nat) (ob_saved : Nat) (ob_many : Nat) (ob_width : Nat) (ob_numbers : Nat) (ob_moving : Nat) (fob_many : Nat → Int32) (fob_width : Nat → Int32) (fob_numbers : Nat → Int64) (p_ob_taped : (0 : Int) ≤ ob_taped.toInt ∧ ob_taped.toInt ≤ 1400) (p_ob_size : (0 : Int) ≤ ob_size.toInt ∧ ob_size.toInt ≤ 1400) (p_ob_at : (0 : Int) ≤ ob_at.toInt ∧ ob_at.toInt ≤ 1400) (p_ob_from : (0 : Int) ≤ ob_from.toInt ∧ ob_from.toInt ≤ 1400) (p_ob_token : (0 : Int) ≤ ob_token.toInt ∧ ob_token.toInt ≤ 4) (p_ob_value : (0 : Int) ≤ ob_value.toInt ∧ ob_value.toInt ≤ 9999) (p_ob_faultKind : (0 : Int) ≤ ob_faultKind.toInt ∧ ob_faultKind.toInt ≤ 3) (p_ob_houseMany : (0 : Int) ≤ ob_houseMany.toInt ∧ ob_houseMany.toInt ≤ 10) (p_ob_bestSet : (0 : Int) ≤ ob_bestSet.toInt ∧ ob_bestSet.toInt ≤ 1023) (p_ob_bestOver : (-1 : Int) ≤ ob_bestOver.toInt ∧ ob_bestOver.toInt ≤ 180) (p_ob_tenMany : (0 : Int) ≤ ob_tenMany.toInt ∧ ob_tenMany.toInt ≤ 10) (p_ob_callMany : (0 : Int) ≤ ob_callMany.toInt ∧ ob_callMany.toInt ≤ 16) (p_fob_many : ∀ i, (-1 : Int) ≤ (fob_many i).toInt ∧ (fob_many i).toInt ≤ 60) (p_fob_width : ∀ i, (0 : Int) ≤ (fob_width i).toInt ∧ (fob_width i).toInt ≤ 3) : Met l yX10_write (Cond.code yX10_write cX10_write 5 (some .int) :: wAll) ({ frames := 2, cells := 0, slots := 0, locals := 45 }) (va_Pc [.ref ob, .int a1, .int a2, .long a3] (kp G y sz [(ce_X10 ob ob_thrown ob_world ob_images ob_hasImage ob_tape ob_taped ob_five ob_size ob_at ob_from ob_token ob_value ob_faultKind ob_faultPlace ob_fresh ob_parts ob_houses ob_houseMany ob_worthOf ob_byCall ob_over ob_bestSet ob_bestOver ob_bestWorth ob_row ob_tenDebts ob_tenMany ob_fewestBy ob_covered ob_queue ob_cameBy ob_parent ob_met ob_calls ob_callMany ob_calledOn ob_saved ob_many ob_width ob_numbers ob_moving), (ce_i4 y ob_many fob_many), (ce_i4 y ob_width fob_width), (ce_l240 y ob_numbers fob_numbers)])) (va_Qi (fun (r : Int32) (w : va_W) => (∃ (v_39 : Int32) (f_40 : Nat → Int64), ((-7 : Int) ≤ v_39.toInt ∧ v_39.toInt ≤ 0) ∧ r = v_39 ∧ w = [(ce_X10 ob ob_thrown ob_world ob_images ob_hasImage ob_tape ob_taped ob_five ob_size ob_at ob_from ob_token ob_value ob_faultKind ob_faultPlace ob_fresh ob_parts ob_houses ob_houseMany ob_worthOf ob_byCall ob_over ob_bestSet ob_bestOver ob_bestWorth ob_row ob_tenDebts ob_tenMany ob_fewestBy ob_covered ob_queue ob_cameBy ob_parent ob_met ob_calls ob_callMany ob_calledOn ob_saved ob_many ob_width ob_numbers ob_moving), (ce_i4 y ob_many fob_many), (ce_i4 y ob_width fob_width), (ce_l240 y ob_numbers f_40)])) (kq G (va_A [(ce_X10 ob ob_thrown ob_world ob_images ob_hasImage ob_tape ob_taped ob_five ob_size ob_at ob_from ob_token ob_value ob_faultKind ob_faultPlace ob_fresh ob_parts ob_houses ob_houseMany ob_worthOf ob_byCall ob_over ob_bestSet ob_bestOver ob_bestWorth ob_row ob_tenDebts ob_tenMany ob_fewestBy ob_covered ob_queue ob_cameBy ob_parent ob_met ob_calls ob_callMany ob_calledOn ob_saved ob_many ob_width ob_numbers ob_moving), (ce_i4 y ob_many fob_many), (ce_i4 y ob_width fob_width), (ce_l240 y ob_numbers fob_numbers)] sz)) (va_A [(ce_X10 ob ob_thrown ob_world ob_images ob_hasImage ob_tape ob_taped ob_five ob_size ob_at ob_from ob_token ob_value ob_faultKind ob_faultPlace ob_fresh ob_parts ob_houses ob_houseMany ob_worthOf ob_byCall ob_over ob_bestSet ob_bestOver ob_bestWorth ob_row ob_tenDebts ob_tenMany ob_fewestBy ob_covered ob_queue ob_cameBy ob_parent ob_met ob_calls ob_callMany ob_calledOn ob_saved ob_many ob_width ob_numbers ob_moving), (ce_i4 y ob_many fob_many), (ce_i4 y ob_width fob_width), (ce_l240 y ob_numbers fob_numbers)] sz)) 0 0 (va_A [(ce_X10 ob ob_thrown ob_world ob_images ob_hasImage ob_tape ob_taped ob_five ob_size ob_at ob_from ob_token ob_value ob_faultKind ob_faultPlace ob_fresh ob_parts ob_houses ob_houseMany ob_worthOf ob_byCall ob_over ob_bestSet ob_bestOver ob_bestWorth ob_row ob_tenDebts ob_tenMany ob_fewestBy ob_covered ob_queue ob_cameBy ob_parent ob_met ob_calls ob_callMany ob_calledOn ob_saved ob_many ob_width ob_numbers ob_moving), (ce_i4 y ob_many fob_many), (ce_i4 y ob_width fob_width), (ce_l240 y ob_numbers fob_numbers)] sz) := by
  refine Met.ofW (cc := cX10_write) (maxL := 5) (ret := (some .int)) (by decide) rfl ?_
  intro p e s m args below meth c s₁ B hml hv
  obtain ⟨rfl, hsz, hP, hK, hD0⟩ := hv
  have hx := B.exec
  have hb := B.bytes
  have hr := B.returns
  have hw0 : ∀ w ∈ wAll, w.before _ s = true := fun w h => atoms_spec (ws := Cond.code yX10_write cX10_write 5 (some .int) :: wAll) B.pre w (List.mem_cons_of_mem _ h)
  have hown : s.vm.findClass RX10 = some m.cls := findClass_of_methodNamed B.named
  subst hsz
  have hD := hD0.self (sz := s.heap.size)
  generalize hAe : va_A [(ce_X10 ob ob_thrown ob_world ob_images ob_hasImage ob_tape ob_taped ob_five ob_size ob_at ob_from ob_token ob_value ob_faultKind ob_faultPlace ob_fresh ob_parts ob_houses ob_houseMany ob_worthOf ob_byCall ob_over ob_bestSet ob_bestOver ob_bestWorth ob_row ob_tenDebts ob_tenMany ob_fewestBy ob_covered ob_queue ob_cameBy ob_parent ob_met ob_calls ob_callMany ob_calledOn ob_saved ob_many ob_width ob_numbers ob_moving), (ce_i4 y ob_many fob_many), (ce_i4 y ob_width fob_width), (ce_l240 y ob_numbers fob_numbers)] s.heap.size = A at hD ⊢
  have hA : ∀ q : Nat, s.heap.size ≤ q → A q := fun q h => by rw [← hAe]; exact Or.inr h
  have hS : va_S A s.heap s.heap [] := va_S.rf
  have hP : va_P G vwCl [(ce_X10 ob ob_thrown ob_world ob_images ob_hasImage ob_tape ob_taped ob_five ob_size ob_at ob_from ob_token ob_value ob_faultKind ob_faultPlace ob_fresh ob_parts ob_houses ob_houseMany ob_worthOf ob_byCall ob_over ob_bestSet ob_bestOver ob_bestWorth ob_row ob_tenDebts ob_tenMany ob_fewestBy ob_covered ob_queue ob_cameBy ob_parent ob_met ob_calls ob_callMany ob_calledOn ob_saved ob_many ob_width ob_numbers ob_moving), (ce_i4 y ob_many fob_many), (ce_i4 y ob_width fob_width), (ce_l240 y ob_numbers fob_numbers)] s.heap := hP
  have hl := lv_entry ([.ref ob, .int a1, .int a2, .long a3]) (n := 5) (Nat.le_of_ble_eq_true rfl)
  rw [lg_entry_eq]
  generalize (lg_sl ([.ref ob, .int a1, .int a2, .long a3]) ++ List.replicate (5 - (lg_sl ([.ref ob, .int a1, .int a2, .long a3])).length) Slot.unset).toArray = ls at hl ⊢
  have hl : lv_has ls 5 [(0, .ref ob), (1, .int a1), (2, .int a2), (3, .long a3)] := hl
  refine lv_iload_n hx hb dX10_write_0 rfl (lv_at hl 1 rfl) ?_
  refine cSim (As := [.int a1]) (rest := []) ⟨hx, hb, hml, hown, hw0⟩ hA hK hP hD hS [] (sX10_isSlot l G y _ a1 ) rfl ⟨(callB_of 1 hw0 (gA m_543) rfl rfl rfl (hw0 _ m_41) (hw0 _ m_433) cb_X10_isSlot ⟨Nat.le_of_ble_eq_true rfl, Nat.le_of_ble_eq_true rfl⟩), (hw0 _ m_434)⟩ rfl hl.1 (Nat.le_of_ble_eq_true rfl) dX10_write_1 ⟨Nat.le_of_ble_eq_true rfl, Nat.le_of_ble_eq_true rfl⟩ (fun r_1001 w_1001 H locs hw_1001 hP hD hS => ?_)
  rcases hw_1001 with ⟨rfl, rfl⟩ | ⟨h_1002, rfl, rfl⟩
  · skip
    obtain ⟨hP, hD⟩ : vPD G A H [(ce_X10 ob ob_thrown ob_world ob_images ob_hasImage ob_tape ob_taped ob_five ob_size ob_at ob_from ob_token ob_value ob_faultKind ob_faultPlace ob_fresh ob_parts ob_houses ob_houseMany ob_worthOf ob_byCall ob_over ob_bestSet ob_bestOver ob_bestWorth ob_row ob_tenDebts ob_tenMany ob_fewestBy ob_covered ob_queue ob_cameBy ob_parent ob_met ob_calls ob_callMany ob_calledOn ob_saved ob_many ob_width ob_numbers ob_moving), (ce_i4 y ob_many fob_many), (ce_i4 y ob_width fob_width), (ce_l240 y ob_numbers fob_numbers)] := ⟨hP, hD⟩
    refine lv_if_ne (tgt := 10) hx hb dX10_write_4 (by decide) (fun c9 => absurd (by decide) c9) (fun _ => ?_)
    refine lv_bipush (v := (-2)) hx hb dX10_write_7 (by decide) ?_
    exact W.iret (v := (-2)) hx hb hr (fun t ht hW => ⟨⟨(-2), _, rfl, ⟨(-2), fob_numbers, (bw (-7) (0) (bkc (x := (-2)) (c := -2) (by decide)) (by decide)), rfl, rfl⟩, by rw [ht]; exact hP, hD⟩, hS.F ht⟩) hS.2.2 dX10_write_9
  · skip
    obtain ⟨hP, hD⟩ : vPD G A H [(ce_X10 ob ob_thrown ob_world ob_images ob_hasImage ob_tape ob_taped ob_five ob_size ob_at ob_from ob_token ob_value ob_faultKind ob_faultPlace ob_fresh ob_parts ob_houses ob_houseMany ob_worthOf ob_byCall ob_over ob_bestSet ob_bestOver ob_bestWorth ob_row ob_tenDebts ob_tenMany ob_fewestBy ob_covered ob_queue ob_cameBy ob_parent ob_met ob_calls ob_callMany ob_calledOn ob_saved ob_many ob_width ob_numbers ob_moving), (ce_i4 y ob_many fob_many), (ce_i4 y ob_width fob_width), (ce_l240 y ob_numbers fob_numbers)] := ⟨hP, hD⟩
    refine lv_if_ne (tgt := 10) hx hb dX10_write_4 (by decide) (fun _ => ?_) (fun c9 => absurd c9 (by decide))
    refine lv_aload_n hx hb dX10_write_10 rfl (lv_at hl 0 rfl) ?_
    refine va_get (D := G) (ci := 10) (v := .ref ob_many) (C := RX10) (T := TX10) (N := 41) hx hb hw0 inA_wsX100 hown hK.1 hP 0 rfl rfl 37 (by decide) (hw0 _ m_406) (fun _ h9 => h9) rfl dX10_write_11 ?_
    refine lv_iload_n hx hb dX10_write_14 rfl (lv_at hl 1 rfl) ?_
    refine va_iald hx hb hK.1 hP 1 1 rfl rfl (vi h_1002 (by decide)) dX10_write_15 ?_
    refine lv_topi (fun v_1003 ev_1003 => ?_)
    have bv_1003 : (-1 : Int) ≤ v_1003.toInt ∧ v_1003.toInt ≤ 60 := rd_b ev_1003 p_fob_many
    refine lv_iconst (v := (-1)) hx hb dX10_write_16 (by decide) ?_
    refine lv_icmp_ne (tgt := 23) hx hb dX10_write_17 (by decide) (fun c_1004 => ?_) (fun c_1004 => ?_)
    · skip
      have nc_1004 := nb_ne (0) (60) c_1004 bv_1003 (k := -1) (by decide) (by decide)
      refine lv_iload_n hx hb dX10_write_23 rfl (lv_at hl 2 rfl) ?_
      refine lv_i2l hx hb dX10_write_24 rfl ?_
      refine lv_lconst (v := 0) hx hb dX10_write_25 (by decide) ?_
      refine lv_aload_n hx hb dX10_write_26 rfl (lv_at hl 0 rfl) ?_
      refine va_get (D := G) (ci := 10) (v := .ref ob_many) (C := RX10) (T := TX10) (N := 41) hx hb hw0 inA_wsX100 hown hK.1 hP 0 rfl rfl 37 (by decide) (hw0 _ m_406) (fun _ h9 => h9) rfl dX10_write_27 ?_
      refine lv_iload_n hx hb dX10_write_30 rfl (lv_at hl 1 rfl) ?_
      refine va_iald hx hb hK.1 hP 1 1 rfl rfl (vi h_1002 (by decide)) dX10_write_31 ?_
      refine lv_topi (fun v_1005 ev_1005 => ?_)
      obtain rfl : v_1003 = v_1005 := (ev_1005.trans (ev_1003.symm)).symm
      refine lv_iconst (v := 1) hx hb dX10_write_32 (by decide) ?_
      refine lv_isub hx hb dX10_write_33 ?_
      refine lv_topi (fun v_1006 ev_1006 => ?_)
      have qv_1006 := ba_sub ev_1006 nc_1004.1 (bkc (x := 1) (c := 1) (by decide)) (by decide)
      have bv_1006 : (-1 : Int) ≤ v_1006.toInt ∧ v_1006.toInt ≤ 59 := bq_sub qv_1006 nc_1004.1 (bkc (x := 1) (c := 1) (by decide)) _ _ (by decide)
      have qv_1006 : v_1006.toInt = v_1003.toInt - (1) := qv_1006
      refine lv_i2l hx hb dX10_write_34 rfl ?_
      refine cSim (As := [.long (a2).toInt64, .long 0, .long (v_1006).toInt64]) (rest := []) ⟨hx, hb, hml, hown, hw0⟩ hA hK hP hD hS [] (sX10_in l G y _ ((a2).toInt64) 0 ((v_1006).toInt64) ) rfl ⟨(callB_of 3 hw0 (gA m_516) rfl rfl rfl (hw0 _ m_41) (hw0 _ m_345) cb_X10_in ⟨Nat.le_of_ble_eq_true rfl, Nat.le_of_ble_eq_true rfl⟩), (hw0 _ m_346)⟩ rfl hl.1 (Nat.le_of_ble_eq_true rfl) dX10_write_35 ⟨Nat.le_of_ble_eq_true rfl, Nat.le_of_ble_eq_true rfl⟩ (fun r_1007 w_1007 H locs hw_1007 hP hD hS => ?_)
      rcases hw_1007 with ⟨h_1008, rfl, rfl⟩ | ⟨h_1009, rfl, rfl⟩
      · skip
        have h_1010 : a2.toInt < (0 : Int) ∨ (v_1006.toInt : Int) < a2.toInt := in_n h_1008 (Int32.toInt_toInt64 _) (by decide) (Int32.toInt_toInt64 _)
        obtain ⟨hP, hD⟩ : vPD G A H [(ce_X10 ob ob_thrown ob_world ob_images ob_hasImage ob_tape ob_taped ob_five ob_size ob_at ob_from ob_token ob_value ob_faultKind ob_faultPlace ob_fresh ob_parts ob_houses ob_houseMany ob_worthOf ob_byCall ob_over ob_bestSet ob_bestOver ob_bestWorth ob_row ob_tenDebts ob_tenMany ob_fewestBy ob_covered ob_queue ob_cameBy ob_parent ob_met ob_calls ob_callMany ob_calledOn ob_saved ob_many ob_width ob_numbers ob_moving), (ce_i4 y ob_many fob_many), (ce_i4 y ob_width fob_width), (ce_l240 y ob_numbers fob_numbers)] := ⟨hP, hD⟩
        refine lv_if_ne (tgt := 44) hx hb dX10_write_38 (by decide) (fun c9 => absurd (by decide) c9) (fun _ => ?_)
        refine lv_bipush (v := (-7)) hx hb dX10_write_41 (by decide) ?_
        exact W.iret (v := (-7)) hx hb hr (fun t ht hW => ⟨⟨(-7), _, rfl, ⟨(-7), fob_numbers, (bw (-7) (0) (bkc (x := (-7)) (c := -7) (by decide)) (by decide)), rfl, rfl⟩, by rw [ht]; exact hP, hD⟩, hS.F ht⟩) hS.2.2 dX10_write_43
      · skip
        have h_1011 : (0 : Int) ≤ a2.toInt ∧ a2.toInt ≤ (v_1006.toInt : Int) := in_y h_1009 (Int32.toInt_toInt64 _) (by decide) (Int32.toInt_toInt64 _)
        have h_1012_0 := (btop a2)
        have h_1012_1 := True.intro
        have h_1012_2 := bv_1006
        have h_1012 : (0 : Int) ≤ a2.toInt ∧ a2.toInt ≤ 59 := by omega
        have h_1013 : (0 : Int) ≤ v_1006.toInt ∧ v_1006.toInt ≤ 59 := by have h9 := bv_1006; have h8 := h_1012; omega
        obtain ⟨hP, hD⟩ : vPD G A H [(ce_X10 ob ob_thrown ob_world ob_images ob_hasImage ob_tape ob_taped ob_five ob_size ob_at ob_from ob_token ob_value ob_faultKind ob_faultPlace ob_fresh ob_parts ob_houses ob_houseMany ob_worthOf ob_byCall ob_over ob_bestSet ob_bestOver ob_bestWorth ob_row ob_tenDebts ob_tenMany ob_fewestBy ob_covered ob_queue ob_cameBy ob_parent ob_met ob_calls ob_callMany ob_calledOn ob_saved ob_many ob_width ob_numbers ob_moving), (ce_i4 y ob_many fob_many), (ce_i4 y ob_width fob_width), (ce_l240 y ob_numbers fob_numbers)] := ⟨hP, hD⟩
        refine lv_if_ne (tgt := 44) hx hb dX10_write_38 (by decide) (fun _ => ?_) (fun c9 => absurd c9 (by decide))
        refine lv_aload_n hx hb dX10_write_44 rfl (lv_at hl 0 rfl) ?_
        refine va_get (D := G) (ci := 10) (v := .ref ob_numbers) (C := RX10) (T := TX10) (N := 41) hx hb hw0 inA_wsX100 hown hK.1 hP 0 rfl rfl 39 (by decide) (hw0 _ m_435) (fun _ h9 => h9) rfl dX10_write_45 ?_
        refine lv_bipush (v := 60) hx hb dX10_write_48 (by decide) ?_
        refine lv_iload_n hx hb dX10_write_50 rfl (lv_at hl 1 rfl) ?_
        refine lv_imul hx hb dX10_write_51 ?_
        refine lv_topi (fun v_1014 ev_1014 => ?_)
        have qv_1014 := ba_mul 60 (ev_1014.trans (Int32.mul_comm _ _)) h_1002 (by decide) (by decide) (by decide)
        have bv_1014 : (0 : Int) ≤ v_1014.toInt ∧ v_1014.toInt ≤ 180 := qv_1014.2
        refine lv_iload_n hx hb dX10_write_52 rfl (lv_at hl 2 rfl) ?_
        refine lv_iadd hx hb dX10_write_53 ?_
        refine lv_topi (fun v_1015 ev_1015 => ?_)
        have qv_1015 := ba_add ev_1015 bv_1014 h_1012 (by decide)
        have bv_1015 : (0 : Int) ≤ v_1015.toInt ∧ v_1015.toInt ≤ 239 := bq_add qv_1015 bv_1014 h_1012 _ _ (by decide)
        refine lv_lload_n hx hb dX10_write_54 rfl (lv_at hl 3 rfl) ?_
        refine lv_aload_n hx hb dX10_write_55 rfl (lv_at hl 0 rfl) ?_
        refine va_get (D := G) (ci := 10) (v := .ref ob_width) (C := RX10) (T := TX10) (N := 41) hx hb hw0 inA_wsX100 hown hK.1 hP 0 rfl rfl 38 (by decide) (hw0 _ m_527) (fun _ h9 => h9) rfl dX10_write_56 ?_
        refine lv_iload_n hx hb dX10_write_59 rfl (lv_at hl 1 rfl) ?_
        refine va_iald hx hb hK.1 hP 2 1 rfl rfl (vi h_1002 (by decide)) dX10_write_60 ?_
        refine lv_topi (fun v_1016 ev_1016 => ?_)
        have bv_1016 : (0 : Int) ≤ v_1016.toInt ∧ v_1016.toInt ≤ 3 := rd_b ev_1016 p_fob_width
        refine cSlm (As := [.long a3, .int v_1016]) (rest := [.int v_1015, .ref ob_numbers]) ⟨hx, hb, hml, hown, hw0⟩ hA hK hP hD hS [] (sX10_cut l G y _ a3 v_1016 bv_1016) rfl ⟨(callB_of 2 hw0 (gA m_412) rfl rfl rfl (hw0 _ m_41) (hw0 _ m_699) cb_X10_cut ⟨Nat.le_of_ble_eq_true rfl, Nat.le_of_ble_eq_true rfl⟩), (hw0 _ m_700)⟩ rfl hl.1 (Nat.le_of_ble_eq_true rfl) dX10_write_61 ⟨Nat.le_of_ble_eq_true rfl, Nat.le_of_ble_eq_true rfl⟩ (fun r_1017 w_1017 H locs hw_1017 hP hD hS => ?_)
        obtain ⟨v_1018, er_1017, rfl⟩ := hw_1017
        subst r_1017
        obtain ⟨hP, hD⟩ : vPD G A H [(ce_X10 ob ob_thrown ob_world ob_images ob_hasImage ob_tape ob_taped ob_five ob_size ob_at ob_from ob_token ob_value ob_faultKind ob_faultPlace ob_fresh ob_parts ob_houses ob_houseMany ob_worthOf ob_byCall ob_over ob_bestSet ob_bestOver ob_bestWorth ob_row ob_tenDebts ob_tenMany ob_fewestBy ob_covered ob_queue ob_cameBy ob_parent ob_met ob_calls ob_callMany ob_calledOn ob_saved ob_many ob_width ob_numbers ob_moving), (ce_i4 y ob_many fob_many), (ce_i4 y ob_width fob_width), (ce_l240 y ob_numbers fob_numbers)] := ⟨hP, hD⟩
        refine va_last hx hb hK.1 hP hD hS 3 2 rfl rfl (vi bv_1015 (by decide)) dX10_write_64 (fun H locs hP hD hS => ?_)
        generalize hf_1019 : (vp_updL fob_numbers (v_1015 : Int32).toNatClampNeg v_1018) = f_1019 at hP hD
        obtain ⟨hP, hD⟩ : vPD G A H [(ce_X10 ob ob_thrown ob_world ob_images ob_hasImage ob_tape ob_taped ob_five ob_size ob_at ob_from ob_token ob_value ob_faultKind ob_faultPlace ob_fresh ob_parts ob_houses ob_houseMany ob_worthOf ob_byCall ob_over ob_bestSet ob_bestOver ob_bestWorth ob_row ob_tenDebts ob_tenMany ob_fewestBy ob_covered ob_queue ob_cameBy ob_parent ob_met ob_calls ob_callMany ob_calledOn ob_saved ob_many ob_width ob_numbers ob_moving), (ce_i4 y ob_many fob_many), (ce_i4 y ob_width fob_width), (ce_l240 y ob_numbers f_1019)] := ⟨hP, hD⟩
        refine lv_iconst (v := 0) hx hb dX10_write_65 (by decide) ?_
        exact W.iret (v := 0) hx hb hr (fun t ht hW => ⟨⟨0, _, rfl, ⟨0, f_1019, (bw (-7) (0) (bkc (x := 0) (c := 0) (by decide)) (by decide)), rfl, rfl⟩, by rw [ht]; exact hP, hD⟩, hS.F ht⟩) hS.2.2 dX10_write_66
    · skip
      have nc_1004 := nb_eq (-1) (-1) c_1004 bv_1003 (bkc (x := (-1)) (c := -1) (by decide)) (by decide)
      refine lv_bipush (v := (-6)) hx hb dX10_write_20 (by decide) ?_
      exact W.iret (v := (-6)) hx hb hr (fun t ht hW => ⟨⟨(-6), _, rfl, ⟨(-6), fob_numbers, (bw (-7) (0) (bkc (x := (-6)) (c := -6) (by decide)) (by decide)), rfl, rfl⟩, by rw [ht]; exact hP, hD⟩, hS.F ht⟩) hS.2.2 dX10_write_22

set_option maxHeartbeats 4000000 in
set_option maxRecDepth 100000 in
theorem sX10_paste (l : Launch) (G : va_G) (y : Nat → ClassId) (sz : Nat) (ob : Nat) (a1 : Int32) (a2 : Int32) (a3 : Int32) (a4 : Int32) (a5 : Int32) (ob_thrown : Int32) (ob_world : Nat) (ob_images : Nat) (ob_hasImage : Nat) (ob_tape : Nat) (ob_taped : Int32) (ob_five : Nat) (ob_size : Int32) (ob_at : Int32) (ob_from : Int32) (ob_token : Int32) (ob_value : Int32) (ob_faultKind : Int32) (ob_faultPlace : Int32) (ob_fresh : Nat) (ob_parts : Nat) (ob_houses : Nat) (ob_houseMany : Int32) (ob_worthOf : Nat) (ob_byCall : Nat) (ob_over : Nat) (ob_bestSet : Int32) (ob_bestOver : Int32) (ob_bestWorth : Int32) (ob_row : Nat) (ob_tenDebts : Nat) (ob_tenMany : Int32) (ob_fewestBy : Nat) (ob_covered : Nat) (ob_queue : Nat) (ob_cameBy : Nat) (ob_parent : Nat) (ob_met : Nat) (ob_calls : Nat) (ob_callMany : Int32) (ob_calledOn : Nat) (ob_saved : Nat) (ob_many : Nat) (ob_width : Nat) (ob_numbers : Nat) (ob_moving : Nat) (fob_many : Nat → Int32) (fob_width : Nat → Int32) (fob_numbers : Nat → Int64) (fob_moving : Nat → Int64) (p_ob_taped : (0 : Int) ≤ ob_taped.toInt ∧ ob_taped.toInt ≤ 1400) (p_ob_size : (0 : Int) ≤ ob_size.toInt ∧ ob_size.toInt ≤ 1400) (p_ob_at : (0 : Int) ≤ ob_at.toInt ∧ ob_at.toInt ≤ 1400) (p_ob_from : (0 : Int) ≤ ob_from.toInt ∧ ob_from.toInt ≤ 1400) (p_ob_token : (0 : Int) ≤ ob_token.toInt ∧ ob_token.toInt ≤ 4) (p_ob_value : (0 : Int) ≤ ob_value.toInt ∧ ob_value.toInt ≤ 9999) (p_ob_faultKind : (0 : Int) ≤ ob_faultKind.toInt ∧ ob_faultKind.toInt ≤ 3) (p_ob_houseMany : (0 : Int) ≤ ob_houseMany.toInt ∧ ob_houseMany.toInt ≤ 10) (p_ob_bestSet : (0 : Int) ≤ ob_bestSet.toInt ∧ ob_bestSet.toInt ≤ 1023) (p_ob_bestOver : (-1 : Int) ≤ ob_bestOver.toInt ∧ ob_bestOver.toInt ≤ 180) (p_ob_tenMany : (0 : Int) ≤ ob_tenMany.toInt ∧ ob_tenMany.toInt ≤ 10) (p_ob_callMany : (0 : Int) ≤ ob_callMany.toInt ∧ ob_callMany.toInt ≤ 16) (p_fob_many : ∀ i, (-1 : Int) ≤ (fob_many i).toInt ∧ (fob_many i).toInt ≤ 60) (p_fob_width : ∀ i, (0 : Int) ≤ (fob_width i).toInt ∧ (fob_width i).toInt ≤ 3) : Met l yX10_paste (Cond.code yX10_paste cX10_paste 7 (some .int) :: wAll) ({ frames := 2, cells := 0, slots := 0, locals := 45 }) (va_Pc [.ref ob, .int a1, .int a2, .int a3, .int a4, .int a5] (kp G y sz [(ce_X10 ob ob_thrown ob_world ob_images ob_hasImage ob_tape ob_taped ob_five ob_size ob_at ob_from ob_token ob_value ob_faultKind ob_faultPlace ob_fresh ob_parts ob_houses ob_houseMany ob_worthOf ob_byCall ob_over ob_bestSet ob_bestOver ob_bestWorth ob_row ob_tenDebts ob_tenMany ob_fewestBy ob_covered ob_queue ob_cameBy ob_parent ob_met ob_calls ob_callMany ob_calledOn ob_saved ob_many ob_width ob_numbers ob_moving), (ce_i4 y ob_many fob_many), (ce_i4 y ob_width fob_width), (ce_l240 y ob_numbers fob_numbers), (ce_l60 y ob_moving fob_moving)])) (va_Qi (fun (r : Int32) (w : va_W) => (∃ (v_643 : Int32) (f_644 : Nat → Int64) (f_645 : Nat → Int64), ((-8 : Int) ≤ v_643.toInt ∧ v_643.toInt ≤ 0) ∧ r = v_643 ∧ w = [(ce_X10 ob ob_thrown ob_world ob_images ob_hasImage ob_tape ob_taped ob_five ob_size ob_at ob_from ob_token ob_value ob_faultKind ob_faultPlace ob_fresh ob_parts ob_houses ob_houseMany ob_worthOf ob_byCall ob_over ob_bestSet ob_bestOver ob_bestWorth ob_row ob_tenDebts ob_tenMany ob_fewestBy ob_covered ob_queue ob_cameBy ob_parent ob_met ob_calls ob_callMany ob_calledOn ob_saved ob_many ob_width ob_numbers ob_moving), (ce_i4 y ob_many fob_many), (ce_i4 y ob_width fob_width), (ce_l240 y ob_numbers f_644), (ce_l60 y ob_moving f_645)])) (kq G (va_A [(ce_X10 ob ob_thrown ob_world ob_images ob_hasImage ob_tape ob_taped ob_five ob_size ob_at ob_from ob_token ob_value ob_faultKind ob_faultPlace ob_fresh ob_parts ob_houses ob_houseMany ob_worthOf ob_byCall ob_over ob_bestSet ob_bestOver ob_bestWorth ob_row ob_tenDebts ob_tenMany ob_fewestBy ob_covered ob_queue ob_cameBy ob_parent ob_met ob_calls ob_callMany ob_calledOn ob_saved ob_many ob_width ob_numbers ob_moving), (ce_i4 y ob_many fob_many), (ce_i4 y ob_width fob_width), (ce_l240 y ob_numbers fob_numbers), (ce_l60 y ob_moving fob_moving)] sz)) (va_A [(ce_X10 ob ob_thrown ob_world ob_images ob_hasImage ob_tape ob_taped ob_five ob_size ob_at ob_from ob_token ob_value ob_faultKind ob_faultPlace ob_fresh ob_parts ob_houses ob_houseMany ob_worthOf ob_byCall ob_over ob_bestSet ob_bestOver ob_bestWorth ob_row ob_tenDebts ob_tenMany ob_fewestBy ob_covered ob_queue ob_cameBy ob_parent ob_met ob_calls ob_callMany ob_calledOn ob_saved ob_many ob_width ob_numbers ob_moving), (ce_i4 y ob_many fob_many), (ce_i4 y ob_width fob_width), (ce_l240 y ob_numbers fob_numbers), (ce_l60 y ob_moving fob_moving)] sz)) 0 0 (va_A [(ce_X10 ob ob_thrown ob_world ob_images ob_hasImage ob_tape ob_taped ob_five ob_size ob_at ob_from ob_token ob_value ob_faultKind ob_faultPlace ob_fresh ob_parts ob_houses ob_houseMany ob_worthOf ob_byCall ob_over ob_bestSet ob_bestOver ob_bestWorth ob_row ob_tenDebts ob_tenMany ob_fewestBy ob_covered ob_queue ob_cameBy ob_parent ob_met ob_calls ob_callMany ob_calledOn ob_saved ob_many ob_width ob_numbers ob_moving), (ce_i4 y ob_many fob_many), (ce_i4 y ob_width fob_width), (ce_l240 y ob_numbers fob_numbers), (ce_l60 y ob_moving fob_moving)] sz) := by
  refine Met.ofW (cc := cX10_paste) (maxL := 7) (ret := (some .int)) (by decide) rfl ?_
  intro p e s m args below meth c s₁ B hml hv
  obtain ⟨rfl, hsz, hP, hK, hD0⟩ := hv
  have hx := B.exec
  have hb := B.bytes
  have hr := B.returns
  have hw0 : ∀ w ∈ wAll, w.before _ s = true := fun w h => atoms_spec (ws := Cond.code yX10_paste cX10_paste 7 (some .int) :: wAll) B.pre w (List.mem_cons_of_mem _ h)
  have hown : s.vm.findClass RX10 = some m.cls := findClass_of_methodNamed B.named
  subst hsz
  have hD := hD0.self (sz := s.heap.size)
  generalize hAe : va_A [(ce_X10 ob ob_thrown ob_world ob_images ob_hasImage ob_tape ob_taped ob_five ob_size ob_at ob_from ob_token ob_value ob_faultKind ob_faultPlace ob_fresh ob_parts ob_houses ob_houseMany ob_worthOf ob_byCall ob_over ob_bestSet ob_bestOver ob_bestWorth ob_row ob_tenDebts ob_tenMany ob_fewestBy ob_covered ob_queue ob_cameBy ob_parent ob_met ob_calls ob_callMany ob_calledOn ob_saved ob_many ob_width ob_numbers ob_moving), (ce_i4 y ob_many fob_many), (ce_i4 y ob_width fob_width), (ce_l240 y ob_numbers fob_numbers), (ce_l60 y ob_moving fob_moving)] s.heap.size = A at hD ⊢
  have hA : ∀ q : Nat, s.heap.size ≤ q → A q := fun q h => by rw [← hAe]; exact Or.inr h
  have hS : va_S A s.heap s.heap [] := va_S.rf
  have hP : va_P G vwCl [(ce_X10 ob ob_thrown ob_world ob_images ob_hasImage ob_tape ob_taped ob_five ob_size ob_at ob_from ob_token ob_value ob_faultKind ob_faultPlace ob_fresh ob_parts ob_houses ob_houseMany ob_worthOf ob_byCall ob_over ob_bestSet ob_bestOver ob_bestWorth ob_row ob_tenDebts ob_tenMany ob_fewestBy ob_covered ob_queue ob_cameBy ob_parent ob_met ob_calls ob_callMany ob_calledOn ob_saved ob_many ob_width ob_numbers ob_moving), (ce_i4 y ob_many fob_many), (ce_i4 y ob_width fob_width), (ce_l240 y ob_numbers fob_numbers), (ce_l60 y ob_moving fob_moving)] s.heap := hP
  have hl := lv_entry ([.ref ob, .int a1, .int a2, .int a3, .int a4, .int a5]) (n := 7) (Nat.le_of_ble_eq_true rfl)
  rw [lg_entry_eq]
  generalize (lg_sl ([.ref ob, .int a1, .int a2, .int a3, .int a4, .int a5]) ++ List.replicate (7 - (lg_sl ([.ref ob, .int a1, .int a2, .int a3, .int a4, .int a5])).length) Slot.unset).toArray = ls at hl ⊢
  have hl : lv_has ls 7 [(0, .ref ob), (1, .int a1), (2, .int a2), (3, .int a3), (4, .int a4), (5, .int a5)] := hl
  refine lv_iload_n hx hb dX10_paste_0 rfl (lv_at hl 1 rfl) ?_
  refine cutW 14 (fun H locs ls st => st = [] ∧ vPD G A H [(ce_X10 ob ob_thrown ob_world ob_images ob_hasImage ob_tape ob_taped ob_five ob_size ob_at ob_from ob_token ob_value ob_faultKind ob_faultPlace ob_fresh ob_parts ob_houses ob_houseMany ob_worthOf ob_byCall ob_over ob_bestSet ob_bestOver ob_bestWorth ob_row ob_tenDebts ob_tenMany ob_fewestBy ob_covered ob_queue ob_cameBy ob_parent ob_met ob_calls ob_callMany ob_calledOn ob_saved ob_many ob_width ob_numbers ob_moving), (ce_i4 y ob_many fob_many), (ce_i4 y ob_width fob_width), (ce_l240 y ob_numbers fob_numbers), (ce_l60 y ob_moving fob_moving)] ∧ va_S A s.heap H locs ∧ lv_has ls 7 []) ?_ (fun J_14_1004 => ?_)
  · rintro H locs ls st ⟨rfl, ⟨hP, hD⟩, hS, hl⟩
    refine lv_bipush (v := (-2)) hx hb dX10_paste_14 (by decide) ?_
    exact W.iret (v := (-2)) hx hb hr (fun t ht hW => ⟨⟨(-2), _, rfl, ⟨(-2), fob_numbers, fob_moving, (bw (-8) (0) (bkc (x := (-2)) (c := -2) (by decide)) (by decide)), rfl, rfl⟩, by rw [ht]; exact hP, hD⟩, hS.F ht⟩) hS.2.2 dX10_paste_16
  · skip
    refine cSim (As := [.int a1]) (rest := []) ⟨hx, hb, hml, hown, hw0⟩ hA hK hP hD hS [] (sX10_isSlot l G y _ a1 ) rfl ⟨(callB_of 1 hw0 (gA m_543) rfl rfl rfl (hw0 _ m_41) (hw0 _ m_433) cb_X10_isSlot ⟨Nat.le_of_ble_eq_true rfl, Nat.le_of_ble_eq_true rfl⟩), (hw0 _ m_434)⟩ rfl hl.1 (Nat.le_of_ble_eq_true rfl) dX10_paste_1 ⟨Nat.le_of_ble_eq_true rfl, Nat.le_of_ble_eq_true rfl⟩ (fun r_1005 w_1005 H locs hw_1005 hP hD hS => ?_)
    rcases hw_1005 with ⟨rfl, rfl⟩ | ⟨h_1006, rfl, rfl⟩
    · skip
      obtain ⟨hP, hD⟩ : vPD G A H [(ce_X10 ob ob_thrown ob_world ob_images ob_hasImage ob_tape ob_taped ob_five ob_size ob_at ob_from ob_token ob_value ob_faultKind ob_faultPlace ob_fresh ob_parts ob_houses ob_houseMany ob_worthOf ob_byCall ob_over ob_bestSet ob_bestOver ob_bestWorth ob_row ob_tenDebts ob_tenMany ob_fewestBy ob_covered ob_queue ob_cameBy ob_parent ob_met ob_calls ob_callMany ob_calledOn ob_saved ob_many ob_width ob_numbers ob_moving), (ce_i4 y ob_many fob_many), (ce_i4 y ob_width fob_width), (ce_l240 y ob_numbers fob_numbers), (ce_l60 y ob_moving fob_moving)] := ⟨hP, hD⟩
      refine lv_if_eq (tgt := 14) hx hb dX10_paste_4 (by decide) (fun _ => ?_) (fun c9 => absurd (by decide) c9)
      exact J_14_1004 _ _ _ _ ⟨rfl, ⟨hP, hD⟩, hS, lv_sub hl [] rfl⟩
    · skip
      obtain ⟨hP, hD⟩ : vPD G A H [(ce_X10 ob ob_thrown ob_world ob_images ob_hasImage ob_tape ob_taped ob_five ob_size ob_at ob_from ob_token ob_value ob_faultKind ob_faultPlace ob_fresh ob_parts ob_houses ob_houseMany ob_worthOf ob_byCall ob_over ob_bestSet ob_bestOver ob_bestWorth ob_row ob_tenDebts ob_tenMany ob_fewestBy ob_covered ob_queue ob_cameBy ob_parent ob_met ob_calls ob_callMany ob_calledOn ob_saved ob_many ob_width ob_numbers ob_moving), (ce_i4 y ob_many fob_many), (ce_i4 y ob_width fob_width), (ce_l240 y ob_numbers fob_numbers), (ce_l60 y ob_moving fob_moving)] := ⟨hP, hD⟩
      refine lv_if_eq (tgt := 14) hx hb dX10_paste_4 (by decide) (fun c9 => absurd c9 (by decide)) (fun _ => ?_)
      refine lv_iload_n hx hb dX10_paste_7 rfl (lv_at hl 3 rfl) ?_
      refine cSim (As := [.int a3]) (rest := []) ⟨hx, hb, hml, hown, hw0⟩ hA hK hP hD hS [] (sX10_isSlot l G y _ a3 ) rfl ⟨(callB_of 1 hw0 (gA m_543) rfl rfl rfl (hw0 _ m_41) (hw0 _ m_433) cb_X10_isSlot ⟨Nat.le_of_ble_eq_true rfl, Nat.le_of_ble_eq_true rfl⟩), (hw0 _ m_434)⟩ rfl hl.1 (Nat.le_of_ble_eq_true rfl) dX10_paste_8 ⟨Nat.le_of_ble_eq_true rfl, Nat.le_of_ble_eq_true rfl⟩ (fun r_1007 w_1007 H locs hw_1007 hP hD hS => ?_)
      rcases hw_1007 with ⟨rfl, rfl⟩ | ⟨h_1008, rfl, rfl⟩
      · skip
        obtain ⟨hP, hD⟩ : vPD G A H [(ce_X10 ob ob_thrown ob_world ob_images ob_hasImage ob_tape ob_taped ob_five ob_size ob_at ob_from ob_token ob_value ob_faultKind ob_faultPlace ob_fresh ob_parts ob_houses ob_houseMany ob_worthOf ob_byCall ob_over ob_bestSet ob_bestOver ob_bestWorth ob_row ob_tenDebts ob_tenMany ob_fewestBy ob_covered ob_queue ob_cameBy ob_parent ob_met ob_calls ob_callMany ob_calledOn ob_saved ob_many ob_width ob_numbers ob_moving), (ce_i4 y ob_many fob_many), (ce_i4 y ob_width fob_width), (ce_l240 y ob_numbers fob_numbers), (ce_l60 y ob_moving fob_moving)] := ⟨hP, hD⟩
        refine lv_if_ne (tgt := 17) hx hb dX10_paste_11 (by decide) (fun c9 => absurd (by decide) c9) (fun _ => ?_)
        exact J_14_1004 _ _ _ _ ⟨rfl, ⟨hP, hD⟩, hS, lv_sub hl [] rfl⟩
      · skip
        obtain ⟨hP, hD⟩ : vPD G A H [(ce_X10 ob ob_thrown ob_world ob_images ob_hasImage ob_tape ob_taped ob_five ob_size ob_at ob_from ob_token ob_value ob_faultKind ob_faultPlace ob_fresh ob_parts ob_houses ob_houseMany ob_worthOf ob_byCall ob_over ob_bestSet ob_bestOver ob_bestWorth ob_row ob_tenDebts ob_tenMany ob_fewestBy ob_covered ob_queue ob_cameBy ob_parent ob_met ob_calls ob_callMany ob_calledOn ob_saved ob_many ob_width ob_numbers ob_moving), (ce_i4 y ob_many fob_many), (ce_i4 y ob_width fob_width), (ce_l240 y ob_numbers fob_numbers), (ce_l60 y ob_moving fob_moving)] := ⟨hP, hD⟩
        refine lv_if_ne (tgt := 17) hx hb dX10_paste_11 (by decide) (fun _ => ?_) (fun c9 => absurd c9 (by decide))
        refine lv_aload_n hx hb dX10_paste_17 rfl (lv_at hl 0 rfl) ?_
        refine va_get (D := G) (ci := 10) (v := .ref ob_many) (C := RX10) (T := TX10) (N := 41) hx hb hw0 inA_wsX100 hown hK.1 hP 0 rfl rfl 37 (by decide) (hw0 _ m_406) (fun _ h9 => h9) rfl dX10_paste_18 ?_
        refine lv_iload_n hx hb dX10_paste_21 rfl (lv_at hl 1 rfl) ?_
        refine va_iald hx hb hK.1 hP 1 1 rfl rfl (vi h_1006 (by decide)) dX10_paste_22 ?_
        refine lv_topi (fun v_1009 ev_1009 => ?_)
        have bv_1009 : (-1 : Int) ≤ v_1009.toInt ∧ v_1009.toInt ≤ 60 := rd_b ev_1009 p_fob_many
        refine lv_iconst (v := (-1)) hx hb dX10_paste_23 (by decide) ?_
        refine cutW 37 (fun H locs ls st => st = [] ∧ vPD G A H [(ce_X10 ob ob_thrown ob_world ob_images ob_hasImage ob_tape ob_taped ob_five ob_size ob_at ob_from ob_token ob_value ob_faultKind ob_faultPlace ob_fresh ob_parts ob_houses ob_houseMany ob_worthOf ob_byCall ob_over ob_bestSet ob_bestOver ob_bestWorth ob_row ob_tenDebts ob_tenMany ob_fewestBy ob_covered ob_queue ob_cameBy ob_parent ob_met ob_calls ob_callMany ob_calledOn ob_saved ob_many ob_width ob_numbers ob_moving), (ce_i4 y ob_many fob_many), (ce_i4 y ob_width fob_width), (ce_l240 y ob_numbers fob_numbers), (ce_l60 y ob_moving fob_moving)] ∧ va_S A s.heap H locs ∧ lv_has ls 7 []) ?_ (fun J_37_1012 => ?_)
        · rintro H locs ls st ⟨rfl, ⟨hP, hD⟩, hS, hl⟩
          refine lv_bipush (v := (-6)) hx hb dX10_paste_37 (by decide) ?_
          exact W.iret (v := (-6)) hx hb hr (fun t ht hW => ⟨⟨(-6), _, rfl, ⟨(-6), fob_numbers, fob_moving, (bw (-8) (0) (bkc (x := (-6)) (c := -6) (by decide)) (by decide)), rfl, rfl⟩, by rw [ht]; exact hP, hD⟩, hS.F ht⟩) hS.2.2 dX10_paste_39
        · skip
          refine lv_icmp_eq (tgt := 37) hx hb dX10_paste_24 (by decide) (fun c_1013 => ?_) (fun c_1013 => ?_)
          · skip
            have nc_1013 := nb_eq (-1) (-1) c_1013 bv_1009 (bkc (x := (-1)) (c := -1) (by decide)) (by decide)
            exact J_37_1012 _ _ _ _ ⟨rfl, ⟨hP, hD⟩, hS, lv_sub hl [] rfl⟩
          · skip
            have nc_1013 := nb_ne (0) (60) c_1013 bv_1009 (k := -1) (by decide) (by decide)
            refine lv_aload_n hx hb dX10_paste_27 rfl (lv_at hl 0 rfl) ?_
            refine va_get (D := G) (ci := 10) (v := .ref ob_many) (C := RX10) (T := TX10) (N := 41) hx hb hw0 inA_wsX100 hown hK.1 hP 0 rfl rfl 37 (by decide) (hw0 _ m_406) (fun _ h9 => h9) rfl dX10_paste_28 ?_
            refine lv_iload_n hx hb dX10_paste_31 rfl (lv_at hl 3 rfl) ?_
            refine va_iald hx hb hK.1 hP 1 1 rfl rfl (vi h_1008 (by decide)) dX10_paste_32 ?_
            refine lv_topi (fun v_1014 ev_1014 => ?_)
            have bv_1014 : (-1 : Int) ≤ v_1014.toInt ∧ v_1014.toInt ≤ 60 := rd_b ev_1014 p_fob_many
            refine lv_iconst (v := (-1)) hx hb dX10_paste_33 (by decide) ?_
            refine lv_icmp_ne (tgt := 40) hx hb dX10_paste_34 (by decide) (fun c_1015 => ?_) (fun c_1015 => ?_)
            · skip
              have nc_1015 := nb_ne (0) (60) c_1015 bv_1014 (k := -1) (by decide) (by decide)
              refine lv_aload_n hx hb dX10_paste_40 rfl (lv_at hl 0 rfl) ?_
              refine va_get (D := G) (ci := 10) (v := .ref ob_width) (C := RX10) (T := TX10) (N := 41) hx hb hw0 inA_wsX100 hown hK.1 hP 0 rfl rfl 38 (by decide) (hw0 _ m_527) (fun _ h9 => h9) rfl dX10_paste_41 ?_
              refine lv_iload_n hx hb dX10_paste_44 rfl (lv_at hl 1 rfl) ?_
              refine va_iald hx hb hK.1 hP 2 1 rfl rfl (vi h_1006 (by decide)) dX10_paste_45 ?_
              refine lv_topi (fun v_1016 ev_1016 => ?_)
              have bv_1016 : (0 : Int) ≤ v_1016.toInt ∧ v_1016.toInt ≤ 3 := rd_b ev_1016 p_fob_width
              refine lv_aload_n hx hb dX10_paste_46 rfl (lv_at hl 0 rfl) ?_
              refine va_get (D := G) (ci := 10) (v := .ref ob_width) (C := RX10) (T := TX10) (N := 41) hx hb hw0 inA_wsX100 hown hK.1 hP 0 rfl rfl 38 (by decide) (hw0 _ m_527) (fun _ h9 => h9) rfl dX10_paste_47 ?_
              refine lv_iload_n hx hb dX10_paste_50 rfl (lv_at hl 3 rfl) ?_
              refine va_iald hx hb hK.1 hP 2 1 rfl rfl (vi h_1008 (by decide)) dX10_paste_51 ?_
              refine lv_topi (fun v_1017 ev_1017 => ?_)
              have bv_1017 : (0 : Int) ≤ v_1017.toInt ∧ v_1017.toInt ≤ 3 := rd_b ev_1017 p_fob_width
              refine lv_icmp_eq (tgt := 58) hx hb dX10_paste_52 (by decide) (fun c_1018 => ?_) (fun c_1018 => ?_)
              · skip
                have nc_1018 := nb_eq (0) (3) c_1018 bv_1016 bv_1017 (by decide)
                refine lv_iload_n hx hb dX10_paste_58 rfl (lv_at hl 2 rfl) ?_
                refine cutW 107 (fun H locs ls st => st = [] ∧ vPD G A H [(ce_X10 ob ob_thrown ob_world ob_images ob_hasImage ob_tape ob_taped ob_five ob_size ob_at ob_from ob_token ob_value ob_faultKind ob_faultPlace ob_fresh ob_parts ob_houses ob_houseMany ob_worthOf ob_byCall ob_over ob_bestSet ob_bestOver ob_bestWorth ob_row ob_tenDebts ob_tenMany ob_fewestBy ob_covered ob_queue ob_cameBy ob_parent ob_met ob_calls ob_callMany ob_calledOn ob_saved ob_many ob_width ob_numbers ob_moving), (ce_i4 y ob_many fob_many), (ce_i4 y ob_width fob_width), (ce_l240 y ob_numbers fob_numbers), (ce_l60 y ob_moving fob_moving)] ∧ va_S A s.heap H locs ∧ lv_has ls 7 []) ?_ (fun J_107_1033 => ?_)
                · rintro H locs ls st ⟨rfl, ⟨hP, hD⟩, hS, hl⟩
                  refine lv_bipush (v := (-7)) hx hb dX10_paste_107 (by decide) ?_
                  exact W.iret (v := (-7)) hx hb hr (fun t ht hW => ⟨⟨(-7), _, rfl, ⟨(-7), fob_numbers, fob_moving, (bw (-8) (0) (bkc (x := (-7)) (c := -7) (by decide)) (by decide)), rfl, rfl⟩, by rw [ht]; exact hP, hD⟩, hS.F ht⟩) hS.2.2 dX10_paste_109
                · skip
                  refine lv_if_lt (tgt := 107) hx hb dX10_paste_59 (by decide) (fun c_1034 => ?_) (fun c_1034 => ?_)
                  · skip
                    have nc_1034 := nb_lt (-1) (0) c_1034 (btop a2) (bkc (x := 0) (c := 0) (by decide)) (by decide)
                    exact J_107_1033 _ _ _ _ ⟨rfl, ⟨hP, hD⟩, hS, lv_sub hl [] rfl⟩
                  · skip
                    have nc_1034 := nb_nlt (0) (0) c_1034 (bkc (x := 0) (c := 0) (by decide)) (btop a2) (by decide)
                    refine lv_iload hx hb dX10_paste_62 (lv_at hl 4 rfl) ?_
                    refine lv_if_lt (tgt := 107) hx hb dX10_paste_64 (by decide) (fun c_1035 => ?_) (fun c_1035 => ?_)
                    · skip
                      have nc_1035 := nb_lt (-1) (0) c_1035 (btop a4) (bkc (x := 0) (c := 0) (by decide)) (by decide)
                      exact J_107_1033 _ _ _ _ ⟨rfl, ⟨hP, hD⟩, hS, lv_sub hl [] rfl⟩
                    · skip
                      have nc_1035 := nb_nlt (0) (0) c_1035 (bkc (x := 0) (c := 0) (by decide)) (btop a4) (by decide)
                      refine lv_iload hx hb dX10_paste_67 (lv_at hl 5 rfl) ?_
                      refine lv_if_lt (tgt := 107) hx hb dX10_paste_69 (by decide) (fun c_1036 => ?_) (fun c_1036 => ?_)
                      · skip
                        have nc_1036 := nb_lt (-1) (0) c_1036 (btop a5) (bkc (x := 0) (c := 0) (by decide)) (by decide)
                        exact J_107_1033 _ _ _ _ ⟨rfl, ⟨hP, hD⟩, hS, lv_sub hl [] rfl⟩
                      · skip
                        have nc_1036 := nb_nlt (0) (0) c_1036 (bkc (x := 0) (c := 0) (by decide)) (btop a5) (by decide)
                        refine lv_iload_n hx hb dX10_paste_72 rfl (lv_at hl 2 rfl) ?_
                        refine lv_i2l hx hb dX10_paste_73 rfl ?_
                        have kk_1037 : ((a2).toInt64).toInt = (a2).toInt := Int32.toInt_toInt64 _
                        refine lv_iload hx hb dX10_paste_74 (lv_at hl 5 rfl) ?_
                        refine lv_i2l hx hb dX10_paste_76 rfl ?_
                        have kk_1038 : ((a5).toInt64).toInt = (a5).toInt := Int32.toInt_toInt64 _
                        refine lv_ladd hx hb dX10_paste_77 ?_
                        refine lv_topl (fun v_1039 ev_1039 => ?_)
                        have qv_1039 := la_add ev_1039
                        refine lv_aload_n hx hb dX10_paste_78 rfl (lv_at hl 0 rfl) ?_
                        refine va_get (D := G) (ci := 10) (v := .ref ob_many) (C := RX10) (T := TX10) (N := 41) hx hb hw0 inA_wsX100 hown hK.1 hP 0 rfl rfl 37 (by decide) (hw0 _ m_406) (fun _ h9 => h9) rfl dX10_paste_79 ?_
                        refine lv_iload_n hx hb dX10_paste_82 rfl (lv_at hl 1 rfl) ?_
                        refine va_iald hx hb hK.1 hP 1 1 rfl rfl (vi h_1006 (by decide)) dX10_paste_83 ?_
                        refine lv_topi (fun v_1040 ev_1040 => ?_)
                        obtain rfl : v_1009 = v_1040 := (ev_1040.trans (ev_1009.symm)).symm
                        refine lv_i2l hx hb dX10_paste_84 rfl ?_
                        have kk_1041 : ((v_1009).toInt64).toInt = (v_1009).toInt := Int32.toInt_toInt64 _
                        refine W.lcmp hx hb dX10_paste_85 ?_
                        refine lv_if_gt (tgt := 107) hx hb dX10_paste_86 (by decide) (fun c_1042 => ?_) (fun c_1042 => ?_)
                        · skip
                          have nc_1042 := jl_gt c_1042
                          exact J_107_1033 _ _ _ _ ⟨rfl, ⟨hP, hD⟩, hS, lv_sub hl [] rfl⟩
                        · skip
                          have nc_1042 := jl_ngt c_1042
                          refine lv_iload hx hb dX10_paste_89 (lv_at hl 4 rfl) ?_
                          refine lv_i2l hx hb dX10_paste_91 rfl ?_
                          have kk_1043 : ((a4).toInt64).toInt = (a4).toInt := Int32.toInt_toInt64 _
                          refine lv_iload hx hb dX10_paste_92 (lv_at hl 5 rfl) ?_
                          refine lv_i2l hx hb dX10_paste_94 rfl ?_
                          have kk_1044 : ((a5).toInt64).toInt = (a5).toInt := Int32.toInt_toInt64 _
                          refine lv_ladd hx hb dX10_paste_95 ?_
                          refine lv_topl (fun v_1045 ev_1045 => ?_)
                          have qv_1045 := la_add ev_1045
                          refine lv_aload_n hx hb dX10_paste_96 rfl (lv_at hl 0 rfl) ?_
                          refine va_get (D := G) (ci := 10) (v := .ref ob_many) (C := RX10) (T := TX10) (N := 41) hx hb hw0 inA_wsX100 hown hK.1 hP 0 rfl rfl 37 (by decide) (hw0 _ m_406) (fun _ h9 => h9) rfl dX10_paste_97 ?_
                          refine lv_iload_n hx hb dX10_paste_100 rfl (lv_at hl 3 rfl) ?_
                          refine va_iald hx hb hK.1 hP 1 1 rfl rfl (vi h_1008 (by decide)) dX10_paste_101 ?_
                          refine lv_topi (fun v_1046 ev_1046 => ?_)
                          obtain rfl : v_1014 = v_1046 := (ev_1046.trans (ev_1014.symm)).symm
                          refine lv_i2l hx hb dX10_paste_102 rfl ?_
                          have kk_1047 : ((v_1014).toInt64).toInt = (v_1014).toInt := Int32.toInt_toInt64 _
                          refine W.lcmp hx hb dX10_paste_103 ?_
                          refine lv_if_le (tgt := 110) hx hb dX10_paste_104 (by decide) (fun c_1048 => ?_) (fun c_1048 => ?_)
                          · skip
                            have nc_1048 := jl_le c_1048
                            have h_1049 : (0 : Int) ≤ a2.toInt ∧ a2.toInt ≤ 60 := by omega
                            have h_1050 : (0 : Int) ≤ a4.toInt ∧ a4.toInt ≤ 60 := by omega
                            have h_1051 : (0 : Int) ≤ a5.toInt ∧ a5.toInt ≤ 60 := by omega
                            refine lv_iconst (v := 0) hx hb dX10_paste_110 (by decide) ?_
                            refine lv_istore (lv' := [(6, .int 0), (0, .ref ob), (1, .int a1), (2, .int a2), (3, .int a3), (4, .int a4), (5, .int a5)]) hx hb dX10_paste_111 hl (by decide) rfl (fun ls hl => ?_)
                            refine loopX (fun n H locs ls st => ∃ (v_1169 : Int32) (f_1170 : Nat → Int64), (60 - v_1169.toInt).toNat = n ∧ ((0 : Int) ≤ v_1169.toInt ∧ v_1169.toInt ≤ 60) ∧ st = [] ∧ vPD G A H [(ce_X10 ob ob_thrown ob_world ob_images ob_hasImage ob_tape ob_taped ob_five ob_size ob_at ob_from ob_token ob_value ob_faultKind ob_faultPlace ob_fresh ob_parts ob_houses ob_houseMany ob_worthOf ob_byCall ob_over ob_bestSet ob_bestOver ob_bestWorth ob_row ob_tenDebts ob_tenMany ob_fewestBy ob_covered ob_queue ob_cameBy ob_parent ob_met ob_calls ob_callMany ob_calledOn ob_saved ob_many ob_width ob_numbers ob_moving), (ce_i4 y ob_many fob_many), (ce_i4 y ob_width fob_width), (ce_l240 y ob_numbers fob_numbers), (ce_l60 y ob_moving f_1170)] ∧ va_S A s.heap H locs ∧ lv_has ls 7 [(6, .int v_1169), (0, .ref ob), (1, .int a1), (2, .int a2), (3, .int a3), (4, .int a4), (5, .int a5)]) ?_ (n := (60 - (0 : Int32).toInt).toNat) ⟨0, fob_moving, rfl, (bw (0) (60) (bkc (x := 0) (c := 0) (by decide)) (by decide)), rfl, ⟨hP, hD⟩, hS, lv_sub hl [0, 1, 2, 3, 4, 5, 6] rfl⟩
                            rintro n ih_1178 H locs ls st ⟨v_1169, f_1170, hn_1178, bv_1169, rfl, ⟨hP, hD⟩, hS, hl⟩
                            refine lv_iload hx hb dX10_paste_113 (lv_at hl 0 rfl) ?_
                            refine lv_iload hx hb dX10_paste_115 (lv_at hl 6 rfl) ?_
                            refine lv_icmp_ge (tgt := 147) hx hb dX10_paste_117 (by decide) (fun c_1179 => ?_) (fun c_1179 => ?_)
                            · skip
                              have nc_1179 := nb_le (60) (0) c_1179 h_1051 bv_1169 (by decide)
                              refine lv_iconst (v := 0) hx hb dX10_paste_147 (by decide) ?_
                              refine lv_istore (lv' := [(6, .int 0), (0, .ref ob), (1, .int a1), (2, .int a2), (3, .int a3), (4, .int a4), (5, .int a5)]) hx hb dX10_paste_148 hl (by decide) rfl (fun ls hl => ?_)
                              refine loopX (fun n H locs ls st => ∃ (v_1297 : Int32) (f_1298 : Nat → Int64), (60 - v_1297.toInt).toNat = n ∧ ((0 : Int) ≤ v_1297.toInt ∧ v_1297.toInt ≤ 60) ∧ st = [] ∧ vPD G A H [(ce_X10 ob ob_thrown ob_world ob_images ob_hasImage ob_tape ob_taped ob_five ob_size ob_at ob_from ob_token ob_value ob_faultKind ob_faultPlace ob_fresh ob_parts ob_houses ob_houseMany ob_worthOf ob_byCall ob_over ob_bestSet ob_bestOver ob_bestWorth ob_row ob_tenDebts ob_tenMany ob_fewestBy ob_covered ob_queue ob_cameBy ob_parent ob_met ob_calls ob_callMany ob_calledOn ob_saved ob_many ob_width ob_numbers ob_moving), (ce_i4 y ob_many fob_many), (ce_i4 y ob_width fob_width), (ce_l240 y ob_numbers f_1298), (ce_l60 y ob_moving f_1170)] ∧ va_S A s.heap H locs ∧ lv_has ls 7 [(6, .int v_1297), (0, .ref ob), (3, .int a3), (4, .int a4), (5, .int a5)]) ?_ (n := (60 - (0 : Int32).toInt).toNat) ⟨0, fob_numbers, rfl, (bw (0) (60) (bkc (x := 0) (c := 0) (by decide)) (by decide)), rfl, ⟨hP, hD⟩, hS, lv_sub hl [0, 1, 4, 5, 6] rfl⟩
                              rintro n ih_1306 H locs ls st ⟨v_1297, f_1298, hn_1306, bv_1297, rfl, ⟨hP, hD⟩, hS, hl⟩
                              refine lv_iload hx hb dX10_paste_150 (lv_at hl 0 rfl) ?_
                              refine lv_iload hx hb dX10_paste_152 (lv_at hl 4 rfl) ?_
                              refine lv_icmp_ge (tgt := 185) hx hb dX10_paste_154 (by decide) (fun c_1307 => ?_) (fun c_1307 => ?_)
                              · skip
                                have nc_1307 := nb_le (60) (0) c_1307 nc_1179.1 bv_1297 (by decide)
                                refine lv_iconst (v := 0) hx hb dX10_paste_185 (by decide) ?_
                                exact W.iret (v := 0) hx hb hr (fun t ht hW => ⟨⟨0, _, rfl, ⟨0, f_1298, f_1170, (bw (-8) (0) (bkc (x := 0) (c := 0) (by decide)) (by decide)), rfl, rfl⟩, by rw [ht]; exact hP, hD⟩, hS.F ht⟩) hS.2.2 dX10_paste_186
                              · skip
                                have nc_1307 := nb_nle (59) (1) c_1307 bv_1297 nc_1179.1 (by decide)
                                refine lv_aload_n hx hb dX10_paste_157 rfl (lv_at hl 1 rfl) ?_
                                refine va_get (D := G) (ci := 10) (v := .ref ob_numbers) (C := RX10) (T := TX10) (N := 41) hx hb hw0 inA_wsX100 hown hK.1 hP 0 rfl rfl 39 (by decide) (hw0 _ m_435) (fun _ h9 => h9) rfl dX10_paste_158 ?_
                                refine lv_bipush (v := 60) hx hb dX10_paste_161 (by decide) ?_
                                refine lv_iload_n hx hb dX10_paste_163 rfl (lv_at hl 2 rfl) ?_
                                refine lv_imul hx hb dX10_paste_164 ?_
                                refine lv_topi (fun v_1308 ev_1308 => ?_)
                                have qv_1308 := ba_mul 60 (ev_1308.trans (Int32.mul_comm _ _)) h_1008 (by decide) (by decide) (by decide)
                                have bv_1308 : (0 : Int) ≤ v_1308.toInt ∧ v_1308.toInt ≤ 180 := qv_1308.2
                                refine lv_iload hx hb dX10_paste_165 (lv_at hl 3 rfl) ?_
                                refine lv_iadd hx hb dX10_paste_167 ?_
                                refine lv_topi (fun v_1309 ev_1309 => ?_)
                                have qv_1309 := ba_add ev_1309 bv_1308 h_1050 (by decide)
                                have bv_1309 : (0 : Int) ≤ v_1309.toInt ∧ v_1309.toInt ≤ 240 := bq_add qv_1309 bv_1308 h_1050 _ _ (by decide)
                                refine lv_iload hx hb dX10_paste_168 (lv_at hl 0 rfl) ?_
                                refine lv_iadd hx hb dX10_paste_170 ?_
                                refine lv_topi (fun v_1310 ev_1310 => ?_)
                                have qv_1310 := ba_add ev_1310 bv_1309 nc_1307.1 (by decide)
                                have bv_1310 : (0 : Int) ≤ v_1310.toInt ∧ v_1310.toInt ≤ 299 := bq_add qv_1310 bv_1309 nc_1307.1 _ _ (by decide)
                                have h_1311 : (0 : Int) ≤ v_1310.toInt ∧ v_1310.toInt ≤ 239 := by omega
                                refine lv_aload_n hx hb dX10_paste_171 rfl (lv_at hl 1 rfl) ?_
                                refine va_get (D := G) (ci := 10) (v := .ref ob_moving) (C := RX10) (T := TX10) (N := 41) hx hb hw0 inA_wsX100 hown hK.1 hP 0 rfl rfl 40 (by decide) (hw0 _ m_529) (fun _ h9 => h9) rfl dX10_paste_172 ?_
                                refine lv_iload hx hb dX10_paste_175 (lv_at hl 0 rfl) ?_
                                refine va_lald hx hb hK.1 hP 4 2 rfl rfl (vi nc_1307.1 (by decide)) dX10_paste_177 ?_
                                refine lv_topl (fun v_1312 ev_1312 => ?_)
                                refine va_last hx hb hK.1 hP hD hS 3 2 rfl rfl (vi h_1311 (by decide)) dX10_paste_178 (fun H locs hP hD hS => ?_)
                                generalize hf_1313 : (vp_updL f_1298 (v_1310 : Int32).toNatClampNeg v_1312) = f_1313 at hP hD
                                obtain ⟨hP, hD⟩ : vPD G A H [(ce_X10 ob ob_thrown ob_world ob_images ob_hasImage ob_tape ob_taped ob_five ob_size ob_at ob_from ob_token ob_value ob_faultKind ob_faultPlace ob_fresh ob_parts ob_houses ob_houseMany ob_worthOf ob_byCall ob_over ob_bestSet ob_bestOver ob_bestWorth ob_row ob_tenDebts ob_tenMany ob_fewestBy ob_covered ob_queue ob_cameBy ob_parent ob_met ob_calls ob_callMany ob_calledOn ob_saved ob_many ob_width ob_numbers ob_moving), (ce_i4 y ob_many fob_many), (ce_i4 y ob_width fob_width), (ce_l240 y ob_numbers f_1313), (ce_l60 y ob_moving f_1170)] := ⟨hP, hD⟩
                                obtain ⟨v_1314, ev_1314⟩ : ∃ z : Int32, z = v_1297 + 1 := ⟨_, rfl⟩
                                have qv_1314 := ba_add ev_1314 nc_1307.1 (bkc (x := 1) (c := 1) (by decide)) (by decide)
                                have bv_1314 : (1 : Int) ≤ v_1314.toInt ∧ v_1314.toInt ≤ 60 := bq_add qv_1314 nc_1307.1 (bkc (x := 1) (c := 1) (by decide)) _ _ (by decide)
                                have qv_1314 : v_1314.toInt = v_1297.toInt + (1) := qv_1314
                                refine lv_iinc (v := v_1314) (lv' := [(6, .int v_1314), (0, .ref ob), (3, .int a3), (4, .int a4), (5, .int a5)]) hx hb dX10_paste_179 hl (k := 0) rfl (ev_1314.symm) (by decide) rfl (fun ls hl => ?_)
                                refine lv_goto (tgt := 150) hx hb dX10_paste_182 (by decide) ?_
                                exact ih_1306 _ (ml_inc (hi := 60) hn_1306 qv_1314 (by decide) ((bw (0) (60) bv_1314 (by decide))).2) _ _ _ _ ⟨v_1314, f_1313, rfl, (bw (0) (60) bv_1314 (by decide)), rfl, ⟨hP, hD⟩, hS, lv_sub hl [0, 1, 2, 3, 4] rfl⟩
                            · skip
                              have nc_1179 := nb_nle (59) (1) c_1179 bv_1169 h_1051 (by decide)
                              refine lv_aload_n hx hb dX10_paste_120 rfl (lv_at hl 1 rfl) ?_
                              refine va_get (D := G) (ci := 10) (v := .ref ob_moving) (C := RX10) (T := TX10) (N := 41) hx hb hw0 inA_wsX100 hown hK.1 hP 0 rfl rfl 40 (by decide) (hw0 _ m_529) (fun _ h9 => h9) rfl dX10_paste_121 ?_
                              refine lv_iload hx hb dX10_paste_124 (lv_at hl 0 rfl) ?_
                              refine lv_aload_n hx hb dX10_paste_126 rfl (lv_at hl 1 rfl) ?_
                              refine va_get (D := G) (ci := 10) (v := .ref ob_numbers) (C := RX10) (T := TX10) (N := 41) hx hb hw0 inA_wsX100 hown hK.1 hP 0 rfl rfl 39 (by decide) (hw0 _ m_435) (fun _ h9 => h9) rfl dX10_paste_127 ?_
                              refine lv_bipush (v := 60) hx hb dX10_paste_130 (by decide) ?_
                              refine lv_iload_n hx hb dX10_paste_132 rfl (lv_at hl 2 rfl) ?_
                              refine lv_imul hx hb dX10_paste_133 ?_
                              refine lv_topi (fun v_1315 ev_1315 => ?_)
                              have qv_1315 := ba_mul 60 (ev_1315.trans (Int32.mul_comm _ _)) h_1006 (by decide) (by decide) (by decide)
                              have bv_1315 : (0 : Int) ≤ v_1315.toInt ∧ v_1315.toInt ≤ 180 := qv_1315.2
                              refine lv_iload_n hx hb dX10_paste_134 rfl (lv_at hl 3 rfl) ?_
                              refine lv_iadd hx hb dX10_paste_135 ?_
                              refine lv_topi (fun v_1316 ev_1316 => ?_)
                              have qv_1316 := ba_add ev_1316 bv_1315 h_1049 (by decide)
                              have bv_1316 : (0 : Int) ≤ v_1316.toInt ∧ v_1316.toInt ≤ 240 := bq_add qv_1316 bv_1315 h_1049 _ _ (by decide)
                              refine lv_iload hx hb dX10_paste_136 (lv_at hl 0 rfl) ?_
                              refine lv_iadd hx hb dX10_paste_138 ?_
                              refine lv_topi (fun v_1317 ev_1317 => ?_)
                              have qv_1317 := ba_add ev_1317 bv_1316 nc_1179.1 (by decide)
                              have bv_1317 : (0 : Int) ≤ v_1317.toInt ∧ v_1317.toInt ≤ 299 := bq_add qv_1317 bv_1316 nc_1179.1 _ _ (by decide)
                              have h_1318 : (0 : Int) ≤ v_1317.toInt ∧ v_1317.toInt ≤ 239 := by omega
                              refine va_lald hx hb hK.1 hP 3 2 rfl rfl (vi h_1318 (by decide)) dX10_paste_139 ?_
                              refine lv_topl (fun v_1319 ev_1319 => ?_)
                              refine va_last hx hb hK.1 hP hD hS 4 2 rfl rfl (vi nc_1179.1 (by decide)) dX10_paste_140 (fun H locs hP hD hS => ?_)
                              generalize hf_1320 : (vp_updL f_1170 (v_1169 : Int32).toNatClampNeg v_1319) = f_1320 at hP hD
                              obtain ⟨hP, hD⟩ : vPD G A H [(ce_X10 ob ob_thrown ob_world ob_images ob_hasImage ob_tape ob_taped ob_five ob_size ob_at ob_from ob_token ob_value ob_faultKind ob_faultPlace ob_fresh ob_parts ob_houses ob_houseMany ob_worthOf ob_byCall ob_over ob_bestSet ob_bestOver ob_bestWorth ob_row ob_tenDebts ob_tenMany ob_fewestBy ob_covered ob_queue ob_cameBy ob_parent ob_met ob_calls ob_callMany ob_calledOn ob_saved ob_many ob_width ob_numbers ob_moving), (ce_i4 y ob_many fob_many), (ce_i4 y ob_width fob_width), (ce_l240 y ob_numbers fob_numbers), (ce_l60 y ob_moving f_1320)] := ⟨hP, hD⟩
                              obtain ⟨v_1321, ev_1321⟩ : ∃ z : Int32, z = v_1169 + 1 := ⟨_, rfl⟩
                              have qv_1321 := ba_add ev_1321 nc_1179.1 (bkc (x := 1) (c := 1) (by decide)) (by decide)
                              have bv_1321 : (1 : Int) ≤ v_1321.toInt ∧ v_1321.toInt ≤ 60 := bq_add qv_1321 nc_1179.1 (bkc (x := 1) (c := 1) (by decide)) _ _ (by decide)
                              have qv_1321 : v_1321.toInt = v_1169.toInt + (1) := qv_1321
                              refine lv_iinc (v := v_1321) (lv' := [(6, .int v_1321), (0, .ref ob), (1, .int a1), (2, .int a2), (3, .int a3), (4, .int a4), (5, .int a5)]) hx hb dX10_paste_141 hl (k := 0) rfl (ev_1321.symm) (by decide) rfl (fun ls hl => ?_)
                              refine lv_goto (tgt := 113) hx hb dX10_paste_144 (by decide) ?_
                              exact ih_1178 _ (ml_inc (hi := 60) hn_1178 qv_1321 (by decide) ((bw (0) (60) bv_1321 (by decide))).2) _ _ _ _ ⟨v_1321, f_1320, rfl, (bw (0) (60) bv_1321 (by decide)), rfl, ⟨hP, hD⟩, hS, lv_sub hl [0, 1, 2, 3, 4, 5, 6] rfl⟩
                          · skip
                            have nc_1048 := jl_nle c_1048
                            exact J_107_1033 _ _ _ _ ⟨rfl, ⟨hP, hD⟩, hS, lv_sub hl [] rfl⟩
              · skip
                refine lv_bipush (v := (-8)) hx hb dX10_paste_55 (by decide) ?_
                exact W.iret (v := (-8)) hx hb hr (fun t ht hW => ⟨⟨(-8), _, rfl, ⟨(-8), fob_numbers, fob_moving, (bw (-8) (0) (bkc (x := (-8)) (c := -8) (by decide)) (by decide)), rfl, rfl⟩, by rw [ht]; exact hP, hD⟩, hS.F ht⟩) hS.2.2 dX10_paste_57
            · skip
              have nc_1015 := nb_eq (-1) (-1) c_1015 bv_1014 (bkc (x := (-1)) (c := -1) (by decide)) (by decide)
              exact J_37_1012 _ _ _ _ ⟨rfl, ⟨hP, hD⟩, hS, lv_sub hl [] rfl⟩
