set_option maxHeartbeats 4000000 in
set_option maxRecDepth 100000 in
theorem gisSlotM (l : Launch) (G : va_G) (y : Nat → ClassId) (sz : Nat) (a1 : Int32)  : Met l yX10_isSlot (Cond.code yX10_isSlot cX10_isSlot 1 (some .boolean) :: wAll) ({ frames := 1, cells := 0, slots := 0, locals := 25 }) (va_Pc [.int a1] (kp G y sz [])) (va_Qi (fun (r : Int32) (w : va_W) => ((a1.toInt < 0 ∨ 3 < a1.toInt) ∧ r = 0 ∧ w = []) ∨ (((0 : Int) ≤ a1.toInt ∧ a1.toInt ≤ 3) ∧ (0 ≤ a1.toInt ∧ a1.toInt ≤ 3) ∧ r = 1 ∧ w = [])) (kq G (va_A [] sz)) (va_A [] sz)) 0 0 (va_A [] sz) := by
  refine Met.ofW (cc := cX10_isSlot) (maxL := 1) (ret := (some .boolean)) (by decide) rfl ?_
  intro p e s m args below meth c s₁ B hml hv
  obtain ⟨rfl, hsz, hP, hK, hD0⟩ := hv
  have hx := B.exec
  have hb := B.bytes
  have hr := B.returns
  have hw0 : ∀ w ∈ wAll, w.before _ s = true := fun w h => atoms_spec (ws := Cond.code yX10_isSlot cX10_isSlot 1 (some .boolean) :: wAll) B.pre w (List.mem_cons_of_mem _ h)
  have hown : s.vm.findClass RX10 = some m.cls := findClass_of_methodNamed B.named
  subst hsz
  have hD := hD0.self (sz := s.heap.size)
  generalize hAe : va_A [] s.heap.size = A at hD ⊢
  have hA : ∀ q : Nat, s.heap.size ≤ q → A q := fun q h => by rw [← hAe]; exact Or.inr h
  have hS : va_S A s.heap s.heap [] := va_S.rf
  have hP : va_P G vwCl [] s.heap := hP
  have hl := lv_entry ([.int a1]) (n := 1) (Nat.le_of_ble_eq_true rfl)
  rw [lg_entry_eq]
  generalize (lg_sl ([.int a1]) ++ List.replicate (1 - (lg_sl ([.int a1])).length) Slot.unset).toArray = ls at hl ⊢
  have hl : lv_has ls 1 [(0, .int a1)] := hl
  refine lv_iload_n hx hb dX10_isSlot_0 rfl (lv_at hl 0 rfl) ?_
  refine lv_i2l hx hb dX10_isSlot_1 rfl ?_
  refine lv_lconst (v := 0) hx hb dX10_isSlot_2 (by decide) ?_
  refine lv_ldc2 (own := RX10) (v := 3) hx hb hown (hw0 _ m_398) dX10_isSlot_3 ?_
  refine cSim (As := [.long (a1).toInt64, .long 0, .long 3]) (rest := []) ⟨hx, hb, hml, hown, hw0⟩ hA hK hP hD hS [] (sX10_in l G y _ ((a1).toInt64) 0 3 ) rfl ⟨(callB_of 3 hw0 (gA m_516) rfl rfl rfl (hw0 _ m_41) (hw0 _ m_345) cb_X10_in ⟨Nat.le_of_ble_eq_true rfl, Nat.le_of_ble_eq_true rfl⟩), (hw0 _ m_346)⟩ rfl hl.1 (Nat.le_of_ble_eq_true rfl) dX10_isSlot_6 ⟨Nat.le_of_ble_eq_true rfl, Nat.le_of_ble_eq_true rfl⟩ (fun r_1001 w_1001 H locs hw_1001 hP hD hS => ?_)
  rcases hw_1001 with ⟨h_1002, rfl, rfl⟩ | ⟨h_1003, rfl, rfl⟩
  · skip
    have h_1004 : a1.toInt < (0 : Int) ∨ (3 : Int) < a1.toInt := in_n h_1002 (Int32.toInt_toInt64 _) (by decide) (by decide)
    obtain ⟨hP, hD⟩ : vPD G A H [] := ⟨hP, hD⟩
    exact W.zret (v := 0) hx hb hr rfl (fun t ht hW => ⟨⟨0, _, rfl, Or.inl (⟨by have h90 : Int32.toInt 0 = 0 := (by decide); omega, rfl, rfl⟩), by rw [ht]; exact hP, hD⟩, hS.F ht⟩) hS.2.2 dX10_isSlot_9
  · skip
    have h_1005 : (0 : Int) ≤ a1.toInt ∧ a1.toInt ≤ (3 : Int) := in_y h_1003 (Int32.toInt_toInt64 _) (by decide) (by decide)
    have h_1006_0 := (btop a1)
    have h_1006_1 := True.intro
    have h_1006_2 := True.intro
    have h_1006 : (0 : Int) ≤ a1.toInt ∧ a1.toInt ≤ 3 := by omega
    obtain ⟨hP, hD⟩ : vPD G A H [] := ⟨hP, hD⟩
    exact W.zret (v := 1) hx hb hr rfl (fun t ht hW => ⟨⟨1, _, rfl, Or.inr (⟨h_1006, by have h90 : Int32.toInt 1 = 1 := (by decide); omega, rfl, rfl⟩), by rw [ht]; exact hP, hD⟩, hS.F ht⟩) hS.2.2 dX10_isSlot_9

set_option maxHeartbeats 4000000 in
set_option maxRecDepth 100000 in
theorem gcut (l : Launch) (G : va_G) (y : Nat → ClassId) (sz : Nat) (a1 : Int64) (a2 : Int32) (p_a2 : (0 : Int) ≤ a2.toInt ∧ a2.toInt ≤ 3) : Met l yX10_cut (Cond.code yX10_cut cX10_cut 4 (some .long) :: wAll) ({ frames := 0, cells := 0, slots := 0, locals := 0 }) (va_Pc [.long a1, .int a2] (kp G y sz [])) (va_Ql (fun (r : Int64) (w : va_W) => (∃ (v_9 : Int64), ((v_9 : Int64) = qcut a2 a1) ∧ r = v_9 ∧ w = [])) (kq G (va_A [] sz)) (va_A [] sz)) 0 0 (va_A [] sz) := by
  refine Met.ofW (cc := cX10_cut) (maxL := 4) (ret := (some .long)) (by decide) rfl ?_
  intro p e s m args below meth c s₁ B hml hv
  obtain ⟨rfl, hsz, hP, hK, hD0⟩ := hv
  have hx := B.exec
  have hb := B.bytes
  have hr := B.returns
  have hw0 : ∀ w ∈ wAll, w.before _ s = true := fun w h => atoms_spec (ws := Cond.code yX10_cut cX10_cut 4 (some .long) :: wAll) B.pre w (List.mem_cons_of_mem _ h)
  have hown : s.vm.findClass RX10 = some m.cls := findClass_of_methodNamed B.named
  subst hsz
  have hD := hD0.self (sz := s.heap.size)
  generalize hAe : va_A [] s.heap.size = A at hD ⊢
  have hA : ∀ q : Nat, s.heap.size ≤ q → A q := fun q h => by rw [← hAe]; exact Or.inr h
  have hS : va_S A s.heap s.heap [] := va_S.rf
  have hP : va_P G vwCl [] s.heap := hP
  have hl := lv_entry ([.long a1, .int a2]) (n := 4) (Nat.le_of_ble_eq_true rfl)
  rw [lg_entry_eq]
  generalize (lg_sl ([.long a1, .int a2]) ++ List.replicate (4 - (lg_sl ([.long a1, .int a2])).length) Slot.unset).toArray = ls at hl ⊢
  have hl : lv_has ls 4 [(0, .long a1), (2, .int a2)] := hl
  refine lv_bipush (v := 64) hx hb dX10_cut_0 (by decide) ?_
  refine lv_bipush (v := 8) hx hb dX10_cut_2 (by decide) ?_
  refine lv_iload_n hx hb dX10_cut_4 rfl (lv_at hl 1 rfl) ?_
  refine lv_ishl hx hb dX10_cut_5 ?_
  refine lv_topi (fun v_1001 ev_1001 => ?_)
  refine lv_isub hx hb dX10_cut_6 ?_
  refine lv_topi (fun v_1002 ev_1002 => ?_)
  refine lv_istore_n (lv' := [(3, .int v_1002), (0, .long a1), (2, .int a2)]) hx hb dX10_cut_7 rfl hl (by decide) rfl (fun ls hl => ?_)
  refine lv_lload_n hx hb dX10_cut_8 rfl (lv_at hl 1 rfl) ?_
  refine lv_iload_n hx hb dX10_cut_9 rfl (lv_at hl 0 rfl) ?_
  refine lv_lshl hx hb dX10_cut_10 rfl ?_
  refine lv_topl (fun v_1003 ev_1003 => ?_)
  refine lv_iload_n hx hb dX10_cut_11 rfl (lv_at hl 0 rfl) ?_
  refine lv_lshr hx hb dX10_cut_12 rfl ?_
  refine lv_topl (fun v_1004 ev_1004 => ?_)
  exact W.lret (v := v_1004) hx hb hr (fun t ht hW => ⟨⟨v_1004, _, rfl, ⟨v_1004, (qcut_m ev_1001 ev_1002 ev_1003 ev_1004 p_a2), rfl, rfl⟩, by rw [ht]; exact hP, hD⟩, hS.F ht⟩) hS.2.2 dX10_cut_13

set_option maxHeartbeats 4000000 in
set_option maxRecDepth 100000 in
theorem frowM0 (l : Launch) (G : va_G) (y : Nat → ClassId) (sz : Nat) (ob : Nat) (a2 : Int32) (a3 : Int32) (ob_thrown : Int32) (ob_world : Nat) (ob_images : Nat) (ob_hasImage : Nat) (ob_tape : Nat) (ob_taped : Int32) (ob_five : Nat) (ob_size : Int32) (ob_at : Int32) (ob_from : Int32) (ob_token : Int32) (ob_value : Int32) (ob_faultKind : Int32) (ob_faultPlace : Int32) (ob_fresh : Nat) (ob_parts : Nat) (ob_houses : Nat) (ob_houseMany : Int32) (ob_worthOf : Nat) (ob_byCall : Nat) (ob_over : Nat) (ob_bestSet : Int32) (ob_bestOver : Int32) (ob_bestWorth : Int32) (ob_row : Nat) (ob_tenDebts : Nat) (ob_tenMany : Int32) (ob_fewestBy : Nat) (ob_covered : Nat) (ob_queue : Nat) (ob_cameBy : Nat) (ob_parent : Nat) (ob_met : Nat) (ob_calls : Nat) (ob_callMany : Int32) (ob_calledOn : Nat) (ob_saved : Nat) (ob_many : Nat) (ob_width : Nat) (ob_numbers : Nat) (ob_moving : Nat) (fob_many : Nat → Int32) (fob_width : Nat → Int32) (fob_numbers : Nat → Int64) (p_ob_taped : (0 : Int) ≤ ob_taped.toInt ∧ ob_taped.toInt ≤ 1400) (p_ob_size : (0 : Int) ≤ ob_size.toInt ∧ ob_size.toInt ≤ 1400) (p_ob_at : (0 : Int) ≤ ob_at.toInt ∧ ob_at.toInt ≤ 1400) (p_ob_from : (0 : Int) ≤ ob_from.toInt ∧ ob_from.toInt ≤ 1400) (p_ob_token : (0 : Int) ≤ ob_token.toInt ∧ ob_token.toInt ≤ 4) (p_ob_value : (0 : Int) ≤ ob_value.toInt ∧ ob_value.toInt ≤ 9999) (p_ob_faultKind : (0 : Int) ≤ ob_faultKind.toInt ∧ ob_faultKind.toInt ≤ 3) (p_ob_houseMany : (0 : Int) ≤ ob_houseMany.toInt ∧ ob_houseMany.toInt ≤ 10) (p_ob_bestSet : (0 : Int) ≤ ob_bestSet.toInt ∧ ob_bestSet.toInt ≤ 1023) (p_ob_bestOver : (-1 : Int) ≤ ob_bestOver.toInt ∧ ob_bestOver.toInt ≤ 180) (p_ob_tenMany : (0 : Int) ≤ ob_tenMany.toInt ∧ ob_tenMany.toInt ≤ 10) (p_ob_callMany : (0 : Int) ≤ ob_callMany.toInt ∧ ob_callMany.toInt ≤ 16) (p_fob_many : ∀ i, (-1 : Int) ≤ (fob_many i).toInt ∧ (fob_many i).toInt ≤ 60) (p_fob_width : ∀ i, (0 : Int) ≤ (fob_width i).toInt ∧ (fob_width i).toInt ≤ 3) : Met l yX10_row (Cond.code yX10_row cX10_row 5 (some .int) :: wAll) ({ frames := 2, cells := 0, slots := 0, locals := 45 }) (va_Pc [.ref ob, .int 0, .int a2, .int a3] (kp G y sz [(ce_X10 ob ob_thrown ob_world ob_images ob_hasImage ob_tape ob_taped ob_five ob_size ob_at ob_from ob_token ob_value ob_faultKind ob_faultPlace ob_fresh ob_parts ob_houses ob_houseMany ob_worthOf ob_byCall ob_over ob_bestSet ob_bestOver ob_bestWorth ob_row ob_tenDebts ob_tenMany ob_fewestBy ob_covered ob_queue ob_cameBy ob_parent ob_met ob_calls ob_callMany ob_calledOn ob_saved ob_many ob_width ob_numbers ob_moving), (ce_i4 y ob_many fob_many), (ce_i4 y ob_width fob_width), (ce_l240 y ob_numbers fob_numbers)])) (va_Qi (fun (r : Int32) (w : va_W) => ((a2.toInt < 0 ∨ 3 < a2.toInt ∨ 60 < a3.toInt) ∧ r = (-2) ∧ w = [(ce_X10 ob ob_thrown ob_world ob_images ob_hasImage ob_tape ob_taped ob_five ob_size ob_at ob_from ob_token ob_value ob_faultKind ob_faultPlace ob_fresh ob_parts ob_houses ob_houseMany ob_worthOf ob_byCall ob_over ob_bestSet ob_bestOver ob_bestWorth ob_row ob_tenDebts ob_tenMany ob_fewestBy ob_covered ob_queue ob_cameBy ob_parent ob_met ob_calls ob_callMany ob_calledOn ob_saved ob_many ob_width ob_numbers ob_moving), (ce_i4 y ob_many fob_many), (ce_i4 y ob_width fob_width), (ce_l240 y ob_numbers fob_numbers)]) ∨ (((0 : Int) ≤ a2.toInt ∧ a2.toInt ≤ 3) ∧ (0 ≤ a2.toInt ∧ a2.toInt ≤ 3 ∧ a3.toInt < 0) ∧ r = (-3) ∧ w = [(ce_X10 ob ob_thrown ob_world ob_images ob_hasImage ob_tape ob_taped ob_five ob_size ob_at ob_from ob_token ob_value ob_faultKind ob_faultPlace ob_fresh ob_parts ob_houses ob_houseMany ob_worthOf ob_byCall ob_over ob_bestSet ob_bestOver ob_bestWorth ob_row ob_tenDebts ob_tenMany ob_fewestBy ob_covered ob_queue ob_cameBy ob_parent ob_met ob_calls ob_callMany ob_calledOn ob_saved ob_many ob_width ob_numbers ob_moving), (ce_i4 y ob_many fob_many), (ce_i4 y ob_width fob_width), (ce_l240 y ob_numbers fob_numbers)]) ∨ (∃ (f_195 : Nat → Int32) (f_196 : Nat → Int32) (f_197 : Nat → Int64), (∀ i, (-1 : Int) ≤ (f_195 i).toInt ∧ (f_195 i).toInt ≤ 60) ∧ (∀ i, (0 : Int) ≤ (f_196 i).toInt ∧ (f_196 i).toInt ≤ 3) ∧ ((0 : Int) ≤ a2.toInt ∧ a2.toInt ≤ 3) ∧ ((0 : Int) ≤ a3.toInt ∧ a3.toInt ≤ 60) ∧ (0 ≤ a2.toInt ∧ a2.toInt ≤ 3 ∧ 0 ≤ a3.toInt ∧ a3.toInt ≤ 60) ∧ ((f_195 0).toInt = a3.toInt) ∧ ((f_196 0).toInt = a2.toInt) ∧ ((f_195 1).toInt = (fob_many 1).toInt) ∧ ((f_196 1).toInt = (fob_width 1).toInt) ∧ ((f_195 2).toInt = (fob_many 2).toInt) ∧ ((f_196 2).toInt = (fob_width 2).toInt) ∧ ((f_195 3).toInt = (fob_many 3).toInt) ∧ ((f_196 3).toInt = (fob_width 3).toInt) ∧ (zL f_197 fob_numbers 0 60) ∧ r = 0 ∧ w = [(ce_X10 ob ob_thrown ob_world ob_images ob_hasImage ob_tape ob_taped ob_five ob_size ob_at ob_from ob_token ob_value ob_faultKind ob_faultPlace ob_fresh ob_parts ob_houses ob_houseMany ob_worthOf ob_byCall ob_over ob_bestSet ob_bestOver ob_bestWorth ob_row ob_tenDebts ob_tenMany ob_fewestBy ob_covered ob_queue ob_cameBy ob_parent ob_met ob_calls ob_callMany ob_calledOn ob_saved ob_many ob_width ob_numbers ob_moving), (ce_i4 y ob_many f_195), (ce_i4 y ob_width f_196), (ce_l240 y ob_numbers f_197)])) (kq G (va_A [(ce_X10 ob ob_thrown ob_world ob_images ob_hasImage ob_tape ob_taped ob_five ob_size ob_at ob_from ob_token ob_value ob_faultKind ob_faultPlace ob_fresh ob_parts ob_houses ob_houseMany ob_worthOf ob_byCall ob_over ob_bestSet ob_bestOver ob_bestWorth ob_row ob_tenDebts ob_tenMany ob_fewestBy ob_covered ob_queue ob_cameBy ob_parent ob_met ob_calls ob_callMany ob_calledOn ob_saved ob_many ob_width ob_numbers ob_moving), (ce_i4 y ob_many fob_many), (ce_i4 y ob_width fob_width), (ce_l240 y ob_numbers fob_numbers)] sz)) (va_A [(ce_X10 ob ob_thrown ob_world ob_images ob_hasImage ob_tape ob_taped ob_five ob_size ob_at ob_from ob_token ob_value ob_faultKind ob_faultPlace ob_fresh ob_parts ob_houses ob_houseMany ob_worthOf ob_byCall ob_over ob_bestSet ob_bestOver ob_bestWorth ob_row ob_tenDebts ob_tenMany ob_fewestBy ob_covered ob_queue ob_cameBy ob_parent ob_met ob_calls ob_callMany ob_calledOn ob_saved ob_many ob_width ob_numbers ob_moving), (ce_i4 y ob_many fob_many), (ce_i4 y ob_width fob_width), (ce_l240 y ob_numbers fob_numbers)] sz)) 0 0 (va_A [(ce_X10 ob ob_thrown ob_world ob_images ob_hasImage ob_tape ob_taped ob_five ob_size ob_at ob_from ob_token ob_value ob_faultKind ob_faultPlace ob_fresh ob_parts ob_houses ob_houseMany ob_worthOf ob_byCall ob_over ob_bestSet ob_bestOver ob_bestWorth ob_row ob_tenDebts ob_tenMany ob_fewestBy ob_covered ob_queue ob_cameBy ob_parent ob_met ob_calls ob_callMany ob_calledOn ob_saved ob_many ob_width ob_numbers ob_moving), (ce_i4 y ob_many fob_many), (ce_i4 y ob_width fob_width), (ce_l240 y ob_numbers fob_numbers)] sz) := by
  refine Met.ofW (cc := cX10_row) (maxL := 5) (ret := (some .int)) (by decide) rfl ?_
  intro p e s m args below meth c s₁ B hml hv
  obtain ⟨rfl, hsz, hP, hK, hD0⟩ := hv
  have hx := B.exec
  have hb := B.bytes
  have hr := B.returns
  have hw0 : ∀ w ∈ wAll, w.before _ s = true := fun w h => atoms_spec (ws := Cond.code yX10_row cX10_row 5 (some .int) :: wAll) B.pre w (List.mem_cons_of_mem _ h)
  have hown : s.vm.findClass RX10 = some m.cls := findClass_of_methodNamed B.named
  subst hsz
  have hD := hD0.self (sz := s.heap.size)
  generalize hAe : va_A [(ce_X10 ob ob_thrown ob_world ob_images ob_hasImage ob_tape ob_taped ob_five ob_size ob_at ob_from ob_token ob_value ob_faultKind ob_faultPlace ob_fresh ob_parts ob_houses ob_houseMany ob_worthOf ob_byCall ob_over ob_bestSet ob_bestOver ob_bestWorth ob_row ob_tenDebts ob_tenMany ob_fewestBy ob_covered ob_queue ob_cameBy ob_parent ob_met ob_calls ob_callMany ob_calledOn ob_saved ob_many ob_width ob_numbers ob_moving), (ce_i4 y ob_many fob_many), (ce_i4 y ob_width fob_width), (ce_l240 y ob_numbers fob_numbers)] s.heap.size = A at hD ⊢
  have hA : ∀ q : Nat, s.heap.size ≤ q → A q := fun q h => by rw [← hAe]; exact Or.inr h
  have hS : va_S A s.heap s.heap [] := va_S.rf
  have hP : va_P G vwCl [(ce_X10 ob ob_thrown ob_world ob_images ob_hasImage ob_tape ob_taped ob_five ob_size ob_at ob_from ob_token ob_value ob_faultKind ob_faultPlace ob_fresh ob_parts ob_houses ob_houseMany ob_worthOf ob_byCall ob_over ob_bestSet ob_bestOver ob_bestWorth ob_row ob_tenDebts ob_tenMany ob_fewestBy ob_covered ob_queue ob_cameBy ob_parent ob_met ob_calls ob_callMany ob_calledOn ob_saved ob_many ob_width ob_numbers ob_moving), (ce_i4 y ob_many fob_many), (ce_i4 y ob_width fob_width), (ce_l240 y ob_numbers fob_numbers)] s.heap := hP
  have hl := lv_entry ([.ref ob, .int 0, .int a2, .int a3]) (n := 5) (Nat.le_of_ble_eq_true rfl)
  rw [lg_entry_eq]
  generalize (lg_sl ([.ref ob, .int 0, .int a2, .int a3]) ++ List.replicate (5 - (lg_sl ([.ref ob, .int 0, .int a2, .int a3])).length) Slot.unset).toArray = ls at hl ⊢
  have hl : lv_has ls 5 [(0, .ref ob), (1, .int 0), (2, .int a2), (3, .int a3)] := hl
  refine lv_iload_n hx hb dX10_row_0 rfl (lv_at hl 1 rfl) ?_
  refine cSim (As := [.int 0]) (rest := []) ⟨hx, hb, hml, hown, hw0⟩ hA hK hP hD hS [] (gisSlotM l G y _ 0 ) rfl ⟨(callB_of 1 hw0 (gA m_543) rfl rfl rfl (hw0 _ m_41) (hw0 _ m_433) cb_X10_isSlot ⟨Nat.le_of_ble_eq_true rfl, Nat.le_of_ble_eq_true rfl⟩), (hw0 _ m_434)⟩ rfl hl.1 (Nat.le_of_ble_eq_true rfl) dX10_row_1 ⟨Nat.le_of_ble_eq_true rfl, Nat.le_of_ble_eq_true rfl⟩ (fun r_1001 w_1001 H locs hw_1001 hP hD hS => ?_)
  rcases hw_1001 with ⟨h_1002, rfl, rfl⟩ | ⟨h_1003, h_1004, rfl, rfl⟩
  · skip
    exact False.elim (by have h9 : Int32.toInt 0 = 0 := (by decide); omega)
  · skip
    obtain ⟨hP, hD⟩ : vPD G A H [(ce_X10 ob ob_thrown ob_world ob_images ob_hasImage ob_tape ob_taped ob_five ob_size ob_at ob_from ob_token ob_value ob_faultKind ob_faultPlace ob_fresh ob_parts ob_houses ob_houseMany ob_worthOf ob_byCall ob_over ob_bestSet ob_bestOver ob_bestWorth ob_row ob_tenDebts ob_tenMany ob_fewestBy ob_covered ob_queue ob_cameBy ob_parent ob_met ob_calls ob_callMany ob_calledOn ob_saved ob_many ob_width ob_numbers ob_moving), (ce_i4 y ob_many fob_many), (ce_i4 y ob_width fob_width), (ce_l240 y ob_numbers fob_numbers)] := ⟨hP, hD⟩
    refine lv_if_eq (tgt := 25) hx hb dX10_row_4 (by decide) (fun c9 => absurd c9 (by decide)) (fun _ => ?_)
    refine lv_iload_n hx hb dX10_row_7 rfl (lv_at hl 2 rfl) ?_
    refine lv_i2l hx hb dX10_row_8 rfl ?_
    refine lv_lconst (v := 0) hx hb dX10_row_9 (by decide) ?_
    refine lv_ldc2 (own := RX10) (v := 3) hx hb hown (hw0 _ m_398) dX10_row_10 ?_
    refine cSim (As := [.long (a2).toInt64, .long 0, .long 3]) (rest := []) ⟨hx, hb, hml, hown, hw0⟩ hA hK hP hD hS [] (sX10_in l G y _ ((a2).toInt64) 0 3 ) rfl ⟨(callB_of 3 hw0 (gA m_516) rfl rfl rfl (hw0 _ m_41) (hw0 _ m_345) cb_X10_in ⟨Nat.le_of_ble_eq_true rfl, Nat.le_of_ble_eq_true rfl⟩), (hw0 _ m_346)⟩ rfl hl.1 (Nat.le_of_ble_eq_true rfl) dX10_row_13 ⟨Nat.le_of_ble_eq_true rfl, Nat.le_of_ble_eq_true rfl⟩ (fun r_1005 w_1005 H locs hw_1005 hP hD hS => ?_)
    rcases hw_1005 with ⟨h_1006, rfl, rfl⟩ | ⟨h_1007, rfl, rfl⟩
    · skip
      have h_1008 : a2.toInt < (0 : Int) ∨ (3 : Int) < a2.toInt := in_n h_1006 (Int32.toInt_toInt64 _) (by decide) (by decide)
      obtain ⟨hP, hD⟩ : vPD G A H [(ce_X10 ob ob_thrown ob_world ob_images ob_hasImage ob_tape ob_taped ob_five ob_size ob_at ob_from ob_token ob_value ob_faultKind ob_faultPlace ob_fresh ob_parts ob_houses ob_houseMany ob_worthOf ob_byCall ob_over ob_bestSet ob_bestOver ob_bestWorth ob_row ob_tenDebts ob_tenMany ob_fewestBy ob_covered ob_queue ob_cameBy ob_parent ob_met ob_calls ob_callMany ob_calledOn ob_saved ob_many ob_width ob_numbers ob_moving), (ce_i4 y ob_many fob_many), (ce_i4 y ob_width fob_width), (ce_l240 y ob_numbers fob_numbers)] := ⟨hP, hD⟩
      refine lv_if_eq (tgt := 25) hx hb dX10_row_16 (by decide) (fun _ => ?_) (fun c9 => absurd (by decide) c9)
      refine lv_bipush (v := (-2)) hx hb dX10_row_25 (by decide) ?_
      exact W.iret (v := (-2)) hx hb hr (fun t ht hW => ⟨⟨(-2), _, rfl, Or.inl (⟨by have h90 : Int32.toInt (-2) = -2 := (by decide); have h91 : Int32.toInt 0 = 0 := (by decide); omega, rfl, rfl⟩), by rw [ht]; exact hP, hD⟩, hS.F ht⟩) hS.2.2 dX10_row_27
    · skip
      have h_1009 : (0 : Int) ≤ a2.toInt ∧ a2.toInt ≤ (3 : Int) := in_y h_1007 (Int32.toInt_toInt64 _) (by decide) (by decide)
      have h_1010_0 := (btop a2)
      have h_1010_1 := True.intro
      have h_1010_2 := True.intro
      have h_1010 : (0 : Int) ≤ a2.toInt ∧ a2.toInt ≤ 3 := by omega
      obtain ⟨hP, hD⟩ : vPD G A H [(ce_X10 ob ob_thrown ob_world ob_images ob_hasImage ob_tape ob_taped ob_five ob_size ob_at ob_from ob_token ob_value ob_faultKind ob_faultPlace ob_fresh ob_parts ob_houses ob_houseMany ob_worthOf ob_byCall ob_over ob_bestSet ob_bestOver ob_bestWorth ob_row ob_tenDebts ob_tenMany ob_fewestBy ob_covered ob_queue ob_cameBy ob_parent ob_met ob_calls ob_callMany ob_calledOn ob_saved ob_many ob_width ob_numbers ob_moving), (ce_i4 y ob_many fob_many), (ce_i4 y ob_width fob_width), (ce_l240 y ob_numbers fob_numbers)] := ⟨hP, hD⟩
      refine lv_if_eq (tgt := 25) hx hb dX10_row_16 (by decide) (fun c9 => absurd c9 (by decide)) (fun _ => ?_)
      refine lv_iload_n hx hb dX10_row_19 rfl (lv_at hl 3 rfl) ?_
      refine lv_bipush (v := 60) hx hb dX10_row_20 (by decide) ?_
      refine lv_icmp_le (tgt := 28) hx hb dX10_row_22 (by decide) (fun c_1011 => ?_) (fun c_1011 => ?_)
      · skip
        have nc_1011 := nb_le (60) (60) c_1011 (btop a3) (bkc (x := 60) (c := 60) (by decide)) (by decide)
        refine lv_iload_n hx hb dX10_row_28 rfl (lv_at hl 3 rfl) ?_
        refine lv_if_ge (tgt := 35) hx hb dX10_row_29 (by decide) (fun c_1012 => ?_) (fun c_1012 => ?_)
        · skip
          have nc_1012 := nb_le (0) (0) c_1012 (bkc (x := 0) (c := 0) (by decide)) nc_1011.1 (by decide)
          refine lv_aload_n hx hb dX10_row_35 rfl (lv_at hl 0 rfl) ?_
          refine va_get (D := G) (ci := 10) (v := .ref ob_many) (C := RX10) (T := TX10) (N := 41) hx hb hw0 inA_wsX100 hown hK.1 hP 0 rfl rfl 37 (by decide) (hw0 _ m_406) (fun _ h9 => h9) rfl dX10_row_36 ?_
          refine lv_iload_n hx hb dX10_row_39 rfl (lv_at hl 1 rfl) ?_
          refine lv_iload_n hx hb dX10_row_40 rfl (lv_at hl 3 rfl) ?_
          refine va_iast hx hb hK.1 hP hD hS 1 1 rfl rfl (vi (bkc (x := 0) (c := 0) (by decide)) (by decide)) dX10_row_41 (fun H locs hP hD hS => ?_)
          generalize hf_1013 : (upd fob_many (0 : Int32).toNatClampNeg a3) = f_1013 at hP hD
          have bf_1013 : ∀ i, (-1 : Int) ≤ (f_1013 i).toInt ∧ (f_1013 i).toInt ≤ 60 := hf_1013 ▸ up_b p_fob_many (bw (-1) (60) nc_1012.2.1 (by decide))
          have zf_1013_0 : (f_1013 0).toInt = (a3 : Int32).toInt := hf_1013 ▸ pin_eq (by decide)
          have zf_1013_1 : (f_1013 1).toInt = (fob_many 1).toInt := hf_1013 ▸ pin_ne (ix_not (bkc (x := 0) (c := 0) (by decide)) (by decide))
          have zf_1013_2 : (f_1013 2).toInt = (fob_many 2).toInt := hf_1013 ▸ pin_ne (ix_not (bkc (x := 0) (c := 0) (by decide)) (by decide))
          have zf_1013_3 : (f_1013 3).toInt = (fob_many 3).toInt := hf_1013 ▸ pin_ne (ix_not (bkc (x := 0) (c := 0) (by decide)) (by decide))
          obtain ⟨hP, hD⟩ : vPD G A H [(ce_X10 ob ob_thrown ob_world ob_images ob_hasImage ob_tape ob_taped ob_five ob_size ob_at ob_from ob_token ob_value ob_faultKind ob_faultPlace ob_fresh ob_parts ob_houses ob_houseMany ob_worthOf ob_byCall ob_over ob_bestSet ob_bestOver ob_bestWorth ob_row ob_tenDebts ob_tenMany ob_fewestBy ob_covered ob_queue ob_cameBy ob_parent ob_met ob_calls ob_callMany ob_calledOn ob_saved ob_many ob_width ob_numbers ob_moving), (ce_i4 y ob_many f_1013), (ce_i4 y ob_width fob_width), (ce_l240 y ob_numbers fob_numbers)] := ⟨hP, hD⟩
          refine lv_aload_n hx hb dX10_row_42 rfl (lv_at hl 0 rfl) ?_
          refine va_get (D := G) (ci := 10) (v := .ref ob_width) (C := RX10) (T := TX10) (N := 41) hx hb hw0 inA_wsX100 hown hK.1 hP 0 rfl rfl 38 (by decide) (hw0 _ m_527) (fun _ h9 => h9) rfl dX10_row_43 ?_
          refine lv_iload_n hx hb dX10_row_46 rfl (lv_at hl 1 rfl) ?_
          refine lv_iload_n hx hb dX10_row_47 rfl (lv_at hl 2 rfl) ?_
          refine va_iast hx hb hK.1 hP hD hS 2 1 rfl rfl (vi (bkc (x := 0) (c := 0) (by decide)) (by decide)) dX10_row_48 (fun H locs hP hD hS => ?_)
          generalize hf_1014 : (upd fob_width (0 : Int32).toNatClampNeg a2) = f_1014 at hP hD
          have bf_1014 : ∀ i, (0 : Int) ≤ (f_1014 i).toInt ∧ (f_1014 i).toInt ≤ 3 := hf_1014 ▸ up_b p_fob_width h_1010
          have zf_1014_0 : (f_1014 0).toInt = (a2 : Int32).toInt := hf_1014 ▸ pin_eq (by decide)
          have zf_1014_1 : (f_1014 1).toInt = (fob_width 1).toInt := hf_1014 ▸ pin_ne (ix_not (bkc (x := 0) (c := 0) (by decide)) (by decide))
          have zf_1014_2 : (f_1014 2).toInt = (fob_width 2).toInt := hf_1014 ▸ pin_ne (ix_not (bkc (x := 0) (c := 0) (by decide)) (by decide))
          have zf_1014_3 : (f_1014 3).toInt = (fob_width 3).toInt := hf_1014 ▸ pin_ne (ix_not (bkc (x := 0) (c := 0) (by decide)) (by decide))
          obtain ⟨hP, hD⟩ : vPD G A H [(ce_X10 ob ob_thrown ob_world ob_images ob_hasImage ob_tape ob_taped ob_five ob_size ob_at ob_from ob_token ob_value ob_faultKind ob_faultPlace ob_fresh ob_parts ob_houses ob_houseMany ob_worthOf ob_byCall ob_over ob_bestSet ob_bestOver ob_bestWorth ob_row ob_tenDebts ob_tenMany ob_fewestBy ob_covered ob_queue ob_cameBy ob_parent ob_met ob_calls ob_callMany ob_calledOn ob_saved ob_many ob_width ob_numbers ob_moving), (ce_i4 y ob_many f_1013), (ce_i4 y ob_width f_1014), (ce_l240 y ob_numbers fob_numbers)] := ⟨hP, hD⟩
          refine lv_iconst (v := 0) hx hb dX10_row_49 (by decide) ?_
          refine lv_istore (lv' := [(4, .int 0), (0, .ref ob), (1, .int 0), (2, .int a2), (3, .int a3)]) hx hb dX10_row_50 hl (by decide) rfl (fun ls hl => ?_)
          refine loopX (fun n H locs ls st => ∃ (v_1086 : Int32) (f_1087 : Nat → Int64), (60 - v_1086.toInt).toNat = n ∧ ((0 : Int) ≤ v_1086.toInt ∧ v_1086.toInt ≤ 60) ∧ (zL f_1087 fob_numbers 0 v_1086.toInt) ∧ st = [] ∧ vPD G A H [(ce_X10 ob ob_thrown ob_world ob_images ob_hasImage ob_tape ob_taped ob_five ob_size ob_at ob_from ob_token ob_value ob_faultKind ob_faultPlace ob_fresh ob_parts ob_houses ob_houseMany ob_worthOf ob_byCall ob_over ob_bestSet ob_bestOver ob_bestWorth ob_row ob_tenDebts ob_tenMany ob_fewestBy ob_covered ob_queue ob_cameBy ob_parent ob_met ob_calls ob_callMany ob_calledOn ob_saved ob_many ob_width ob_numbers ob_moving), (ce_i4 y ob_many f_1013), (ce_i4 y ob_width f_1014), (ce_l240 y ob_numbers f_1087)] ∧ va_S A s.heap H locs ∧ lv_has ls 5 [(4, .int v_1086), (0, .ref ob), (1, .int 0)]) ?_ (n := (60 - (0 : Int32).toInt).toNat) ⟨0, fob_numbers, rfl, (bw (0) (60) (bkc (x := 0) (c := 0) (by decide)) (by decide)), (zl_0 (by have h90 : Int32.toInt 0 = 0 := (by decide); omega)), rfl, ⟨hP, hD⟩, hS, lv_sub hl [0, 1, 2] rfl⟩
          rintro n ih_1092 H locs ls st ⟨v_1086, f_1087, hn_1092, bv_1086, rl1087_0, rfl, ⟨hP, hD⟩, hS, hl⟩
          refine lv_iload hx hb dX10_row_52 (lv_at hl 0 rfl) ?_
          refine lv_bipush (v := 60) hx hb dX10_row_54 (by decide) ?_
          refine lv_icmp_ge (tgt := 78) hx hb dX10_row_56 (by decide) (fun c_1093 => ?_) (fun c_1093 => ?_)
          · skip
            have nc_1093 := nb_le (60) (60) c_1093 (bkc (x := 60) (c := 60) (by decide)) bv_1086 (by decide)
            refine lv_iconst (v := 0) hx hb dX10_row_78 (by decide) ?_
            exact W.iret (v := 0) hx hb hr (fun t ht hW => ⟨⟨0, _, rfl, Or.inr (Or.inr (⟨f_1013, f_1014, f_1087, bf_1013, bf_1014, h_1010, nc_1012.2.1, by have h90 : Int32.toInt 0 = 0 := (by decide); omega, by have h90 : Int32.toInt 0 = 0 := (by decide); omega, by have h90 : Int32.toInt 0 = 0 := (by decide); omega, by have h90 : Int32.toInt 0 = 0 := (by decide); omega, by have h90 : Int32.toInt 0 = 0 := (by decide); omega, by have h90 : Int32.toInt 0 = 0 := (by decide); omega, by have h90 : Int32.toInt 0 = 0 := (by decide); omega, by have h90 : Int32.toInt 0 = 0 := (by decide); omega, by have h90 : Int32.toInt 0 = 0 := (by decide); omega, (zl_e rl1087_0 (by omega)), rfl, rfl⟩)), by rw [ht]; exact hP, hD⟩, hS.F ht⟩) hS.2.2 dX10_row_79
          · skip
            have nc_1093 := nb_nle (59) (60) c_1093 bv_1086 (bkc (x := 60) (c := 60) (by decide)) (by decide)
            refine lv_aload_n hx hb dX10_row_59 rfl (lv_at hl 1 rfl) ?_
            refine va_get (D := G) (ci := 10) (v := .ref ob_numbers) (C := RX10) (T := TX10) (N := 41) hx hb hw0 inA_wsX100 hown hK.1 hP 0 rfl rfl 39 (by decide) (hw0 _ m_435) (fun _ h9 => h9) rfl dX10_row_60 ?_
            refine lv_bipush (v := 60) hx hb dX10_row_63 (by decide) ?_
            refine lv_iload_n hx hb dX10_row_65 rfl (lv_at hl 2 rfl) ?_
            refine lv_imul hx hb dX10_row_66 ?_
            refine lv_topi (fun v_1094 ev_1094 => ?_)
            obtain rfl : 0 = v_1094 := (ev_1094.trans (by decide)).symm
            refine lv_iload hx hb dX10_row_67 (lv_at hl 0 rfl) ?_
            refine lv_iadd hx hb dX10_row_69 ?_
            refine lv_topi (fun v_1095 ev_1095 => ?_)
            have qv_1095 := ba_add ev_1095 (bkc (x := 0) (c := 0) (by decide)) nc_1093.1 (by decide)
            have bv_1095 : (0 : Int) ≤ v_1095.toInt ∧ v_1095.toInt ≤ 59 := bq_add qv_1095 (bkc (x := 0) (c := 0) (by decide)) nc_1093.1 _ _ (by decide)
            have qv_1095 : v_1095.toInt = (0) + v_1086.toInt := qv_1095
            refine lv_lconst (v := 0) hx hb dX10_row_70 (by decide) ?_
            refine va_last hx hb hK.1 hP hD hS 3 2 rfl rfl (vi bv_1095 (by decide)) dX10_row_71 (fun H locs hP hD hS => ?_)
            generalize hf_1096 : (vp_updL f_1087 (v_1095 : Int32).toNatClampNeg 0) = f_1096 at hP hD
            obtain ⟨hP, hD⟩ : vPD G A H [(ce_X10 ob ob_thrown ob_world ob_images ob_hasImage ob_tape ob_taped ob_five ob_size ob_at ob_from ob_token ob_value ob_faultKind ob_faultPlace ob_fresh ob_parts ob_houses ob_houseMany ob_worthOf ob_byCall ob_over ob_bestSet ob_bestOver ob_bestWorth ob_row ob_tenDebts ob_tenMany ob_fewestBy ob_covered ob_queue ob_cameBy ob_parent ob_met ob_calls ob_callMany ob_calledOn ob_saved ob_many ob_width ob_numbers ob_moving), (ce_i4 y ob_many f_1013), (ce_i4 y ob_width f_1014), (ce_l240 y ob_numbers f_1096)] := ⟨hP, hD⟩
            obtain ⟨v_1097, ev_1097⟩ : ∃ z : Int32, z = v_1086 + 1 := ⟨_, rfl⟩
            have qv_1097 := ba_add ev_1097 nc_1093.1 (bkc (x := 1) (c := 1) (by decide)) (by decide)
            have bv_1097 : (1 : Int) ≤ v_1097.toInt ∧ v_1097.toInt ≤ 60 := bq_add qv_1097 nc_1093.1 (bkc (x := 1) (c := 1) (by decide)) _ _ (by decide)
            have qv_1097 : v_1097.toInt = v_1086.toInt + (1) := qv_1097
            refine lv_iinc (v := v_1097) (lv' := [(4, .int v_1097), (0, .ref ob), (1, .int 0)]) hx hb dX10_row_72 hl (k := 0) rfl (ev_1097.symm) (by decide) rfl (fun ls hl => ?_)
            refine lv_goto (tgt := 52) hx hb dX10_row_75 (by decide) ?_
            exact ih_1092 _ (ml_inc (hi := 60) hn_1092 qv_1097 (by decide) ((bw (0) (60) bv_1097 (by decide))).2) _ _ _ _ ⟨v_1097, f_1096, rfl, (bw (0) (60) bv_1097 (by decide)), (zl_s rl1087_0 hf_1096 (by omega) ⟨by omega, by omega⟩ (by omega)), rfl, ⟨hP, hD⟩, hS, lv_sub hl [0, 1, 2] rfl⟩
        · skip
          have nc_1012 := nb_nle (-1) (0) c_1012 nc_1011.1 (bkc (x := 0) (c := 0) (by decide)) (by decide)
          refine lv_bipush (v := (-3)) hx hb dX10_row_32 (by decide) ?_
          exact W.iret (v := (-3)) hx hb hr (fun t ht hW => ⟨⟨(-3), _, rfl, Or.inr (Or.inl (⟨h_1010, by have h90 : Int32.toInt (-3) = -3 := (by decide); have h91 : Int32.toInt 0 = 0 := (by decide); omega, rfl, rfl⟩)), by rw [ht]; exact hP, hD⟩, hS.F ht⟩) hS.2.2 dX10_row_34
      · skip
        have nc_1011 := nb_nle (60) (61) c_1011 (bkc (x := 60) (c := 60) (by decide)) (btop a3) (by decide)
        refine lv_bipush (v := (-2)) hx hb dX10_row_25 (by decide) ?_
        exact W.iret (v := (-2)) hx hb hr (fun t ht hW => ⟨⟨(-2), _, rfl, Or.inl (⟨by have h90 : Int32.toInt (-2) = -2 := (by decide); have h91 : Int32.toInt 0 = 0 := (by decide); omega, rfl, rfl⟩), by rw [ht]; exact hP, hD⟩, hS.F ht⟩) hS.2.2 dX10_row_27

set_option maxHeartbeats 4000000 in
set_option maxRecDepth 100000 in
theorem fwriteM0 (l : Launch) (G : va_G) (y : Nat → ClassId) (sz : Nat) (ob : Nat) (a2 : Int32) (a3 : Int64) (ob_thrown : Int32) (ob_world : Nat) (ob_images : Nat) (ob_hasImage : Nat) (ob_tape : Nat) (ob_taped : Int32) (ob_five : Nat) (ob_size : Int32) (ob_at : Int32) (ob_from : Int32) (ob_token : Int32) (ob_value : Int32) (ob_faultKind : Int32) (ob_faultPlace : Int32) (ob_fresh : Nat) (ob_parts : Nat) (ob_houses : Nat) (ob_houseMany : Int32) (ob_worthOf : Nat) (ob_byCall : Nat) (ob_over : Nat) (ob_bestSet : Int32) (ob_bestOver : Int32) (ob_bestWorth : Int32) (ob_row : Nat) (ob_tenDebts : Nat) (ob_tenMany : Int32) (ob_fewestBy : Nat) (ob_covered : Nat) (ob_queue : Nat) (ob_cameBy : Nat) (ob_parent : Nat) (ob_met : Nat) (ob_calls : Nat) (ob_callMany : Int32) (ob_calledOn : Nat) (ob_saved : Nat) (ob_many : Nat) (ob_width : Nat) (ob_numbers : Nat) (ob_moving : Nat) (fob_many : Nat → Int32) (fob_width : Nat → Int32) (fob_numbers : Nat → Int64) (p_ob_taped : (0 : Int) ≤ ob_taped.toInt ∧ ob_taped.toInt ≤ 1400) (p_ob_size : (0 : Int) ≤ ob_size.toInt ∧ ob_size.toInt ≤ 1400) (p_ob_at : (0 : Int) ≤ ob_at.toInt ∧ ob_at.toInt ≤ 1400) (p_ob_from : (0 : Int) ≤ ob_from.toInt ∧ ob_from.toInt ≤ 1400) (p_ob_token : (0 : Int) ≤ ob_token.toInt ∧ ob_token.toInt ≤ 4) (p_ob_value : (0 : Int) ≤ ob_value.toInt ∧ ob_value.toInt ≤ 9999) (p_ob_faultKind : (0 : Int) ≤ ob_faultKind.toInt ∧ ob_faultKind.toInt ≤ 3) (p_ob_houseMany : (0 : Int) ≤ ob_houseMany.toInt ∧ ob_houseMany.toInt ≤ 10) (p_ob_bestSet : (0 : Int) ≤ ob_bestSet.toInt ∧ ob_bestSet.toInt ≤ 1023) (p_ob_bestOver : (-1 : Int) ≤ ob_bestOver.toInt ∧ ob_bestOver.toInt ≤ 180) (p_ob_tenMany : (0 : Int) ≤ ob_tenMany.toInt ∧ ob_tenMany.toInt ≤ 10) (p_ob_callMany : (0 : Int) ≤ ob_callMany.toInt ∧ ob_callMany.toInt ≤ 16) (p_fob_many : ∀ i, (-1 : Int) ≤ (fob_many i).toInt ∧ (fob_many i).toInt ≤ 60) (p_fob_width : ∀ i, (0 : Int) ≤ (fob_width i).toInt ∧ (fob_width i).toInt ≤ 3) : Met l yX10_write (Cond.code yX10_write cX10_write 5 (some .int) :: wAll) ({ frames := 2, cells := 0, slots := 0, locals := 45 }) (va_Pc [.ref ob, .int 0, .int a2, .long a3] (kp G y sz [(ce_X10 ob ob_thrown ob_world ob_images ob_hasImage ob_tape ob_taped ob_five ob_size ob_at ob_from ob_token ob_value ob_faultKind ob_faultPlace ob_fresh ob_parts ob_houses ob_houseMany ob_worthOf ob_byCall ob_over ob_bestSet ob_bestOver ob_bestWorth ob_row ob_tenDebts ob_tenMany ob_fewestBy ob_covered ob_queue ob_cameBy ob_parent ob_met ob_calls ob_callMany ob_calledOn ob_saved ob_many ob_width ob_numbers ob_moving), (ce_i4 y ob_many fob_many), (ce_i4 y ob_width fob_width), (ce_l240 y ob_numbers fob_numbers)])) (va_Qi (fun (r : Int32) (w : va_W) => (((fob_many 0).toInt = -1) ∧ r = (-6) ∧ w = [(ce_X10 ob ob_thrown ob_world ob_images ob_hasImage ob_tape ob_taped ob_five ob_size ob_at ob_from ob_token ob_value ob_faultKind ob_faultPlace ob_fresh ob_parts ob_houses ob_houseMany ob_worthOf ob_byCall ob_over ob_bestSet ob_bestOver ob_bestWorth ob_row ob_tenDebts ob_tenMany ob_fewestBy ob_covered ob_queue ob_cameBy ob_parent ob_met ob_calls ob_callMany ob_calledOn ob_saved ob_many ob_width ob_numbers ob_moving), (ce_i4 y ob_many fob_many), (ce_i4 y ob_width fob_width), (ce_l240 y ob_numbers fob_numbers)]) ∨ ((¬ (fob_many 0).toInt = -1 ∧ (a2.toInt < 0 ∨ (fob_many 0).toInt ≤ a2.toInt)) ∧ r = (-7) ∧ w = [(ce_X10 ob ob_thrown ob_world ob_images ob_hasImage ob_tape ob_taped ob_five ob_size ob_at ob_from ob_token ob_value ob_faultKind ob_faultPlace ob_fresh ob_parts ob_houses ob_houseMany ob_worthOf ob_byCall ob_over ob_bestSet ob_bestOver ob_bestWorth ob_row ob_tenDebts ob_tenMany ob_fewestBy ob_covered ob_queue ob_cameBy ob_parent ob_met ob_calls ob_callMany ob_calledOn ob_saved ob_many ob_width ob_numbers ob_moving), (ce_i4 y ob_many fob_many), (ce_i4 y ob_width fob_width), (ce_l240 y ob_numbers fob_numbers)]) ∨ (∃ (f_47 : Nat → Int64), ((0 : Int) ≤ a2.toInt ∧ a2.toInt ≤ 59) ∧ (¬ (fob_many 0).toInt = -1 ∧ 0 ≤ a2.toInt ∧ a2.toInt < (fob_many 0).toInt) ∧ (f_47 = vp_updL fob_numbers (0 + a2.toInt.toNat) (qcut (fob_width 0) a3)) ∧ r = 0 ∧ w = [(ce_X10 ob ob_thrown ob_world ob_images ob_hasImage ob_tape ob_taped ob_five ob_size ob_at ob_from ob_token ob_value ob_faultKind ob_faultPlace ob_fresh ob_parts ob_houses ob_houseMany ob_worthOf ob_byCall ob_over ob_bestSet ob_bestOver ob_bestWorth ob_row ob_tenDebts ob_tenMany ob_fewestBy ob_covered ob_queue ob_cameBy ob_parent ob_met ob_calls ob_callMany ob_calledOn ob_saved ob_many ob_width ob_numbers ob_moving), (ce_i4 y ob_many fob_many), (ce_i4 y ob_width fob_width), (ce_l240 y ob_numbers f_47)])) (kq G (va_A [(ce_X10 ob ob_thrown ob_world ob_images ob_hasImage ob_tape ob_taped ob_five ob_size ob_at ob_from ob_token ob_value ob_faultKind ob_faultPlace ob_fresh ob_parts ob_houses ob_houseMany ob_worthOf ob_byCall ob_over ob_bestSet ob_bestOver ob_bestWorth ob_row ob_tenDebts ob_tenMany ob_fewestBy ob_covered ob_queue ob_cameBy ob_parent ob_met ob_calls ob_callMany ob_calledOn ob_saved ob_many ob_width ob_numbers ob_moving), (ce_i4 y ob_many fob_many), (ce_i4 y ob_width fob_width), (ce_l240 y ob_numbers fob_numbers)] sz)) (va_A [(ce_X10 ob ob_thrown ob_world ob_images ob_hasImage ob_tape ob_taped ob_five ob_size ob_at ob_from ob_token ob_value ob_faultKind ob_faultPlace ob_fresh ob_parts ob_houses ob_houseMany ob_worthOf ob_byCall ob_over ob_bestSet ob_bestOver ob_bestWorth ob_row ob_tenDebts ob_tenMany ob_fewestBy ob_covered ob_queue ob_cameBy ob_parent ob_met ob_calls ob_callMany ob_calledOn ob_saved ob_many ob_width ob_numbers ob_moving), (ce_i4 y ob_many fob_many), (ce_i4 y ob_width fob_width), (ce_l240 y ob_numbers fob_numbers)] sz)) 0 0 (va_A [(ce_X10 ob ob_thrown ob_world ob_images ob_hasImage ob_tape ob_taped ob_five ob_size ob_at ob_from ob_token ob_value ob_faultKind ob_faultPlace ob_fresh ob_parts ob_houses ob_houseMany ob_worthOf ob_byCall ob_over ob_bestSet ob_bestOver ob_bestWorth ob_row ob_tenDebts ob_tenMany ob_fewestBy ob_covered ob_queue ob_cameBy ob_parent ob_met ob_calls ob_callMany ob_calledOn ob_saved ob_many ob_width ob_numbers ob_moving), (ce_i4 y ob_many fob_many), (ce_i4 y ob_width fob_width), (ce_l240 y ob_numbers fob_numbers)] sz) := by
  refine Met.ofW (cc := cX10_write) (maxL := 5) (ret := (some .int)) (by decide) rfl ?_
  intro p e s m args below meth c s₁ B hml hv
  obtain ⟨rfl, hsz, hP, hK, hD0⟩ := hv
  have hx := B.exec
  have hb := B.bytes
  have hr := B.returns
  have hw0 : ∀ w ∈ wAll, w.before _ s = true := fun w h => atoms_spec (ws := Cond.code yX10_write cX10_write 5 (some .int) :: wAll) B.pre w (List.mem_cons_of_mem _ h)
  have hown : s.vm.findClass RX10 = some m.cls := findClass_of_methodNamed B.named
  subst hsz
  have hD := hD0.self (sz := s.heap.size)
  generalize hAe : va_A [(ce_X10 ob ob_thrown ob_world ob_images ob_hasImage ob_tape ob_taped ob_five ob_size ob_at ob_from ob_token ob_value ob_faultKind ob_faultPlace ob_fresh ob_parts ob_houses ob_houseMany ob_worthOf ob_byCall ob_over ob_bestSet ob_bestOver ob_bestWorth ob_row ob_tenDebts ob_tenMany ob_fewestBy ob_covered ob_queue ob_cameBy ob_parent ob_met ob_calls ob_callMany ob_calledOn ob_saved ob_many ob_width ob_numbers ob_moving), (ce_i4 y ob_many fob_many), (ce_i4 y ob_width fob_width), (ce_l240 y ob_numbers fob_numbers)] s.heap.size = A at hD ⊢
  have hA : ∀ q : Nat, s.heap.size ≤ q → A q := fun q h => by rw [← hAe]; exact Or.inr h
  have hS : va_S A s.heap s.heap [] := va_S.rf
  have hP : va_P G vwCl [(ce_X10 ob ob_thrown ob_world ob_images ob_hasImage ob_tape ob_taped ob_five ob_size ob_at ob_from ob_token ob_value ob_faultKind ob_faultPlace ob_fresh ob_parts ob_houses ob_houseMany ob_worthOf ob_byCall ob_over ob_bestSet ob_bestOver ob_bestWorth ob_row ob_tenDebts ob_tenMany ob_fewestBy ob_covered ob_queue ob_cameBy ob_parent ob_met ob_calls ob_callMany ob_calledOn ob_saved ob_many ob_width ob_numbers ob_moving), (ce_i4 y ob_many fob_many), (ce_i4 y ob_width fob_width), (ce_l240 y ob_numbers fob_numbers)] s.heap := hP
  have hl := lv_entry ([.ref ob, .int 0, .int a2, .long a3]) (n := 5) (Nat.le_of_ble_eq_true rfl)
  rw [lg_entry_eq]
  generalize (lg_sl ([.ref ob, .int 0, .int a2, .long a3]) ++ List.replicate (5 - (lg_sl ([.ref ob, .int 0, .int a2, .long a3])).length) Slot.unset).toArray = ls at hl ⊢
  have hl : lv_has ls 5 [(0, .ref ob), (1, .int 0), (2, .int a2), (3, .long a3)] := hl
  refine lv_iload_n hx hb dX10_write_0 rfl (lv_at hl 1 rfl) ?_
  refine cSim (As := [.int 0]) (rest := []) ⟨hx, hb, hml, hown, hw0⟩ hA hK hP hD hS [] (gisSlotM l G y _ 0 ) rfl ⟨(callB_of 1 hw0 (gA m_543) rfl rfl rfl (hw0 _ m_41) (hw0 _ m_433) cb_X10_isSlot ⟨Nat.le_of_ble_eq_true rfl, Nat.le_of_ble_eq_true rfl⟩), (hw0 _ m_434)⟩ rfl hl.1 (Nat.le_of_ble_eq_true rfl) dX10_write_1 ⟨Nat.le_of_ble_eq_true rfl, Nat.le_of_ble_eq_true rfl⟩ (fun r_1001 w_1001 H locs hw_1001 hP hD hS => ?_)
  rcases hw_1001 with ⟨h_1002, rfl, rfl⟩ | ⟨h_1003, h_1004, rfl, rfl⟩
  · skip
    exact False.elim (by have h9 : Int32.toInt 0 = 0 := (by decide); omega)
  · skip
    obtain ⟨hP, hD⟩ : vPD G A H [(ce_X10 ob ob_thrown ob_world ob_images ob_hasImage ob_tape ob_taped ob_five ob_size ob_at ob_from ob_token ob_value ob_faultKind ob_faultPlace ob_fresh ob_parts ob_houses ob_houseMany ob_worthOf ob_byCall ob_over ob_bestSet ob_bestOver ob_bestWorth ob_row ob_tenDebts ob_tenMany ob_fewestBy ob_covered ob_queue ob_cameBy ob_parent ob_met ob_calls ob_callMany ob_calledOn ob_saved ob_many ob_width ob_numbers ob_moving), (ce_i4 y ob_many fob_many), (ce_i4 y ob_width fob_width), (ce_l240 y ob_numbers fob_numbers)] := ⟨hP, hD⟩
    refine lv_if_ne (tgt := 10) hx hb dX10_write_4 (by decide) (fun _ => ?_) (fun c9 => absurd c9 (by decide))
    refine lv_aload_n hx hb dX10_write_10 rfl (lv_at hl 0 rfl) ?_
    refine va_get (D := G) (ci := 10) (v := .ref ob_many) (C := RX10) (T := TX10) (N := 41) hx hb hw0 inA_wsX100 hown hK.1 hP 0 rfl rfl 37 (by decide) (hw0 _ m_406) (fun _ h9 => h9) rfl dX10_write_11 ?_
    refine lv_iload_n hx hb dX10_write_14 rfl (lv_at hl 1 rfl) ?_
    refine va_iald hx hb hK.1 hP 1 1 rfl rfl (vi (bkc (x := 0) (c := 0) (by decide)) (by decide)) dX10_write_15 ?_
    refine lv_topi (fun v_1005 ev_1005 => ?_)
    have bv_1005 : (-1 : Int) ≤ v_1005.toInt ∧ v_1005.toInt ≤ 60 := rd_b ev_1005 p_fob_many
    have yv_1005 : v_1005.toInt = (fob_many 0).toInt := congrArg Int32.toInt ev_1005
    refine lv_iconst (v := (-1)) hx hb dX10_write_16 (by decide) ?_
    refine lv_icmp_ne (tgt := 23) hx hb dX10_write_17 (by decide) (fun c_1006 => ?_) (fun c_1006 => ?_)
    · skip
      have nc_1006 := nb_ne (0) (60) c_1006 bv_1005 (k := -1) (by decide) (by decide)
      refine lv_iload_n hx hb dX10_write_23 rfl (lv_at hl 2 rfl) ?_
      refine lv_i2l hx hb dX10_write_24 rfl ?_
      refine lv_lconst (v := 0) hx hb dX10_write_25 (by decide) ?_
      refine lv_aload_n hx hb dX10_write_26 rfl (lv_at hl 0 rfl) ?_
      refine va_get (D := G) (ci := 10) (v := .ref ob_many) (C := RX10) (T := TX10) (N := 41) hx hb hw0 inA_wsX100 hown hK.1 hP 0 rfl rfl 37 (by decide) (hw0 _ m_406) (fun _ h9 => h9) rfl dX10_write_27 ?_
      refine lv_iload_n hx hb dX10_write_30 rfl (lv_at hl 1 rfl) ?_
      refine va_iald hx hb hK.1 hP 1 1 rfl rfl (vi (bkc (x := 0) (c := 0) (by decide)) (by decide)) dX10_write_31 ?_
      refine lv_topi (fun v_1007 ev_1007 => ?_)
      obtain rfl : v_1005 = v_1007 := (ev_1007.trans (ev_1005.symm)).symm
      refine lv_iconst (v := 1) hx hb dX10_write_32 (by decide) ?_
      refine lv_isub hx hb dX10_write_33 ?_
      refine lv_topi (fun v_1008 ev_1008 => ?_)
      have qv_1008 := ba_sub ev_1008 nc_1006.1 (bkc (x := 1) (c := 1) (by decide)) (by decide)
      have bv_1008 : (-1 : Int) ≤ v_1008.toInt ∧ v_1008.toInt ≤ 59 := bq_sub qv_1008 nc_1006.1 (bkc (x := 1) (c := 1) (by decide)) _ _ (by decide)
      have qv_1008 : v_1008.toInt = v_1005.toInt - (1) := qv_1008
      refine lv_i2l hx hb dX10_write_34 rfl ?_
      refine cSim (As := [.long (a2).toInt64, .long 0, .long (v_1008).toInt64]) (rest := []) ⟨hx, hb, hml, hown, hw0⟩ hA hK hP hD hS [] (sX10_in l G y _ ((a2).toInt64) 0 ((v_1008).toInt64) ) rfl ⟨(callB_of 3 hw0 (gA m_516) rfl rfl rfl (hw0 _ m_41) (hw0 _ m_345) cb_X10_in ⟨Nat.le_of_ble_eq_true rfl, Nat.le_of_ble_eq_true rfl⟩), (hw0 _ m_346)⟩ rfl hl.1 (Nat.le_of_ble_eq_true rfl) dX10_write_35 ⟨Nat.le_of_ble_eq_true rfl, Nat.le_of_ble_eq_true rfl⟩ (fun r_1009 w_1009 H locs hw_1009 hP hD hS => ?_)
      rcases hw_1009 with ⟨h_1010, rfl, rfl⟩ | ⟨h_1011, rfl, rfl⟩
      · skip
        have h_1012 : a2.toInt < (0 : Int) ∨ (v_1008.toInt : Int) < a2.toInt := in_n h_1010 (Int32.toInt_toInt64 _) (by decide) (Int32.toInt_toInt64 _)
        obtain ⟨hP, hD⟩ : vPD G A H [(ce_X10 ob ob_thrown ob_world ob_images ob_hasImage ob_tape ob_taped ob_five ob_size ob_at ob_from ob_token ob_value ob_faultKind ob_faultPlace ob_fresh ob_parts ob_houses ob_houseMany ob_worthOf ob_byCall ob_over ob_bestSet ob_bestOver ob_bestWorth ob_row ob_tenDebts ob_tenMany ob_fewestBy ob_covered ob_queue ob_cameBy ob_parent ob_met ob_calls ob_callMany ob_calledOn ob_saved ob_many ob_width ob_numbers ob_moving), (ce_i4 y ob_many fob_many), (ce_i4 y ob_width fob_width), (ce_l240 y ob_numbers fob_numbers)] := ⟨hP, hD⟩
        refine lv_if_ne (tgt := 44) hx hb dX10_write_38 (by decide) (fun c9 => absurd (by decide) c9) (fun _ => ?_)
        refine lv_bipush (v := (-7)) hx hb dX10_write_41 (by decide) ?_
        exact W.iret (v := (-7)) hx hb hr (fun t ht hW => ⟨⟨(-7), _, rfl, Or.inr (Or.inl (⟨by have h90 : Int32.toInt (-7) = -7 := (by decide); have h91 : Int32.toInt 0 = 0 := (by decide); omega, rfl, rfl⟩)), by rw [ht]; exact hP, hD⟩, hS.F ht⟩) hS.2.2 dX10_write_43
      · skip
        have h_1013 : (0 : Int) ≤ a2.toInt ∧ a2.toInt ≤ (v_1008.toInt : Int) := in_y h_1011 (Int32.toInt_toInt64 _) (by decide) (Int32.toInt_toInt64 _)
        have h_1014_0 := (btop a2)
        have h_1014_1 := True.intro
        have h_1014_2 := bv_1008
        have h_1014 : (0 : Int) ≤ a2.toInt ∧ a2.toInt ≤ 59 := by omega
        have h_1015 : (0 : Int) ≤ v_1008.toInt ∧ v_1008.toInt ≤ 59 := by have h9 := bv_1008; have h8 := h_1014; omega
        obtain ⟨hP, hD⟩ : vPD G A H [(ce_X10 ob ob_thrown ob_world ob_images ob_hasImage ob_tape ob_taped ob_five ob_size ob_at ob_from ob_token ob_value ob_faultKind ob_faultPlace ob_fresh ob_parts ob_houses ob_houseMany ob_worthOf ob_byCall ob_over ob_bestSet ob_bestOver ob_bestWorth ob_row ob_tenDebts ob_tenMany ob_fewestBy ob_covered ob_queue ob_cameBy ob_parent ob_met ob_calls ob_callMany ob_calledOn ob_saved ob_many ob_width ob_numbers ob_moving), (ce_i4 y ob_many fob_many), (ce_i4 y ob_width fob_width), (ce_l240 y ob_numbers fob_numbers)] := ⟨hP, hD⟩
        refine lv_if_ne (tgt := 44) hx hb dX10_write_38 (by decide) (fun _ => ?_) (fun c9 => absurd c9 (by decide))
        refine lv_aload_n hx hb dX10_write_44 rfl (lv_at hl 0 rfl) ?_
        refine va_get (D := G) (ci := 10) (v := .ref ob_numbers) (C := RX10) (T := TX10) (N := 41) hx hb hw0 inA_wsX100 hown hK.1 hP 0 rfl rfl 39 (by decide) (hw0 _ m_435) (fun _ h9 => h9) rfl dX10_write_45 ?_
        refine lv_bipush (v := 60) hx hb dX10_write_48 (by decide) ?_
        refine lv_iload_n hx hb dX10_write_50 rfl (lv_at hl 1 rfl) ?_
        refine lv_imul hx hb dX10_write_51 ?_
        refine lv_topi (fun v_1016 ev_1016 => ?_)
        obtain rfl : 0 = v_1016 := (ev_1016.trans (by decide)).symm
        refine lv_iload_n hx hb dX10_write_52 rfl (lv_at hl 2 rfl) ?_
        refine lv_iadd hx hb dX10_write_53 ?_
        refine lv_topi (fun v_1017 ev_1017 => ?_)
        have qv_1017 := ba_add ev_1017 (bkc (x := 0) (c := 0) (by decide)) h_1014 (by decide)
        have bv_1017 : (0 : Int) ≤ v_1017.toInt ∧ v_1017.toInt ≤ 59 := bq_add qv_1017 (bkc (x := 0) (c := 0) (by decide)) h_1014 _ _ (by decide)
        have qv_1017 : v_1017.toInt = (0) + a2.toInt := qv_1017
        refine lv_lload_n hx hb dX10_write_54 rfl (lv_at hl 3 rfl) ?_
        refine lv_aload_n hx hb dX10_write_55 rfl (lv_at hl 0 rfl) ?_
        refine va_get (D := G) (ci := 10) (v := .ref ob_width) (C := RX10) (T := TX10) (N := 41) hx hb hw0 inA_wsX100 hown hK.1 hP 0 rfl rfl 38 (by decide) (hw0 _ m_527) (fun _ h9 => h9) rfl dX10_write_56 ?_
        refine lv_iload_n hx hb dX10_write_59 rfl (lv_at hl 1 rfl) ?_
        refine va_iald hx hb hK.1 hP 2 1 rfl rfl (vi (bkc (x := 0) (c := 0) (by decide)) (by decide)) dX10_write_60 ?_
        refine lv_topi (fun v_1018 ev_1018 => ?_)
        have bv_1018 : (0 : Int) ≤ v_1018.toInt ∧ v_1018.toInt ≤ 3 := rd_b ev_1018 p_fob_width
        have yv_1018 : v_1018.toInt = (fob_width 0).toInt := congrArg Int32.toInt ev_1018
        refine cSlm (As := [.long a3, .int v_1018]) (rest := [.int v_1017, .ref ob_numbers]) ⟨hx, hb, hml, hown, hw0⟩ hA hK hP hD hS [] (gcut l G y _ a3 v_1018 bv_1018) rfl ⟨(callB_of 2 hw0 (gA m_412) rfl rfl rfl (hw0 _ m_41) (hw0 _ m_699) cb_X10_cut ⟨Nat.le_of_ble_eq_true rfl, Nat.le_of_ble_eq_true rfl⟩), (hw0 _ m_700)⟩ rfl hl.1 (Nat.le_of_ble_eq_true rfl) dX10_write_61 ⟨Nat.le_of_ble_eq_true rfl, Nat.le_of_ble_eq_true rfl⟩ (fun r_1019 w_1019 H locs hw_1019 hP hD hS => ?_)
        obtain ⟨v_1020, h_1021, er_1019, rfl⟩ := hw_1019
        subst r_1019
        obtain ⟨hP, hD⟩ : vPD G A H [(ce_X10 ob ob_thrown ob_world ob_images ob_hasImage ob_tape ob_taped ob_five ob_size ob_at ob_from ob_token ob_value ob_faultKind ob_faultPlace ob_fresh ob_parts ob_houses ob_houseMany ob_worthOf ob_byCall ob_over ob_bestSet ob_bestOver ob_bestWorth ob_row ob_tenDebts ob_tenMany ob_fewestBy ob_covered ob_queue ob_cameBy ob_parent ob_met ob_calls ob_callMany ob_calledOn ob_saved ob_many ob_width ob_numbers ob_moving), (ce_i4 y ob_many fob_many), (ce_i4 y ob_width fob_width), (ce_l240 y ob_numbers fob_numbers)] := ⟨hP, hD⟩
        have E_1022 := by have h9 := h_1021; rw [ev_1018] at h9; exact h9
        refine va_last hx hb hK.1 hP hD hS 3 2 rfl rfl (vi bv_1017 (by decide)) dX10_write_64 (fun H locs hP hD hS => ?_)
        generalize hf_1023 : (vp_updL fob_numbers (v_1017 : Int32).toNatClampNeg v_1020) = f_1023 at hP hD
        obtain ⟨hP, hD⟩ : vPD G A H [(ce_X10 ob ob_thrown ob_world ob_images ob_hasImage ob_tape ob_taped ob_five ob_size ob_at ob_from ob_token ob_value ob_faultKind ob_faultPlace ob_fresh ob_parts ob_houses ob_houseMany ob_worthOf ob_byCall ob_over ob_bestSet ob_bestOver ob_bestWorth ob_row ob_tenDebts ob_tenMany ob_fewestBy ob_covered ob_queue ob_cameBy ob_parent ob_met ob_calls ob_callMany ob_calledOn ob_saved ob_many ob_width ob_numbers ob_moving), (ce_i4 y ob_many fob_many), (ce_i4 y ob_width fob_width), (ce_l240 y ob_numbers f_1023)] := ⟨hP, hD⟩
        refine lv_iconst (v := 0) hx hb dX10_write_65 (by decide) ?_
        exact W.iret (v := 0) hx hb hr (fun t ht hW => ⟨⟨0, _, rfl, Or.inr (Or.inr (⟨f_1023, h_1014, by have h90 : Int32.toInt 0 = 0 := (by decide); omega, (updl_m hf_1023 (by omega) (by omega) E_1022), rfl, rfl⟩)), by rw [ht]; exact hP, hD⟩, hS.F ht⟩) hS.2.2 dX10_write_66
    · skip
      have nc_1006 := nb_eq (-1) (-1) c_1006 bv_1005 (bkc (x := (-1)) (c := -1) (by decide)) (by decide)
      refine lv_bipush (v := (-6)) hx hb dX10_write_20 (by decide) ?_
      exact W.iret (v := (-6)) hx hb hr (fun t ht hW => ⟨⟨(-6), _, rfl, Or.inl (⟨by have h90 : Int32.toInt (-6) = -6 := (by decide); have h91 : Int32.toInt 0 = 0 := (by decide); omega, rfl, rfl⟩), by rw [ht]; exact hP, hD⟩, hS.F ht⟩) hS.2.2 dX10_write_22

set_option maxHeartbeats 4000000 in
set_option maxRecDepth 100000 in
theorem frowM1 (l : Launch) (G : va_G) (y : Nat → ClassId) (sz : Nat) (ob : Nat) (a2 : Int32) (a3 : Int32) (ob_thrown : Int32) (ob_world : Nat) (ob_images : Nat) (ob_hasImage : Nat) (ob_tape : Nat) (ob_taped : Int32) (ob_five : Nat) (ob_size : Int32) (ob_at : Int32) (ob_from : Int32) (ob_token : Int32) (ob_value : Int32) (ob_faultKind : Int32) (ob_faultPlace : Int32) (ob_fresh : Nat) (ob_parts : Nat) (ob_houses : Nat) (ob_houseMany : Int32) (ob_worthOf : Nat) (ob_byCall : Nat) (ob_over : Nat) (ob_bestSet : Int32) (ob_bestOver : Int32) (ob_bestWorth : Int32) (ob_row : Nat) (ob_tenDebts : Nat) (ob_tenMany : Int32) (ob_fewestBy : Nat) (ob_covered : Nat) (ob_queue : Nat) (ob_cameBy : Nat) (ob_parent : Nat) (ob_met : Nat) (ob_calls : Nat) (ob_callMany : Int32) (ob_calledOn : Nat) (ob_saved : Nat) (ob_many : Nat) (ob_width : Nat) (ob_numbers : Nat) (ob_moving : Nat) (fob_many : Nat → Int32) (fob_width : Nat → Int32) (fob_numbers : Nat → Int64) (p_ob_taped : (0 : Int) ≤ ob_taped.toInt ∧ ob_taped.toInt ≤ 1400) (p_ob_size : (0 : Int) ≤ ob_size.toInt ∧ ob_size.toInt ≤ 1400) (p_ob_at : (0 : Int) ≤ ob_at.toInt ∧ ob_at.toInt ≤ 1400) (p_ob_from : (0 : Int) ≤ ob_from.toInt ∧ ob_from.toInt ≤ 1400) (p_ob_token : (0 : Int) ≤ ob_token.toInt ∧ ob_token.toInt ≤ 4) (p_ob_value : (0 : Int) ≤ ob_value.toInt ∧ ob_value.toInt ≤ 9999) (p_ob_faultKind : (0 : Int) ≤ ob_faultKind.toInt ∧ ob_faultKind.toInt ≤ 3) (p_ob_houseMany : (0 : Int) ≤ ob_houseMany.toInt ∧ ob_houseMany.toInt ≤ 10) (p_ob_bestSet : (0 : Int) ≤ ob_bestSet.toInt ∧ ob_bestSet.toInt ≤ 1023) (p_ob_bestOver : (-1 : Int) ≤ ob_bestOver.toInt ∧ ob_bestOver.toInt ≤ 180) (p_ob_tenMany : (0 : Int) ≤ ob_tenMany.toInt ∧ ob_tenMany.toInt ≤ 10) (p_ob_callMany : (0 : Int) ≤ ob_callMany.toInt ∧ ob_callMany.toInt ≤ 16) (p_fob_many : ∀ i, (-1 : Int) ≤ (fob_many i).toInt ∧ (fob_many i).toInt ≤ 60) (p_fob_width : ∀ i, (0 : Int) ≤ (fob_width i).toInt ∧ (fob_width i).toInt ≤ 3) : Met l yX10_row (Cond.code yX10_row cX10_row 5 (some .int) :: wAll) ({ frames := 2, cells := 0, slots := 0, locals := 45 }) (va_Pc [.ref ob, .int 1, .int a2, .int a3] (kp G y sz [(ce_X10 ob ob_thrown ob_world ob_images ob_hasImage ob_tape ob_taped ob_five ob_size ob_at ob_from ob_token ob_value ob_faultKind ob_faultPlace ob_fresh ob_parts ob_houses ob_houseMany ob_worthOf ob_byCall ob_over ob_bestSet ob_bestOver ob_bestWorth ob_row ob_tenDebts ob_tenMany ob_fewestBy ob_covered ob_queue ob_cameBy ob_parent ob_met ob_calls ob_callMany ob_calledOn ob_saved ob_many ob_width ob_numbers ob_moving), (ce_i4 y ob_many fob_many), (ce_i4 y ob_width fob_width), (ce_l240 y ob_numbers fob_numbers)])) (va_Qi (fun (r : Int32) (w : va_W) => ((a2.toInt < 0 ∨ 3 < a2.toInt ∨ 60 < a3.toInt) ∧ r = (-2) ∧ w = [(ce_X10 ob ob_thrown ob_world ob_images ob_hasImage ob_tape ob_taped ob_five ob_size ob_at ob_from ob_token ob_value ob_faultKind ob_faultPlace ob_fresh ob_parts ob_houses ob_houseMany ob_worthOf ob_byCall ob_over ob_bestSet ob_bestOver ob_bestWorth ob_row ob_tenDebts ob_tenMany ob_fewestBy ob_covered ob_queue ob_cameBy ob_parent ob_met ob_calls ob_callMany ob_calledOn ob_saved ob_many ob_width ob_numbers ob_moving), (ce_i4 y ob_many fob_many), (ce_i4 y ob_width fob_width), (ce_l240 y ob_numbers fob_numbers)]) ∨ (((0 : Int) ≤ a2.toInt ∧ a2.toInt ≤ 3) ∧ (0 ≤ a2.toInt ∧ a2.toInt ≤ 3 ∧ a3.toInt < 0) ∧ r = (-3) ∧ w = [(ce_X10 ob ob_thrown ob_world ob_images ob_hasImage ob_tape ob_taped ob_five ob_size ob_at ob_from ob_token ob_value ob_faultKind ob_faultPlace ob_fresh ob_parts ob_houses ob_houseMany ob_worthOf ob_byCall ob_over ob_bestSet ob_bestOver ob_bestWorth ob_row ob_tenDebts ob_tenMany ob_fewestBy ob_covered ob_queue ob_cameBy ob_parent ob_met ob_calls ob_callMany ob_calledOn ob_saved ob_many ob_width ob_numbers ob_moving), (ce_i4 y ob_many fob_many), (ce_i4 y ob_width fob_width), (ce_l240 y ob_numbers fob_numbers)]) ∨ (∃ (f_195 : Nat → Int32) (f_196 : Nat → Int32) (f_197 : Nat → Int64), (∀ i, (-1 : Int) ≤ (f_195 i).toInt ∧ (f_195 i).toInt ≤ 60) ∧ (∀ i, (0 : Int) ≤ (f_196 i).toInt ∧ (f_196 i).toInt ≤ 3) ∧ ((0 : Int) ≤ a2.toInt ∧ a2.toInt ≤ 3) ∧ ((0 : Int) ≤ a3.toInt ∧ a3.toInt ≤ 60) ∧ (0 ≤ a2.toInt ∧ a2.toInt ≤ 3 ∧ 0 ≤ a3.toInt ∧ a3.toInt ≤ 60) ∧ ((f_195 0).toInt = (fob_many 0).toInt) ∧ ((f_196 0).toInt = (fob_width 0).toInt) ∧ ((f_195 1).toInt = a3.toInt) ∧ ((f_196 1).toInt = a2.toInt) ∧ ((f_195 2).toInt = (fob_many 2).toInt) ∧ ((f_196 2).toInt = (fob_width 2).toInt) ∧ ((f_195 3).toInt = (fob_many 3).toInt) ∧ ((f_196 3).toInt = (fob_width 3).toInt) ∧ (zL f_197 fob_numbers 60 60) ∧ r = 0 ∧ w = [(ce_X10 ob ob_thrown ob_world ob_images ob_hasImage ob_tape ob_taped ob_five ob_size ob_at ob_from ob_token ob_value ob_faultKind ob_faultPlace ob_fresh ob_parts ob_houses ob_houseMany ob_worthOf ob_byCall ob_over ob_bestSet ob_bestOver ob_bestWorth ob_row ob_tenDebts ob_tenMany ob_fewestBy ob_covered ob_queue ob_cameBy ob_parent ob_met ob_calls ob_callMany ob_calledOn ob_saved ob_many ob_width ob_numbers ob_moving), (ce_i4 y ob_many f_195), (ce_i4 y ob_width f_196), (ce_l240 y ob_numbers f_197)])) (kq G (va_A [(ce_X10 ob ob_thrown ob_world ob_images ob_hasImage ob_tape ob_taped ob_five ob_size ob_at ob_from ob_token ob_value ob_faultKind ob_faultPlace ob_fresh ob_parts ob_houses ob_houseMany ob_worthOf ob_byCall ob_over ob_bestSet ob_bestOver ob_bestWorth ob_row ob_tenDebts ob_tenMany ob_fewestBy ob_covered ob_queue ob_cameBy ob_parent ob_met ob_calls ob_callMany ob_calledOn ob_saved ob_many ob_width ob_numbers ob_moving), (ce_i4 y ob_many fob_many), (ce_i4 y ob_width fob_width), (ce_l240 y ob_numbers fob_numbers)] sz)) (va_A [(ce_X10 ob ob_thrown ob_world ob_images ob_hasImage ob_tape ob_taped ob_five ob_size ob_at ob_from ob_token ob_value ob_faultKind ob_faultPlace ob_fresh ob_parts ob_houses ob_houseMany ob_worthOf ob_byCall ob_over ob_bestSet ob_bestOver ob_bestWorth ob_row ob_tenDebts ob_tenMany ob_fewestBy ob_covered ob_queue ob_cameBy ob_parent ob_met ob_calls ob_callMany ob_calledOn ob_saved ob_many ob_width ob_numbers ob_moving), (ce_i4 y ob_many fob_many), (ce_i4 y ob_width fob_width), (ce_l240 y ob_numbers fob_numbers)] sz)) 0 0 (va_A [(ce_X10 ob ob_thrown ob_world ob_images ob_hasImage ob_tape ob_taped ob_five ob_size ob_at ob_from ob_token ob_value ob_faultKind ob_faultPlace ob_fresh ob_parts ob_houses ob_houseMany ob_worthOf ob_byCall ob_over ob_bestSet ob_bestOver ob_bestWorth ob_row ob_tenDebts ob_tenMany ob_fewestBy ob_covered ob_queue ob_cameBy ob_parent ob_met ob_calls ob_callMany ob_calledOn ob_saved ob_many ob_width ob_numbers ob_moving), (ce_i4 y ob_many fob_many), (ce_i4 y ob_width fob_width), (ce_l240 y ob_numbers fob_numbers)] sz) := by
  refine Met.ofW (cc := cX10_row) (maxL := 5) (ret := (some .int)) (by decide) rfl ?_
  intro p e s m args below meth c s₁ B hml hv
  obtain ⟨rfl, hsz, hP, hK, hD0⟩ := hv
  have hx := B.exec
  have hb := B.bytes
  have hr := B.returns
  have hw0 : ∀ w ∈ wAll, w.before _ s = true := fun w h => atoms_spec (ws := Cond.code yX10_row cX10_row 5 (some .int) :: wAll) B.pre w (List.mem_cons_of_mem _ h)
  have hown : s.vm.findClass RX10 = some m.cls := findClass_of_methodNamed B.named
  subst hsz
  have hD := hD0.self (sz := s.heap.size)
  generalize hAe : va_A [(ce_X10 ob ob_thrown ob_world ob_images ob_hasImage ob_tape ob_taped ob_five ob_size ob_at ob_from ob_token ob_value ob_faultKind ob_faultPlace ob_fresh ob_parts ob_houses ob_houseMany ob_worthOf ob_byCall ob_over ob_bestSet ob_bestOver ob_bestWorth ob_row ob_tenDebts ob_tenMany ob_fewestBy ob_covered ob_queue ob_cameBy ob_parent ob_met ob_calls ob_callMany ob_calledOn ob_saved ob_many ob_width ob_numbers ob_moving), (ce_i4 y ob_many fob_many), (ce_i4 y ob_width fob_width), (ce_l240 y ob_numbers fob_numbers)] s.heap.size = A at hD ⊢
  have hA : ∀ q : Nat, s.heap.size ≤ q → A q := fun q h => by rw [← hAe]; exact Or.inr h
  have hS : va_S A s.heap s.heap [] := va_S.rf
  have hP : va_P G vwCl [(ce_X10 ob ob_thrown ob_world ob_images ob_hasImage ob_tape ob_taped ob_five ob_size ob_at ob_from ob_token ob_value ob_faultKind ob_faultPlace ob_fresh ob_parts ob_houses ob_houseMany ob_worthOf ob_byCall ob_over ob_bestSet ob_bestOver ob_bestWorth ob_row ob_tenDebts ob_tenMany ob_fewestBy ob_covered ob_queue ob_cameBy ob_parent ob_met ob_calls ob_callMany ob_calledOn ob_saved ob_many ob_width ob_numbers ob_moving), (ce_i4 y ob_many fob_many), (ce_i4 y ob_width fob_width), (ce_l240 y ob_numbers fob_numbers)] s.heap := hP
  have hl := lv_entry ([.ref ob, .int 1, .int a2, .int a3]) (n := 5) (Nat.le_of_ble_eq_true rfl)
  rw [lg_entry_eq]
  generalize (lg_sl ([.ref ob, .int 1, .int a2, .int a3]) ++ List.replicate (5 - (lg_sl ([.ref ob, .int 1, .int a2, .int a3])).length) Slot.unset).toArray = ls at hl ⊢
  have hl : lv_has ls 5 [(0, .ref ob), (1, .int 1), (2, .int a2), (3, .int a3)] := hl
  refine lv_iload_n hx hb dX10_row_0 rfl (lv_at hl 1 rfl) ?_
  refine cSim (As := [.int 1]) (rest := []) ⟨hx, hb, hml, hown, hw0⟩ hA hK hP hD hS [] (gisSlotM l G y _ 1 ) rfl ⟨(callB_of 1 hw0 (gA m_543) rfl rfl rfl (hw0 _ m_41) (hw0 _ m_433) cb_X10_isSlot ⟨Nat.le_of_ble_eq_true rfl, Nat.le_of_ble_eq_true rfl⟩), (hw0 _ m_434)⟩ rfl hl.1 (Nat.le_of_ble_eq_true rfl) dX10_row_1 ⟨Nat.le_of_ble_eq_true rfl, Nat.le_of_ble_eq_true rfl⟩ (fun r_1001 w_1001 H locs hw_1001 hP hD hS => ?_)
  rcases hw_1001 with ⟨h_1002, rfl, rfl⟩ | ⟨h_1003, h_1004, rfl, rfl⟩
  · skip
    exact False.elim (by have h9 : Int32.toInt 1 = 1 := (by decide); omega)
  · skip
    obtain ⟨hP, hD⟩ : vPD G A H [(ce_X10 ob ob_thrown ob_world ob_images ob_hasImage ob_tape ob_taped ob_five ob_size ob_at ob_from ob_token ob_value ob_faultKind ob_faultPlace ob_fresh ob_parts ob_houses ob_houseMany ob_worthOf ob_byCall ob_over ob_bestSet ob_bestOver ob_bestWorth ob_row ob_tenDebts ob_tenMany ob_fewestBy ob_covered ob_queue ob_cameBy ob_parent ob_met ob_calls ob_callMany ob_calledOn ob_saved ob_many ob_width ob_numbers ob_moving), (ce_i4 y ob_many fob_many), (ce_i4 y ob_width fob_width), (ce_l240 y ob_numbers fob_numbers)] := ⟨hP, hD⟩
    refine lv_if_eq (tgt := 25) hx hb dX10_row_4 (by decide) (fun c9 => absurd c9 (by decide)) (fun _ => ?_)
    refine lv_iload_n hx hb dX10_row_7 rfl (lv_at hl 2 rfl) ?_
    refine lv_i2l hx hb dX10_row_8 rfl ?_
    refine lv_lconst (v := 0) hx hb dX10_row_9 (by decide) ?_
    refine lv_ldc2 (own := RX10) (v := 3) hx hb hown (hw0 _ m_398) dX10_row_10 ?_
    refine cSim (As := [.long (a2).toInt64, .long 0, .long 3]) (rest := []) ⟨hx, hb, hml, hown, hw0⟩ hA hK hP hD hS [] (sX10_in l G y _ ((a2).toInt64) 0 3 ) rfl ⟨(callB_of 3 hw0 (gA m_516) rfl rfl rfl (hw0 _ m_41) (hw0 _ m_345) cb_X10_in ⟨Nat.le_of_ble_eq_true rfl, Nat.le_of_ble_eq_true rfl⟩), (hw0 _ m_346)⟩ rfl hl.1 (Nat.le_of_ble_eq_true rfl) dX10_row_13 ⟨Nat.le_of_ble_eq_true rfl, Nat.le_of_ble_eq_true rfl⟩ (fun r_1005 w_1005 H locs hw_1005 hP hD hS => ?_)
    rcases hw_1005 with ⟨h_1006, rfl, rfl⟩ | ⟨h_1007, rfl, rfl⟩
    · skip
      have h_1008 : a2.toInt < (0 : Int) ∨ (3 : Int) < a2.toInt := in_n h_1006 (Int32.toInt_toInt64 _) (by decide) (by decide)
      obtain ⟨hP, hD⟩ : vPD G A H [(ce_X10 ob ob_thrown ob_world ob_images ob_hasImage ob_tape ob_taped ob_five ob_size ob_at ob_from ob_token ob_value ob_faultKind ob_faultPlace ob_fresh ob_parts ob_houses ob_houseMany ob_worthOf ob_byCall ob_over ob_bestSet ob_bestOver ob_bestWorth ob_row ob_tenDebts ob_tenMany ob_fewestBy ob_covered ob_queue ob_cameBy ob_parent ob_met ob_calls ob_callMany ob_calledOn ob_saved ob_many ob_width ob_numbers ob_moving), (ce_i4 y ob_many fob_many), (ce_i4 y ob_width fob_width), (ce_l240 y ob_numbers fob_numbers)] := ⟨hP, hD⟩
      refine lv_if_eq (tgt := 25) hx hb dX10_row_16 (by decide) (fun _ => ?_) (fun c9 => absurd (by decide) c9)
      refine lv_bipush (v := (-2)) hx hb dX10_row_25 (by decide) ?_
      exact W.iret (v := (-2)) hx hb hr (fun t ht hW => ⟨⟨(-2), _, rfl, Or.inl (⟨by have h90 : Int32.toInt (-2) = -2 := (by decide); have h91 : Int32.toInt 1 = 1 := (by decide); omega, rfl, rfl⟩), by rw [ht]; exact hP, hD⟩, hS.F ht⟩) hS.2.2 dX10_row_27
    · skip
      have h_1009 : (0 : Int) ≤ a2.toInt ∧ a2.toInt ≤ (3 : Int) := in_y h_1007 (Int32.toInt_toInt64 _) (by decide) (by decide)
      have h_1010_0 := (btop a2)
      have h_1010_1 := True.intro
      have h_1010_2 := True.intro
      have h_1010 : (0 : Int) ≤ a2.toInt ∧ a2.toInt ≤ 3 := by omega
      obtain ⟨hP, hD⟩ : vPD G A H [(ce_X10 ob ob_thrown ob_world ob_images ob_hasImage ob_tape ob_taped ob_five ob_size ob_at ob_from ob_token ob_value ob_faultKind ob_faultPlace ob_fresh ob_parts ob_houses ob_houseMany ob_worthOf ob_byCall ob_over ob_bestSet ob_bestOver ob_bestWorth ob_row ob_tenDebts ob_tenMany ob_fewestBy ob_covered ob_queue ob_cameBy ob_parent ob_met ob_calls ob_callMany ob_calledOn ob_saved ob_many ob_width ob_numbers ob_moving), (ce_i4 y ob_many fob_many), (ce_i4 y ob_width fob_width), (ce_l240 y ob_numbers fob_numbers)] := ⟨hP, hD⟩
      refine lv_if_eq (tgt := 25) hx hb dX10_row_16 (by decide) (fun c9 => absurd c9 (by decide)) (fun _ => ?_)
      refine lv_iload_n hx hb dX10_row_19 rfl (lv_at hl 3 rfl) ?_
      refine lv_bipush (v := 60) hx hb dX10_row_20 (by decide) ?_
      refine lv_icmp_le (tgt := 28) hx hb dX10_row_22 (by decide) (fun c_1011 => ?_) (fun c_1011 => ?_)
      · skip
        have nc_1011 := nb_le (60) (60) c_1011 (btop a3) (bkc (x := 60) (c := 60) (by decide)) (by decide)
        refine lv_iload_n hx hb dX10_row_28 rfl (lv_at hl 3 rfl) ?_
        refine lv_if_ge (tgt := 35) hx hb dX10_row_29 (by decide) (fun c_1012 => ?_) (fun c_1012 => ?_)
        · skip
          have nc_1012 := nb_le (0) (0) c_1012 (bkc (x := 0) (c := 0) (by decide)) nc_1011.1 (by decide)
          refine lv_aload_n hx hb dX10_row_35 rfl (lv_at hl 0 rfl) ?_
          refine va_get (D := G) (ci := 10) (v := .ref ob_many) (C := RX10) (T := TX10) (N := 41) hx hb hw0 inA_wsX100 hown hK.1 hP 0 rfl rfl 37 (by decide) (hw0 _ m_406) (fun _ h9 => h9) rfl dX10_row_36 ?_
          refine lv_iload_n hx hb dX10_row_39 rfl (lv_at hl 1 rfl) ?_
          refine lv_iload_n hx hb dX10_row_40 rfl (lv_at hl 3 rfl) ?_
          refine va_iast hx hb hK.1 hP hD hS 1 1 rfl rfl (vi (bkc (x := 1) (c := 1) (by decide)) (by decide)) dX10_row_41 (fun H locs hP hD hS => ?_)
          generalize hf_1013 : (upd fob_many (1 : Int32).toNatClampNeg a3) = f_1013 at hP hD
          have bf_1013 : ∀ i, (-1 : Int) ≤ (f_1013 i).toInt ∧ (f_1013 i).toInt ≤ 60 := hf_1013 ▸ up_b p_fob_many (bw (-1) (60) nc_1012.2.1 (by decide))
          have zf_1013_0 : (f_1013 0).toInt = (fob_many 0).toInt := hf_1013 ▸ pin_ne (ix_not (bkc (x := 1) (c := 1) (by decide)) (by decide))
          have zf_1013_1 : (f_1013 1).toInt = (a3 : Int32).toInt := hf_1013 ▸ pin_eq (by decide)
          have zf_1013_2 : (f_1013 2).toInt = (fob_many 2).toInt := hf_1013 ▸ pin_ne (ix_not (bkc (x := 1) (c := 1) (by decide)) (by decide))
          have zf_1013_3 : (f_1013 3).toInt = (fob_many 3).toInt := hf_1013 ▸ pin_ne (ix_not (bkc (x := 1) (c := 1) (by decide)) (by decide))
          obtain ⟨hP, hD⟩ : vPD G A H [(ce_X10 ob ob_thrown ob_world ob_images ob_hasImage ob_tape ob_taped ob_five ob_size ob_at ob_from ob_token ob_value ob_faultKind ob_faultPlace ob_fresh ob_parts ob_houses ob_houseMany ob_worthOf ob_byCall ob_over ob_bestSet ob_bestOver ob_bestWorth ob_row ob_tenDebts ob_tenMany ob_fewestBy ob_covered ob_queue ob_cameBy ob_parent ob_met ob_calls ob_callMany ob_calledOn ob_saved ob_many ob_width ob_numbers ob_moving), (ce_i4 y ob_many f_1013), (ce_i4 y ob_width fob_width), (ce_l240 y ob_numbers fob_numbers)] := ⟨hP, hD⟩
          refine lv_aload_n hx hb dX10_row_42 rfl (lv_at hl 0 rfl) ?_
          refine va_get (D := G) (ci := 10) (v := .ref ob_width) (C := RX10) (T := TX10) (N := 41) hx hb hw0 inA_wsX100 hown hK.1 hP 0 rfl rfl 38 (by decide) (hw0 _ m_527) (fun _ h9 => h9) rfl dX10_row_43 ?_
          refine lv_iload_n hx hb dX10_row_46 rfl (lv_at hl 1 rfl) ?_
          refine lv_iload_n hx hb dX10_row_47 rfl (lv_at hl 2 rfl) ?_
          refine va_iast hx hb hK.1 hP hD hS 2 1 rfl rfl (vi (bkc (x := 1) (c := 1) (by decide)) (by decide)) dX10_row_48 (fun H locs hP hD hS => ?_)
          generalize hf_1014 : (upd fob_width (1 : Int32).toNatClampNeg a2) = f_1014 at hP hD
          have bf_1014 : ∀ i, (0 : Int) ≤ (f_1014 i).toInt ∧ (f_1014 i).toInt ≤ 3 := hf_1014 ▸ up_b p_fob_width h_1010
          have zf_1014_0 : (f_1014 0).toInt = (fob_width 0).toInt := hf_1014 ▸ pin_ne (ix_not (bkc (x := 1) (c := 1) (by decide)) (by decide))
          have zf_1014_1 : (f_1014 1).toInt = (a2 : Int32).toInt := hf_1014 ▸ pin_eq (by decide)
          have zf_1014_2 : (f_1014 2).toInt = (fob_width 2).toInt := hf_1014 ▸ pin_ne (ix_not (bkc (x := 1) (c := 1) (by decide)) (by decide))
          have zf_1014_3 : (f_1014 3).toInt = (fob_width 3).toInt := hf_1014 ▸ pin_ne (ix_not (bkc (x := 1) (c := 1) (by decide)) (by decide))
          obtain ⟨hP, hD⟩ : vPD G A H [(ce_X10 ob ob_thrown ob_world ob_images ob_hasImage ob_tape ob_taped ob_five ob_size ob_at ob_from ob_token ob_value ob_faultKind ob_faultPlace ob_fresh ob_parts ob_houses ob_houseMany ob_worthOf ob_byCall ob_over ob_bestSet ob_bestOver ob_bestWorth ob_row ob_tenDebts ob_tenMany ob_fewestBy ob_covered ob_queue ob_cameBy ob_parent ob_met ob_calls ob_callMany ob_calledOn ob_saved ob_many ob_width ob_numbers ob_moving), (ce_i4 y ob_many f_1013), (ce_i4 y ob_width f_1014), (ce_l240 y ob_numbers fob_numbers)] := ⟨hP, hD⟩
          refine lv_iconst (v := 0) hx hb dX10_row_49 (by decide) ?_
          refine lv_istore (lv' := [(4, .int 0), (0, .ref ob), (1, .int 1), (2, .int a2), (3, .int a3)]) hx hb dX10_row_50 hl (by decide) rfl (fun ls hl => ?_)
          refine loopX (fun n H locs ls st => ∃ (v_1086 : Int32) (f_1087 : Nat → Int64), (60 - v_1086.toInt).toNat = n ∧ ((0 : Int) ≤ v_1086.toInt ∧ v_1086.toInt ≤ 60) ∧ (zL f_1087 fob_numbers 60 v_1086.toInt) ∧ st = [] ∧ vPD G A H [(ce_X10 ob ob_thrown ob_world ob_images ob_hasImage ob_tape ob_taped ob_five ob_size ob_at ob_from ob_token ob_value ob_faultKind ob_faultPlace ob_fresh ob_parts ob_houses ob_houseMany ob_worthOf ob_byCall ob_over ob_bestSet ob_bestOver ob_bestWorth ob_row ob_tenDebts ob_tenMany ob_fewestBy ob_covered ob_queue ob_cameBy ob_parent ob_met ob_calls ob_callMany ob_calledOn ob_saved ob_many ob_width ob_numbers ob_moving), (ce_i4 y ob_many f_1013), (ce_i4 y ob_width f_1014), (ce_l240 y ob_numbers f_1087)] ∧ va_S A s.heap H locs ∧ lv_has ls 5 [(4, .int v_1086), (0, .ref ob), (1, .int 1)]) ?_ (n := (60 - (0 : Int32).toInt).toNat) ⟨0, fob_numbers, rfl, (bw (0) (60) (bkc (x := 0) (c := 0) (by decide)) (by decide)), (zl_0 (by have h90 : Int32.toInt 0 = 0 := (by decide); have h91 : Int32.toInt 1 = 1 := (by decide); omega)), rfl, ⟨hP, hD⟩, hS, lv_sub hl [0, 1, 2] rfl⟩
          rintro n ih_1092 H locs ls st ⟨v_1086, f_1087, hn_1092, bv_1086, rl1087_0, rfl, ⟨hP, hD⟩, hS, hl⟩
          refine lv_iload hx hb dX10_row_52 (lv_at hl 0 rfl) ?_
          refine lv_bipush (v := 60) hx hb dX10_row_54 (by decide) ?_
          refine lv_icmp_ge (tgt := 78) hx hb dX10_row_56 (by decide) (fun c_1093 => ?_) (fun c_1093 => ?_)
          · skip
            have nc_1093 := nb_le (60) (60) c_1093 (bkc (x := 60) (c := 60) (by decide)) bv_1086 (by decide)
            refine lv_iconst (v := 0) hx hb dX10_row_78 (by decide) ?_
            exact W.iret (v := 0) hx hb hr (fun t ht hW => ⟨⟨0, _, rfl, Or.inr (Or.inr (⟨f_1013, f_1014, f_1087, bf_1013, bf_1014, h_1010, nc_1012.2.1, by have h90 : Int32.toInt 0 = 0 := (by decide); have h91 : Int32.toInt 1 = 1 := (by decide); omega, by have h90 : Int32.toInt 0 = 0 := (by decide); have h91 : Int32.toInt 1 = 1 := (by decide); omega, by have h90 : Int32.toInt 0 = 0 := (by decide); have h91 : Int32.toInt 1 = 1 := (by decide); omega, by have h90 : Int32.toInt 0 = 0 := (by decide); have h91 : Int32.toInt 1 = 1 := (by decide); omega, by have h90 : Int32.toInt 0 = 0 := (by decide); have h91 : Int32.toInt 1 = 1 := (by decide); omega, by have h90 : Int32.toInt 0 = 0 := (by decide); have h91 : Int32.toInt 1 = 1 := (by decide); omega, by have h90 : Int32.toInt 0 = 0 := (by decide); have h91 : Int32.toInt 1 = 1 := (by decide); omega, by have h90 : Int32.toInt 0 = 0 := (by decide); have h91 : Int32.toInt 1 = 1 := (by decide); omega, by have h90 : Int32.toInt 0 = 0 := (by decide); have h91 : Int32.toInt 1 = 1 := (by decide); omega, (zl_e rl1087_0 (by omega)), rfl, rfl⟩)), by rw [ht]; exact hP, hD⟩, hS.F ht⟩) hS.2.2 dX10_row_79
          · skip
            have nc_1093 := nb_nle (59) (60) c_1093 bv_1086 (bkc (x := 60) (c := 60) (by decide)) (by decide)
            refine lv_aload_n hx hb dX10_row_59 rfl (lv_at hl 1 rfl) ?_
            refine va_get (D := G) (ci := 10) (v := .ref ob_numbers) (C := RX10) (T := TX10) (N := 41) hx hb hw0 inA_wsX100 hown hK.1 hP 0 rfl rfl 39 (by decide) (hw0 _ m_435) (fun _ h9 => h9) rfl dX10_row_60 ?_
            refine lv_bipush (v := 60) hx hb dX10_row_63 (by decide) ?_
            refine lv_iload_n hx hb dX10_row_65 rfl (lv_at hl 2 rfl) ?_
            refine lv_imul hx hb dX10_row_66 ?_
            refine lv_topi (fun v_1094 ev_1094 => ?_)
            obtain rfl : 60 = v_1094 := (ev_1094.trans (by decide)).symm
            refine lv_iload hx hb dX10_row_67 (lv_at hl 0 rfl) ?_
            refine lv_iadd hx hb dX10_row_69 ?_
            refine lv_topi (fun v_1095 ev_1095 => ?_)
            have qv_1095 := ba_add ev_1095 (bkc (x := 60) (c := 60) (by decide)) nc_1093.1 (by decide)
            have bv_1095 : (60 : Int) ≤ v_1095.toInt ∧ v_1095.toInt ≤ 119 := bq_add qv_1095 (bkc (x := 60) (c := 60) (by decide)) nc_1093.1 _ _ (by decide)
            have qv_1095 : v_1095.toInt = (60) + v_1086.toInt := qv_1095
            refine lv_lconst (v := 0) hx hb dX10_row_70 (by decide) ?_
            refine va_last hx hb hK.1 hP hD hS 3 2 rfl rfl (vi bv_1095 (by decide)) dX10_row_71 (fun H locs hP hD hS => ?_)
            generalize hf_1096 : (vp_updL f_1087 (v_1095 : Int32).toNatClampNeg 0) = f_1096 at hP hD
            obtain ⟨hP, hD⟩ : vPD G A H [(ce_X10 ob ob_thrown ob_world ob_images ob_hasImage ob_tape ob_taped ob_five ob_size ob_at ob_from ob_token ob_value ob_faultKind ob_faultPlace ob_fresh ob_parts ob_houses ob_houseMany ob_worthOf ob_byCall ob_over ob_bestSet ob_bestOver ob_bestWorth ob_row ob_tenDebts ob_tenMany ob_fewestBy ob_covered ob_queue ob_cameBy ob_parent ob_met ob_calls ob_callMany ob_calledOn ob_saved ob_many ob_width ob_numbers ob_moving), (ce_i4 y ob_many f_1013), (ce_i4 y ob_width f_1014), (ce_l240 y ob_numbers f_1096)] := ⟨hP, hD⟩
            obtain ⟨v_1097, ev_1097⟩ : ∃ z : Int32, z = v_1086 + 1 := ⟨_, rfl⟩
            have qv_1097 := ba_add ev_1097 nc_1093.1 (bkc (x := 1) (c := 1) (by decide)) (by decide)
            have bv_1097 : (1 : Int) ≤ v_1097.toInt ∧ v_1097.toInt ≤ 60 := bq_add qv_1097 nc_1093.1 (bkc (x := 1) (c := 1) (by decide)) _ _ (by decide)
            have qv_1097 : v_1097.toInt = v_1086.toInt + (1) := qv_1097
            refine lv_iinc (v := v_1097) (lv' := [(4, .int v_1097), (0, .ref ob), (1, .int 1)]) hx hb dX10_row_72 hl (k := 0) rfl (ev_1097.symm) (by decide) rfl (fun ls hl => ?_)
            refine lv_goto (tgt := 52) hx hb dX10_row_75 (by decide) ?_
            exact ih_1092 _ (ml_inc (hi := 60) hn_1092 qv_1097 (by decide) ((bw (0) (60) bv_1097 (by decide))).2) _ _ _ _ ⟨v_1097, f_1096, rfl, (bw (0) (60) bv_1097 (by decide)), (zl_s rl1087_0 hf_1096 (by omega) ⟨by omega, by omega⟩ (by omega)), rfl, ⟨hP, hD⟩, hS, lv_sub hl [0, 1, 2] rfl⟩
        · skip
          have nc_1012 := nb_nle (-1) (0) c_1012 nc_1011.1 (bkc (x := 0) (c := 0) (by decide)) (by decide)
          refine lv_bipush (v := (-3)) hx hb dX10_row_32 (by decide) ?_
          exact W.iret (v := (-3)) hx hb hr (fun t ht hW => ⟨⟨(-3), _, rfl, Or.inr (Or.inl (⟨h_1010, by have h90 : Int32.toInt (-3) = -3 := (by decide); have h91 : Int32.toInt 1 = 1 := (by decide); omega, rfl, rfl⟩)), by rw [ht]; exact hP, hD⟩, hS.F ht⟩) hS.2.2 dX10_row_34
      · skip
        have nc_1011 := nb_nle (60) (61) c_1011 (bkc (x := 60) (c := 60) (by decide)) (btop a3) (by decide)
        refine lv_bipush (v := (-2)) hx hb dX10_row_25 (by decide) ?_
        exact W.iret (v := (-2)) hx hb hr (fun t ht hW => ⟨⟨(-2), _, rfl, Or.inl (⟨by have h90 : Int32.toInt (-2) = -2 := (by decide); have h91 : Int32.toInt 1 = 1 := (by decide); omega, rfl, rfl⟩), by rw [ht]; exact hP, hD⟩, hS.F ht⟩) hS.2.2 dX10_row_27

set_option maxHeartbeats 4000000 in
set_option maxRecDepth 100000 in
theorem fwriteM1 (l : Launch) (G : va_G) (y : Nat → ClassId) (sz : Nat) (ob : Nat) (a2 : Int32) (a3 : Int64) (ob_thrown : Int32) (ob_world : Nat) (ob_images : Nat) (ob_hasImage : Nat) (ob_tape : Nat) (ob_taped : Int32) (ob_five : Nat) (ob_size : Int32) (ob_at : Int32) (ob_from : Int32) (ob_token : Int32) (ob_value : Int32) (ob_faultKind : Int32) (ob_faultPlace : Int32) (ob_fresh : Nat) (ob_parts : Nat) (ob_houses : Nat) (ob_houseMany : Int32) (ob_worthOf : Nat) (ob_byCall : Nat) (ob_over : Nat) (ob_bestSet : Int32) (ob_bestOver : Int32) (ob_bestWorth : Int32) (ob_row : Nat) (ob_tenDebts : Nat) (ob_tenMany : Int32) (ob_fewestBy : Nat) (ob_covered : Nat) (ob_queue : Nat) (ob_cameBy : Nat) (ob_parent : Nat) (ob_met : Nat) (ob_calls : Nat) (ob_callMany : Int32) (ob_calledOn : Nat) (ob_saved : Nat) (ob_many : Nat) (ob_width : Nat) (ob_numbers : Nat) (ob_moving : Nat) (fob_many : Nat → Int32) (fob_width : Nat → Int32) (fob_numbers : Nat → Int64) (p_ob_taped : (0 : Int) ≤ ob_taped.toInt ∧ ob_taped.toInt ≤ 1400) (p_ob_size : (0 : Int) ≤ ob_size.toInt ∧ ob_size.toInt ≤ 1400) (p_ob_at : (0 : Int) ≤ ob_at.toInt ∧ ob_at.toInt ≤ 1400) (p_ob_from : (0 : Int) ≤ ob_from.toInt ∧ ob_from.toInt ≤ 1400) (p_ob_token : (0 : Int) ≤ ob_token.toInt ∧ ob_token.toInt ≤ 4) (p_ob_value : (0 : Int) ≤ ob_value.toInt ∧ ob_value.toInt ≤ 9999) (p_ob_faultKind : (0 : Int) ≤ ob_faultKind.toInt ∧ ob_faultKind.toInt ≤ 3) (p_ob_houseMany : (0 : Int) ≤ ob_houseMany.toInt ∧ ob_houseMany.toInt ≤ 10) (p_ob_bestSet : (0 : Int) ≤ ob_bestSet.toInt ∧ ob_bestSet.toInt ≤ 1023) (p_ob_bestOver : (-1 : Int) ≤ ob_bestOver.toInt ∧ ob_bestOver.toInt ≤ 180) (p_ob_tenMany : (0 : Int) ≤ ob_tenMany.toInt ∧ ob_tenMany.toInt ≤ 10) (p_ob_callMany : (0 : Int) ≤ ob_callMany.toInt ∧ ob_callMany.toInt ≤ 16) (p_fob_many : ∀ i, (-1 : Int) ≤ (fob_many i).toInt ∧ (fob_many i).toInt ≤ 60) (p_fob_width : ∀ i, (0 : Int) ≤ (fob_width i).toInt ∧ (fob_width i).toInt ≤ 3) : Met l yX10_write (Cond.code yX10_write cX10_write 5 (some .int) :: wAll) ({ frames := 2, cells := 0, slots := 0, locals := 45 }) (va_Pc [.ref ob, .int 1, .int a2, .long a3] (kp G y sz [(ce_X10 ob ob_thrown ob_world ob_images ob_hasImage ob_tape ob_taped ob_five ob_size ob_at ob_from ob_token ob_value ob_faultKind ob_faultPlace ob_fresh ob_parts ob_houses ob_houseMany ob_worthOf ob_byCall ob_over ob_bestSet ob_bestOver ob_bestWorth ob_row ob_tenDebts ob_tenMany ob_fewestBy ob_covered ob_queue ob_cameBy ob_parent ob_met ob_calls ob_callMany ob_calledOn ob_saved ob_many ob_width ob_numbers ob_moving), (ce_i4 y ob_many fob_many), (ce_i4 y ob_width fob_width), (ce_l240 y ob_numbers fob_numbers)])) (va_Qi (fun (r : Int32) (w : va_W) => (((fob_many 1).toInt = -1) ∧ r = (-6) ∧ w = [(ce_X10 ob ob_thrown ob_world ob_images ob_hasImage ob_tape ob_taped ob_five ob_size ob_at ob_from ob_token ob_value ob_faultKind ob_faultPlace ob_fresh ob_parts ob_houses ob_houseMany ob_worthOf ob_byCall ob_over ob_bestSet ob_bestOver ob_bestWorth ob_row ob_tenDebts ob_tenMany ob_fewestBy ob_covered ob_queue ob_cameBy ob_parent ob_met ob_calls ob_callMany ob_calledOn ob_saved ob_many ob_width ob_numbers ob_moving), (ce_i4 y ob_many fob_many), (ce_i4 y ob_width fob_width), (ce_l240 y ob_numbers fob_numbers)]) ∨ ((¬ (fob_many 1).toInt = -1 ∧ (a2.toInt < 0 ∨ (fob_many 1).toInt ≤ a2.toInt)) ∧ r = (-7) ∧ w = [(ce_X10 ob ob_thrown ob_world ob_images ob_hasImage ob_tape ob_taped ob_five ob_size ob_at ob_from ob_token ob_value ob_faultKind ob_faultPlace ob_fresh ob_parts ob_houses ob_houseMany ob_worthOf ob_byCall ob_over ob_bestSet ob_bestOver ob_bestWorth ob_row ob_tenDebts ob_tenMany ob_fewestBy ob_covered ob_queue ob_cameBy ob_parent ob_met ob_calls ob_callMany ob_calledOn ob_saved ob_many ob_width ob_numbers ob_moving), (ce_i4 y ob_many fob_many), (ce_i4 y ob_width fob_width), (ce_l240 y ob_numbers fob_numbers)]) ∨ (∃ (f_47 : Nat → Int64), ((0 : Int) ≤ a2.toInt ∧ a2.toInt ≤ 59) ∧ (¬ (fob_many 1).toInt = -1 ∧ 0 ≤ a2.toInt ∧ a2.toInt < (fob_many 1).toInt) ∧ (f_47 = vp_updL fob_numbers (60 + a2.toInt.toNat) (qcut (fob_width 1) a3)) ∧ r = 0 ∧ w = [(ce_X10 ob ob_thrown ob_world ob_images ob_hasImage ob_tape ob_taped ob_five ob_size ob_at ob_from ob_token ob_value ob_faultKind ob_faultPlace ob_fresh ob_parts ob_houses ob_houseMany ob_worthOf ob_byCall ob_over ob_bestSet ob_bestOver ob_bestWorth ob_row ob_tenDebts ob_tenMany ob_fewestBy ob_covered ob_queue ob_cameBy ob_parent ob_met ob_calls ob_callMany ob_calledOn ob_saved ob_many ob_width ob_numbers ob_moving), (ce_i4 y ob_many fob_many), (ce_i4 y ob_width fob_width), (ce_l240 y ob_numbers f_47)])) (kq G (va_A [(ce_X10 ob ob_thrown ob_world ob_images ob_hasImage ob_tape ob_taped ob_five ob_size ob_at ob_from ob_token ob_value ob_faultKind ob_faultPlace ob_fresh ob_parts ob_houses ob_houseMany ob_worthOf ob_byCall ob_over ob_bestSet ob_bestOver ob_bestWorth ob_row ob_tenDebts ob_tenMany ob_fewestBy ob_covered ob_queue ob_cameBy ob_parent ob_met ob_calls ob_callMany ob_calledOn ob_saved ob_many ob_width ob_numbers ob_moving), (ce_i4 y ob_many fob_many), (ce_i4 y ob_width fob_width), (ce_l240 y ob_numbers fob_numbers)] sz)) (va_A [(ce_X10 ob ob_thrown ob_world ob_images ob_hasImage ob_tape ob_taped ob_five ob_size ob_at ob_from ob_token ob_value ob_faultKind ob_faultPlace ob_fresh ob_parts ob_houses ob_houseMany ob_worthOf ob_byCall ob_over ob_bestSet ob_bestOver ob_bestWorth ob_row ob_tenDebts ob_tenMany ob_fewestBy ob_covered ob_queue ob_cameBy ob_parent ob_met ob_calls ob_callMany ob_calledOn ob_saved ob_many ob_width ob_numbers ob_moving), (ce_i4 y ob_many fob_many), (ce_i4 y ob_width fob_width), (ce_l240 y ob_numbers fob_numbers)] sz)) 0 0 (va_A [(ce_X10 ob ob_thrown ob_world ob_images ob_hasImage ob_tape ob_taped ob_five ob_size ob_at ob_from ob_token ob_value ob_faultKind ob_faultPlace ob_fresh ob_parts ob_houses ob_houseMany ob_worthOf ob_byCall ob_over ob_bestSet ob_bestOver ob_bestWorth ob_row ob_tenDebts ob_tenMany ob_fewestBy ob_covered ob_queue ob_cameBy ob_parent ob_met ob_calls ob_callMany ob_calledOn ob_saved ob_many ob_width ob_numbers ob_moving), (ce_i4 y ob_many fob_many), (ce_i4 y ob_width fob_width), (ce_l240 y ob_numbers fob_numbers)] sz) := by
  refine Met.ofW (cc := cX10_write) (maxL := 5) (ret := (some .int)) (by decide) rfl ?_
  intro p e s m args below meth c s₁ B hml hv
  obtain ⟨rfl, hsz, hP, hK, hD0⟩ := hv
  have hx := B.exec
  have hb := B.bytes
  have hr := B.returns
  have hw0 : ∀ w ∈ wAll, w.before _ s = true := fun w h => atoms_spec (ws := Cond.code yX10_write cX10_write 5 (some .int) :: wAll) B.pre w (List.mem_cons_of_mem _ h)
  have hown : s.vm.findClass RX10 = some m.cls := findClass_of_methodNamed B.named
  subst hsz
  have hD := hD0.self (sz := s.heap.size)
  generalize hAe : va_A [(ce_X10 ob ob_thrown ob_world ob_images ob_hasImage ob_tape ob_taped ob_five ob_size ob_at ob_from ob_token ob_value ob_faultKind ob_faultPlace ob_fresh ob_parts ob_houses ob_houseMany ob_worthOf ob_byCall ob_over ob_bestSet ob_bestOver ob_bestWorth ob_row ob_tenDebts ob_tenMany ob_fewestBy ob_covered ob_queue ob_cameBy ob_parent ob_met ob_calls ob_callMany ob_calledOn ob_saved ob_many ob_width ob_numbers ob_moving), (ce_i4 y ob_many fob_many), (ce_i4 y ob_width fob_width), (ce_l240 y ob_numbers fob_numbers)] s.heap.size = A at hD ⊢
  have hA : ∀ q : Nat, s.heap.size ≤ q → A q := fun q h => by rw [← hAe]; exact Or.inr h
  have hS : va_S A s.heap s.heap [] := va_S.rf
  have hP : va_P G vwCl [(ce_X10 ob ob_thrown ob_world ob_images ob_hasImage ob_tape ob_taped ob_five ob_size ob_at ob_from ob_token ob_value ob_faultKind ob_faultPlace ob_fresh ob_parts ob_houses ob_houseMany ob_worthOf ob_byCall ob_over ob_bestSet ob_bestOver ob_bestWorth ob_row ob_tenDebts ob_tenMany ob_fewestBy ob_covered ob_queue ob_cameBy ob_parent ob_met ob_calls ob_callMany ob_calledOn ob_saved ob_many ob_width ob_numbers ob_moving), (ce_i4 y ob_many fob_many), (ce_i4 y ob_width fob_width), (ce_l240 y ob_numbers fob_numbers)] s.heap := hP
  have hl := lv_entry ([.ref ob, .int 1, .int a2, .long a3]) (n := 5) (Nat.le_of_ble_eq_true rfl)
  rw [lg_entry_eq]
  generalize (lg_sl ([.ref ob, .int 1, .int a2, .long a3]) ++ List.replicate (5 - (lg_sl ([.ref ob, .int 1, .int a2, .long a3])).length) Slot.unset).toArray = ls at hl ⊢
  have hl : lv_has ls 5 [(0, .ref ob), (1, .int 1), (2, .int a2), (3, .long a3)] := hl
  refine lv_iload_n hx hb dX10_write_0 rfl (lv_at hl 1 rfl) ?_
  refine cSim (As := [.int 1]) (rest := []) ⟨hx, hb, hml, hown, hw0⟩ hA hK hP hD hS [] (gisSlotM l G y _ 1 ) rfl ⟨(callB_of 1 hw0 (gA m_543) rfl rfl rfl (hw0 _ m_41) (hw0 _ m_433) cb_X10_isSlot ⟨Nat.le_of_ble_eq_true rfl, Nat.le_of_ble_eq_true rfl⟩), (hw0 _ m_434)⟩ rfl hl.1 (Nat.le_of_ble_eq_true rfl) dX10_write_1 ⟨Nat.le_of_ble_eq_true rfl, Nat.le_of_ble_eq_true rfl⟩ (fun r_1001 w_1001 H locs hw_1001 hP hD hS => ?_)
  rcases hw_1001 with ⟨h_1002, rfl, rfl⟩ | ⟨h_1003, h_1004, rfl, rfl⟩
  · skip
    exact False.elim (by have h9 : Int32.toInt 1 = 1 := (by decide); omega)
  · skip
    obtain ⟨hP, hD⟩ : vPD G A H [(ce_X10 ob ob_thrown ob_world ob_images ob_hasImage ob_tape ob_taped ob_five ob_size ob_at ob_from ob_token ob_value ob_faultKind ob_faultPlace ob_fresh ob_parts ob_houses ob_houseMany ob_worthOf ob_byCall ob_over ob_bestSet ob_bestOver ob_bestWorth ob_row ob_tenDebts ob_tenMany ob_fewestBy ob_covered ob_queue ob_cameBy ob_parent ob_met ob_calls ob_callMany ob_calledOn ob_saved ob_many ob_width ob_numbers ob_moving), (ce_i4 y ob_many fob_many), (ce_i4 y ob_width fob_width), (ce_l240 y ob_numbers fob_numbers)] := ⟨hP, hD⟩
    refine lv_if_ne (tgt := 10) hx hb dX10_write_4 (by decide) (fun _ => ?_) (fun c9 => absurd c9 (by decide))
    refine lv_aload_n hx hb dX10_write_10 rfl (lv_at hl 0 rfl) ?_
    refine va_get (D := G) (ci := 10) (v := .ref ob_many) (C := RX10) (T := TX10) (N := 41) hx hb hw0 inA_wsX100 hown hK.1 hP 0 rfl rfl 37 (by decide) (hw0 _ m_406) (fun _ h9 => h9) rfl dX10_write_11 ?_
    refine lv_iload_n hx hb dX10_write_14 rfl (lv_at hl 1 rfl) ?_
    refine va_iald hx hb hK.1 hP 1 1 rfl rfl (vi (bkc (x := 1) (c := 1) (by decide)) (by decide)) dX10_write_15 ?_
    refine lv_topi (fun v_1005 ev_1005 => ?_)
    have bv_1005 : (-1 : Int) ≤ v_1005.toInt ∧ v_1005.toInt ≤ 60 := rd_b ev_1005 p_fob_many
    have yv_1005 : v_1005.toInt = (fob_many 1).toInt := congrArg Int32.toInt ev_1005
    refine lv_iconst (v := (-1)) hx hb dX10_write_16 (by decide) ?_
    refine lv_icmp_ne (tgt := 23) hx hb dX10_write_17 (by decide) (fun c_1006 => ?_) (fun c_1006 => ?_)
    · skip
      have nc_1006 := nb_ne (0) (60) c_1006 bv_1005 (k := -1) (by decide) (by decide)
      refine lv_iload_n hx hb dX10_write_23 rfl (lv_at hl 2 rfl) ?_
      refine lv_i2l hx hb dX10_write_24 rfl ?_
      refine lv_lconst (v := 0) hx hb dX10_write_25 (by decide) ?_
      refine lv_aload_n hx hb dX10_write_26 rfl (lv_at hl 0 rfl) ?_
      refine va_get (D := G) (ci := 10) (v := .ref ob_many) (C := RX10) (T := TX10) (N := 41) hx hb hw0 inA_wsX100 hown hK.1 hP 0 rfl rfl 37 (by decide) (hw0 _ m_406) (fun _ h9 => h9) rfl dX10_write_27 ?_
      refine lv_iload_n hx hb dX10_write_30 rfl (lv_at hl 1 rfl) ?_
      refine va_iald hx hb hK.1 hP 1 1 rfl rfl (vi (bkc (x := 1) (c := 1) (by decide)) (by decide)) dX10_write_31 ?_
      refine lv_topi (fun v_1007 ev_1007 => ?_)
      obtain rfl : v_1005 = v_1007 := (ev_1007.trans (ev_1005.symm)).symm
      refine lv_iconst (v := 1) hx hb dX10_write_32 (by decide) ?_
      refine lv_isub hx hb dX10_write_33 ?_
      refine lv_topi (fun v_1008 ev_1008 => ?_)
      have qv_1008 := ba_sub ev_1008 nc_1006.1 (bkc (x := 1) (c := 1) (by decide)) (by decide)
      have bv_1008 : (-1 : Int) ≤ v_1008.toInt ∧ v_1008.toInt ≤ 59 := bq_sub qv_1008 nc_1006.1 (bkc (x := 1) (c := 1) (by decide)) _ _ (by decide)
      have qv_1008 : v_1008.toInt = v_1005.toInt - (1) := qv_1008
      refine lv_i2l hx hb dX10_write_34 rfl ?_
      refine cSim (As := [.long (a2).toInt64, .long 0, .long (v_1008).toInt64]) (rest := []) ⟨hx, hb, hml, hown, hw0⟩ hA hK hP hD hS [] (sX10_in l G y _ ((a2).toInt64) 0 ((v_1008).toInt64) ) rfl ⟨(callB_of 3 hw0 (gA m_516) rfl rfl rfl (hw0 _ m_41) (hw0 _ m_345) cb_X10_in ⟨Nat.le_of_ble_eq_true rfl, Nat.le_of_ble_eq_true rfl⟩), (hw0 _ m_346)⟩ rfl hl.1 (Nat.le_of_ble_eq_true rfl) dX10_write_35 ⟨Nat.le_of_ble_eq_true rfl, Nat.le_of_ble_eq_true rfl⟩ (fun r_1009 w_1009 H locs hw_1009 hP hD hS => ?_)
      rcases hw_1009 with ⟨h_1010, rfl, rfl⟩ | ⟨h_1011, rfl, rfl⟩
      · skip
        have h_1012 : a2.toInt < (0 : Int) ∨ (v_1008.toInt : Int) < a2.toInt := in_n h_1010 (Int32.toInt_toInt64 _) (by decide) (Int32.toInt_toInt64 _)
        obtain ⟨hP, hD⟩ : vPD G A H [(ce_X10 ob ob_thrown ob_world ob_images ob_hasImage ob_tape ob_taped ob_five ob_size ob_at ob_from ob_token ob_value ob_faultKind ob_faultPlace ob_fresh ob_parts ob_houses ob_houseMany ob_worthOf ob_byCall ob_over ob_bestSet ob_bestOver ob_bestWorth ob_row ob_tenDebts ob_tenMany ob_fewestBy ob_covered ob_queue ob_cameBy ob_parent ob_met ob_calls ob_callMany ob_calledOn ob_saved ob_many ob_width ob_numbers ob_moving), (ce_i4 y ob_many fob_many), (ce_i4 y ob_width fob_width), (ce_l240 y ob_numbers fob_numbers)] := ⟨hP, hD⟩
        refine lv_if_ne (tgt := 44) hx hb dX10_write_38 (by decide) (fun c9 => absurd (by decide) c9) (fun _ => ?_)
        refine lv_bipush (v := (-7)) hx hb dX10_write_41 (by decide) ?_
        exact W.iret (v := (-7)) hx hb hr (fun t ht hW => ⟨⟨(-7), _, rfl, Or.inr (Or.inl (⟨by have h90 : Int32.toInt (-7) = -7 := (by decide); have h91 : Int32.toInt 1 = 1 := (by decide); omega, rfl, rfl⟩)), by rw [ht]; exact hP, hD⟩, hS.F ht⟩) hS.2.2 dX10_write_43
      · skip
        have h_1013 : (0 : Int) ≤ a2.toInt ∧ a2.toInt ≤ (v_1008.toInt : Int) := in_y h_1011 (Int32.toInt_toInt64 _) (by decide) (Int32.toInt_toInt64 _)
        have h_1014_0 := (btop a2)
        have h_1014_1 := True.intro
        have h_1014_2 := bv_1008
        have h_1014 : (0 : Int) ≤ a2.toInt ∧ a2.toInt ≤ 59 := by omega
        have h_1015 : (0 : Int) ≤ v_1008.toInt ∧ v_1008.toInt ≤ 59 := by have h9 := bv_1008; have h8 := h_1014; omega
        obtain ⟨hP, hD⟩ : vPD G A H [(ce_X10 ob ob_thrown ob_world ob_images ob_hasImage ob_tape ob_taped ob_five ob_size ob_at ob_from ob_token ob_value ob_faultKind ob_faultPlace ob_fresh ob_parts ob_houses ob_houseMany ob_worthOf ob_byCall ob_over ob_bestSet ob_bestOver ob_bestWorth ob_row ob_tenDebts ob_tenMany ob_fewestBy ob_covered ob_queue ob_cameBy ob_parent ob_met ob_calls ob_callMany ob_calledOn ob_saved ob_many ob_width ob_numbers ob_moving), (ce_i4 y ob_many fob_many), (ce_i4 y ob_width fob_width), (ce_l240 y ob_numbers fob_numbers)] := ⟨hP, hD⟩
        refine lv_if_ne (tgt := 44) hx hb dX10_write_38 (by decide) (fun _ => ?_) (fun c9 => absurd c9 (by decide))
        refine lv_aload_n hx hb dX10_write_44 rfl (lv_at hl 0 rfl) ?_
        refine va_get (D := G) (ci := 10) (v := .ref ob_numbers) (C := RX10) (T := TX10) (N := 41) hx hb hw0 inA_wsX100 hown hK.1 hP 0 rfl rfl 39 (by decide) (hw0 _ m_435) (fun _ h9 => h9) rfl dX10_write_45 ?_
        refine lv_bipush (v := 60) hx hb dX10_write_48 (by decide) ?_
        refine lv_iload_n hx hb dX10_write_50 rfl (lv_at hl 1 rfl) ?_
        refine lv_imul hx hb dX10_write_51 ?_
        refine lv_topi (fun v_1016 ev_1016 => ?_)
        obtain rfl : 60 = v_1016 := (ev_1016.trans (by decide)).symm
        refine lv_iload_n hx hb dX10_write_52 rfl (lv_at hl 2 rfl) ?_
        refine lv_iadd hx hb dX10_write_53 ?_
        refine lv_topi (fun v_1017 ev_1017 => ?_)
        have qv_1017 := ba_add ev_1017 (bkc (x := 60) (c := 60) (by decide)) h_1014 (by decide)
        have bv_1017 : (60 : Int) ≤ v_1017.toInt ∧ v_1017.toInt ≤ 119 := bq_add qv_1017 (bkc (x := 60) (c := 60) (by decide)) h_1014 _ _ (by decide)
        have qv_1017 : v_1017.toInt = (60) + a2.toInt := qv_1017
        refine lv_lload_n hx hb dX10_write_54 rfl (lv_at hl 3 rfl) ?_
        refine lv_aload_n hx hb dX10_write_55 rfl (lv_at hl 0 rfl) ?_
        refine va_get (D := G) (ci := 10) (v := .ref ob_width) (C := RX10) (T := TX10) (N := 41) hx hb hw0 inA_wsX100 hown hK.1 hP 0 rfl rfl 38 (by decide) (hw0 _ m_527) (fun _ h9 => h9) rfl dX10_write_56 ?_
        refine lv_iload_n hx hb dX10_write_59 rfl (lv_at hl 1 rfl) ?_
        refine va_iald hx hb hK.1 hP 2 1 rfl rfl (vi (bkc (x := 1) (c := 1) (by decide)) (by decide)) dX10_write_60 ?_
        refine lv_topi (fun v_1018 ev_1018 => ?_)
        have bv_1018 : (0 : Int) ≤ v_1018.toInt ∧ v_1018.toInt ≤ 3 := rd_b ev_1018 p_fob_width
        have yv_1018 : v_1018.toInt = (fob_width 1).toInt := congrArg Int32.toInt ev_1018
        refine cSlm (As := [.long a3, .int v_1018]) (rest := [.int v_1017, .ref ob_numbers]) ⟨hx, hb, hml, hown, hw0⟩ hA hK hP hD hS [] (gcut l G y _ a3 v_1018 bv_1018) rfl ⟨(callB_of 2 hw0 (gA m_412) rfl rfl rfl (hw0 _ m_41) (hw0 _ m_699) cb_X10_cut ⟨Nat.le_of_ble_eq_true rfl, Nat.le_of_ble_eq_true rfl⟩), (hw0 _ m_700)⟩ rfl hl.1 (Nat.le_of_ble_eq_true rfl) dX10_write_61 ⟨Nat.le_of_ble_eq_true rfl, Nat.le_of_ble_eq_true rfl⟩ (fun r_1019 w_1019 H locs hw_1019 hP hD hS => ?_)
        obtain ⟨v_1020, h_1021, er_1019, rfl⟩ := hw_1019
        subst r_1019
        obtain ⟨hP, hD⟩ : vPD G A H [(ce_X10 ob ob_thrown ob_world ob_images ob_hasImage ob_tape ob_taped ob_five ob_size ob_at ob_from ob_token ob_value ob_faultKind ob_faultPlace ob_fresh ob_parts ob_houses ob_houseMany ob_worthOf ob_byCall ob_over ob_bestSet ob_bestOver ob_bestWorth ob_row ob_tenDebts ob_tenMany ob_fewestBy ob_covered ob_queue ob_cameBy ob_parent ob_met ob_calls ob_callMany ob_calledOn ob_saved ob_many ob_width ob_numbers ob_moving), (ce_i4 y ob_many fob_many), (ce_i4 y ob_width fob_width), (ce_l240 y ob_numbers fob_numbers)] := ⟨hP, hD⟩
        have E_1022 := by have h9 := h_1021; rw [ev_1018] at h9; exact h9
        refine va_last hx hb hK.1 hP hD hS 3 2 rfl rfl (vi bv_1017 (by decide)) dX10_write_64 (fun H locs hP hD hS => ?_)
        generalize hf_1023 : (vp_updL fob_numbers (v_1017 : Int32).toNatClampNeg v_1020) = f_1023 at hP hD
        obtain ⟨hP, hD⟩ : vPD G A H [(ce_X10 ob ob_thrown ob_world ob_images ob_hasImage ob_tape ob_taped ob_five ob_size ob_at ob_from ob_token ob_value ob_faultKind ob_faultPlace ob_fresh ob_parts ob_houses ob_houseMany ob_worthOf ob_byCall ob_over ob_bestSet ob_bestOver ob_bestWorth ob_row ob_tenDebts ob_tenMany ob_fewestBy ob_covered ob_queue ob_cameBy ob_parent ob_met ob_calls ob_callMany ob_calledOn ob_saved ob_many ob_width ob_numbers ob_moving), (ce_i4 y ob_many fob_many), (ce_i4 y ob_width fob_width), (ce_l240 y ob_numbers f_1023)] := ⟨hP, hD⟩
        refine lv_iconst (v := 0) hx hb dX10_write_65 (by decide) ?_
        exact W.iret (v := 0) hx hb hr (fun t ht hW => ⟨⟨0, _, rfl, Or.inr (Or.inr (⟨f_1023, h_1014, by have h90 : Int32.toInt 0 = 0 := (by decide); have h91 : Int32.toInt 1 = 1 := (by decide); omega, (updl_m hf_1023 (by omega) (by omega) E_1022), rfl, rfl⟩)), by rw [ht]; exact hP, hD⟩, hS.F ht⟩) hS.2.2 dX10_write_66
    · skip
      have nc_1006 := nb_eq (-1) (-1) c_1006 bv_1005 (bkc (x := (-1)) (c := -1) (by decide)) (by decide)
      refine lv_bipush (v := (-6)) hx hb dX10_write_20 (by decide) ?_
      exact W.iret (v := (-6)) hx hb hr (fun t ht hW => ⟨⟨(-6), _, rfl, Or.inl (⟨by have h90 : Int32.toInt (-6) = -6 := (by decide); have h91 : Int32.toInt 1 = 1 := (by decide); omega, rfl, rfl⟩), by rw [ht]; exact hP, hD⟩, hS.F ht⟩) hS.2.2 dX10_write_22

set_option maxHeartbeats 4000000 in
set_option maxRecDepth 100000 in
theorem frowM2 (l : Launch) (G : va_G) (y : Nat → ClassId) (sz : Nat) (ob : Nat) (a2 : Int32) (a3 : Int32) (ob_thrown : Int32) (ob_world : Nat) (ob_images : Nat) (ob_hasImage : Nat) (ob_tape : Nat) (ob_taped : Int32) (ob_five : Nat) (ob_size : Int32) (ob_at : Int32) (ob_from : Int32) (ob_token : Int32) (ob_value : Int32) (ob_faultKind : Int32) (ob_faultPlace : Int32) (ob_fresh : Nat) (ob_parts : Nat) (ob_houses : Nat) (ob_houseMany : Int32) (ob_worthOf : Nat) (ob_byCall : Nat) (ob_over : Nat) (ob_bestSet : Int32) (ob_bestOver : Int32) (ob_bestWorth : Int32) (ob_row : Nat) (ob_tenDebts : Nat) (ob_tenMany : Int32) (ob_fewestBy : Nat) (ob_covered : Nat) (ob_queue : Nat) (ob_cameBy : Nat) (ob_parent : Nat) (ob_met : Nat) (ob_calls : Nat) (ob_callMany : Int32) (ob_calledOn : Nat) (ob_saved : Nat) (ob_many : Nat) (ob_width : Nat) (ob_numbers : Nat) (ob_moving : Nat) (fob_many : Nat → Int32) (fob_width : Nat → Int32) (fob_numbers : Nat → Int64) (p_ob_taped : (0 : Int) ≤ ob_taped.toInt ∧ ob_taped.toInt ≤ 1400) (p_ob_size : (0 : Int) ≤ ob_size.toInt ∧ ob_size.toInt ≤ 1400) (p_ob_at : (0 : Int) ≤ ob_at.toInt ∧ ob_at.toInt ≤ 1400) (p_ob_from : (0 : Int) ≤ ob_from.toInt ∧ ob_from.toInt ≤ 1400) (p_ob_token : (0 : Int) ≤ ob_token.toInt ∧ ob_token.toInt ≤ 4) (p_ob_value : (0 : Int) ≤ ob_value.toInt ∧ ob_value.toInt ≤ 9999) (p_ob_faultKind : (0 : Int) ≤ ob_faultKind.toInt ∧ ob_faultKind.toInt ≤ 3) (p_ob_houseMany : (0 : Int) ≤ ob_houseMany.toInt ∧ ob_houseMany.toInt ≤ 10) (p_ob_bestSet : (0 : Int) ≤ ob_bestSet.toInt ∧ ob_bestSet.toInt ≤ 1023) (p_ob_bestOver : (-1 : Int) ≤ ob_bestOver.toInt ∧ ob_bestOver.toInt ≤ 180) (p_ob_tenMany : (0 : Int) ≤ ob_tenMany.toInt ∧ ob_tenMany.toInt ≤ 10) (p_ob_callMany : (0 : Int) ≤ ob_callMany.toInt ∧ ob_callMany.toInt ≤ 16) (p_fob_many : ∀ i, (-1 : Int) ≤ (fob_many i).toInt ∧ (fob_many i).toInt ≤ 60) (p_fob_width : ∀ i, (0 : Int) ≤ (fob_width i).toInt ∧ (fob_width i).toInt ≤ 3) : Met l yX10_row (Cond.code yX10_row cX10_row 5 (some .int) :: wAll) ({ frames := 2, cells := 0, slots := 0, locals := 45 }) (va_Pc [.ref ob, .int 2, .int a2, .int a3] (kp G y sz [(ce_X10 ob ob_thrown ob_world ob_images ob_hasImage ob_tape ob_taped ob_five ob_size ob_at ob_from ob_token ob_value ob_faultKind ob_faultPlace ob_fresh ob_parts ob_houses ob_houseMany ob_worthOf ob_byCall ob_over ob_bestSet ob_bestOver ob_bestWorth ob_row ob_tenDebts ob_tenMany ob_fewestBy ob_covered ob_queue ob_cameBy ob_parent ob_met ob_calls ob_callMany ob_calledOn ob_saved ob_many ob_width ob_numbers ob_moving), (ce_i4 y ob_many fob_many), (ce_i4 y ob_width fob_width), (ce_l240 y ob_numbers fob_numbers)])) (va_Qi (fun (r : Int32) (w : va_W) => ((a2.toInt < 0 ∨ 3 < a2.toInt ∨ 60 < a3.toInt) ∧ r = (-2) ∧ w = [(ce_X10 ob ob_thrown ob_world ob_images ob_hasImage ob_tape ob_taped ob_five ob_size ob_at ob_from ob_token ob_value ob_faultKind ob_faultPlace ob_fresh ob_parts ob_houses ob_houseMany ob_worthOf ob_byCall ob_over ob_bestSet ob_bestOver ob_bestWorth ob_row ob_tenDebts ob_tenMany ob_fewestBy ob_covered ob_queue ob_cameBy ob_parent ob_met ob_calls ob_callMany ob_calledOn ob_saved ob_many ob_width ob_numbers ob_moving), (ce_i4 y ob_many fob_many), (ce_i4 y ob_width fob_width), (ce_l240 y ob_numbers fob_numbers)]) ∨ (((0 : Int) ≤ a2.toInt ∧ a2.toInt ≤ 3) ∧ (0 ≤ a2.toInt ∧ a2.toInt ≤ 3 ∧ a3.toInt < 0) ∧ r = (-3) ∧ w = [(ce_X10 ob ob_thrown ob_world ob_images ob_hasImage ob_tape ob_taped ob_five ob_size ob_at ob_from ob_token ob_value ob_faultKind ob_faultPlace ob_fresh ob_parts ob_houses ob_houseMany ob_worthOf ob_byCall ob_over ob_bestSet ob_bestOver ob_bestWorth ob_row ob_tenDebts ob_tenMany ob_fewestBy ob_covered ob_queue ob_cameBy ob_parent ob_met ob_calls ob_callMany ob_calledOn ob_saved ob_many ob_width ob_numbers ob_moving), (ce_i4 y ob_many fob_many), (ce_i4 y ob_width fob_width), (ce_l240 y ob_numbers fob_numbers)]) ∨ (∃ (f_195 : Nat → Int32) (f_196 : Nat → Int32) (f_197 : Nat → Int64), (∀ i, (-1 : Int) ≤ (f_195 i).toInt ∧ (f_195 i).toInt ≤ 60) ∧ (∀ i, (0 : Int) ≤ (f_196 i).toInt ∧ (f_196 i).toInt ≤ 3) ∧ ((0 : Int) ≤ a2.toInt ∧ a2.toInt ≤ 3) ∧ ((0 : Int) ≤ a3.toInt ∧ a3.toInt ≤ 60) ∧ (0 ≤ a2.toInt ∧ a2.toInt ≤ 3 ∧ 0 ≤ a3.toInt ∧ a3.toInt ≤ 60) ∧ ((f_195 0).toInt = (fob_many 0).toInt) ∧ ((f_196 0).toInt = (fob_width 0).toInt) ∧ ((f_195 1).toInt = (fob_many 1).toInt) ∧ ((f_196 1).toInt = (fob_width 1).toInt) ∧ ((f_195 2).toInt = a3.toInt) ∧ ((f_196 2).toInt = a2.toInt) ∧ ((f_195 3).toInt = (fob_many 3).toInt) ∧ ((f_196 3).toInt = (fob_width 3).toInt) ∧ (zL f_197 fob_numbers 120 60) ∧ r = 0 ∧ w = [(ce_X10 ob ob_thrown ob_world ob_images ob_hasImage ob_tape ob_taped ob_five ob_size ob_at ob_from ob_token ob_value ob_faultKind ob_faultPlace ob_fresh ob_parts ob_houses ob_houseMany ob_worthOf ob_byCall ob_over ob_bestSet ob_bestOver ob_bestWorth ob_row ob_tenDebts ob_tenMany ob_fewestBy ob_covered ob_queue ob_cameBy ob_parent ob_met ob_calls ob_callMany ob_calledOn ob_saved ob_many ob_width ob_numbers ob_moving), (ce_i4 y ob_many f_195), (ce_i4 y ob_width f_196), (ce_l240 y ob_numbers f_197)])) (kq G (va_A [(ce_X10 ob ob_thrown ob_world ob_images ob_hasImage ob_tape ob_taped ob_five ob_size ob_at ob_from ob_token ob_value ob_faultKind ob_faultPlace ob_fresh ob_parts ob_houses ob_houseMany ob_worthOf ob_byCall ob_over ob_bestSet ob_bestOver ob_bestWorth ob_row ob_tenDebts ob_tenMany ob_fewestBy ob_covered ob_queue ob_cameBy ob_parent ob_met ob_calls ob_callMany ob_calledOn ob_saved ob_many ob_width ob_numbers ob_moving), (ce_i4 y ob_many fob_many), (ce_i4 y ob_width fob_width), (ce_l240 y ob_numbers fob_numbers)] sz)) (va_A [(ce_X10 ob ob_thrown ob_world ob_images ob_hasImage ob_tape ob_taped ob_five ob_size ob_at ob_from ob_token ob_value ob_faultKind ob_faultPlace ob_fresh ob_parts ob_houses ob_houseMany ob_worthOf ob_byCall ob_over ob_bestSet ob_bestOver ob_bestWorth ob_row ob_tenDebts ob_tenMany ob_fewestBy ob_covered ob_queue ob_cameBy ob_parent ob_met ob_calls ob_callMany ob_calledOn ob_saved ob_many ob_width ob_numbers ob_moving), (ce_i4 y ob_many fob_many), (ce_i4 y ob_width fob_width), (ce_l240 y ob_numbers fob_numbers)] sz)) 0 0 (va_A [(ce_X10 ob ob_thrown ob_world ob_images ob_hasImage ob_tape ob_taped ob_five ob_size ob_at ob_from ob_token ob_value ob_faultKind ob_faultPlace ob_fresh ob_parts ob_houses ob_houseMany ob_worthOf ob_byCall ob_over ob_bestSet ob_bestOver ob_bestWorth ob_row ob_tenDebts ob_tenMany ob_fewestBy ob_covered ob_queue ob_cameBy ob_parent ob_met ob_calls ob_callMany ob_calledOn ob_saved ob_many ob_width ob_numbers ob_moving), (ce_i4 y ob_many fob_many), (ce_i4 y ob_width fob_width), (ce_l240 y ob_numbers fob_numbers)] sz) := by
  refine Met.ofW (cc := cX10_row) (maxL := 5) (ret := (some .int)) (by decide) rfl ?_
  intro p e s m args below meth c s₁ B hml hv
  obtain ⟨rfl, hsz, hP, hK, hD0⟩ := hv
  have hx := B.exec
  have hb := B.bytes
  have hr := B.returns
  have hw0 : ∀ w ∈ wAll, w.before _ s = true := fun w h => atoms_spec (ws := Cond.code yX10_row cX10_row 5 (some .int) :: wAll) B.pre w (List.mem_cons_of_mem _ h)
  have hown : s.vm.findClass RX10 = some m.cls := findClass_of_methodNamed B.named
  subst hsz
  have hD := hD0.self (sz := s.heap.size)
  generalize hAe : va_A [(ce_X10 ob ob_thrown ob_world ob_images ob_hasImage ob_tape ob_taped ob_five ob_size ob_at ob_from ob_token ob_value ob_faultKind ob_faultPlace ob_fresh ob_parts ob_houses ob_houseMany ob_worthOf ob_byCall ob_over ob_bestSet ob_bestOver ob_bestWorth ob_row ob_tenDebts ob_tenMany ob_fewestBy ob_covered ob_queue ob_cameBy ob_parent ob_met ob_calls ob_callMany ob_calledOn ob_saved ob_many ob_width ob_numbers ob_moving), (ce_i4 y ob_many fob_many), (ce_i4 y ob_width fob_width), (ce_l240 y ob_numbers fob_numbers)] s.heap.size = A at hD ⊢
  have hA : ∀ q : Nat, s.heap.size ≤ q → A q := fun q h => by rw [← hAe]; exact Or.inr h
  have hS : va_S A s.heap s.heap [] := va_S.rf
  have hP : va_P G vwCl [(ce_X10 ob ob_thrown ob_world ob_images ob_hasImage ob_tape ob_taped ob_five ob_size ob_at ob_from ob_token ob_value ob_faultKind ob_faultPlace ob_fresh ob_parts ob_houses ob_houseMany ob_worthOf ob_byCall ob_over ob_bestSet ob_bestOver ob_bestWorth ob_row ob_tenDebts ob_tenMany ob_fewestBy ob_covered ob_queue ob_cameBy ob_parent ob_met ob_calls ob_callMany ob_calledOn ob_saved ob_many ob_width ob_numbers ob_moving), (ce_i4 y ob_many fob_many), (ce_i4 y ob_width fob_width), (ce_l240 y ob_numbers fob_numbers)] s.heap := hP
  have hl := lv_entry ([.ref ob, .int 2, .int a2, .int a3]) (n := 5) (Nat.le_of_ble_eq_true rfl)
  rw [lg_entry_eq]
  generalize (lg_sl ([.ref ob, .int 2, .int a2, .int a3]) ++ List.replicate (5 - (lg_sl ([.ref ob, .int 2, .int a2, .int a3])).length) Slot.unset).toArray = ls at hl ⊢
  have hl : lv_has ls 5 [(0, .ref ob), (1, .int 2), (2, .int a2), (3, .int a3)] := hl
  refine lv_iload_n hx hb dX10_row_0 rfl (lv_at hl 1 rfl) ?_
  refine cSim (As := [.int 2]) (rest := []) ⟨hx, hb, hml, hown, hw0⟩ hA hK hP hD hS [] (gisSlotM l G y _ 2 ) rfl ⟨(callB_of 1 hw0 (gA m_543) rfl rfl rfl (hw0 _ m_41) (hw0 _ m_433) cb_X10_isSlot ⟨Nat.le_of_ble_eq_true rfl, Nat.le_of_ble_eq_true rfl⟩), (hw0 _ m_434)⟩ rfl hl.1 (Nat.le_of_ble_eq_true rfl) dX10_row_1 ⟨Nat.le_of_ble_eq_true rfl, Nat.le_of_ble_eq_true rfl⟩ (fun r_1001 w_1001 H locs hw_1001 hP hD hS => ?_)
  rcases hw_1001 with ⟨h_1002, rfl, rfl⟩ | ⟨h_1003, h_1004, rfl, rfl⟩
  · skip
    exact False.elim (by have h9 : Int32.toInt 2 = 2 := (by decide); omega)
  · skip
    obtain ⟨hP, hD⟩ : vPD G A H [(ce_X10 ob ob_thrown ob_world ob_images ob_hasImage ob_tape ob_taped ob_five ob_size ob_at ob_from ob_token ob_value ob_faultKind ob_faultPlace ob_fresh ob_parts ob_houses ob_houseMany ob_worthOf ob_byCall ob_over ob_bestSet ob_bestOver ob_bestWorth ob_row ob_tenDebts ob_tenMany ob_fewestBy ob_covered ob_queue ob_cameBy ob_parent ob_met ob_calls ob_callMany ob_calledOn ob_saved ob_many ob_width ob_numbers ob_moving), (ce_i4 y ob_many fob_many), (ce_i4 y ob_width fob_width), (ce_l240 y ob_numbers fob_numbers)] := ⟨hP, hD⟩
    refine lv_if_eq (tgt := 25) hx hb dX10_row_4 (by decide) (fun c9 => absurd c9 (by decide)) (fun _ => ?_)
    refine lv_iload_n hx hb dX10_row_7 rfl (lv_at hl 2 rfl) ?_
    refine lv_i2l hx hb dX10_row_8 rfl ?_
    refine lv_lconst (v := 0) hx hb dX10_row_9 (by decide) ?_
    refine lv_ldc2 (own := RX10) (v := 3) hx hb hown (hw0 _ m_398) dX10_row_10 ?_
    refine cSim (As := [.long (a2).toInt64, .long 0, .long 3]) (rest := []) ⟨hx, hb, hml, hown, hw0⟩ hA hK hP hD hS [] (sX10_in l G y _ ((a2).toInt64) 0 3 ) rfl ⟨(callB_of 3 hw0 (gA m_516) rfl rfl rfl (hw0 _ m_41) (hw0 _ m_345) cb_X10_in ⟨Nat.le_of_ble_eq_true rfl, Nat.le_of_ble_eq_true rfl⟩), (hw0 _ m_346)⟩ rfl hl.1 (Nat.le_of_ble_eq_true rfl) dX10_row_13 ⟨Nat.le_of_ble_eq_true rfl, Nat.le_of_ble_eq_true rfl⟩ (fun r_1005 w_1005 H locs hw_1005 hP hD hS => ?_)
    rcases hw_1005 with ⟨h_1006, rfl, rfl⟩ | ⟨h_1007, rfl, rfl⟩
    · skip
      have h_1008 : a2.toInt < (0 : Int) ∨ (3 : Int) < a2.toInt := in_n h_1006 (Int32.toInt_toInt64 _) (by decide) (by decide)
      obtain ⟨hP, hD⟩ : vPD G A H [(ce_X10 ob ob_thrown ob_world ob_images ob_hasImage ob_tape ob_taped ob_five ob_size ob_at ob_from ob_token ob_value ob_faultKind ob_faultPlace ob_fresh ob_parts ob_houses ob_houseMany ob_worthOf ob_byCall ob_over ob_bestSet ob_bestOver ob_bestWorth ob_row ob_tenDebts ob_tenMany ob_fewestBy ob_covered ob_queue ob_cameBy ob_parent ob_met ob_calls ob_callMany ob_calledOn ob_saved ob_many ob_width ob_numbers ob_moving), (ce_i4 y ob_many fob_many), (ce_i4 y ob_width fob_width), (ce_l240 y ob_numbers fob_numbers)] := ⟨hP, hD⟩
      refine lv_if_eq (tgt := 25) hx hb dX10_row_16 (by decide) (fun _ => ?_) (fun c9 => absurd (by decide) c9)
      refine lv_bipush (v := (-2)) hx hb dX10_row_25 (by decide) ?_
      exact W.iret (v := (-2)) hx hb hr (fun t ht hW => ⟨⟨(-2), _, rfl, Or.inl (⟨by have h90 : Int32.toInt (-2) = -2 := (by decide); have h91 : Int32.toInt 2 = 2 := (by decide); omega, rfl, rfl⟩), by rw [ht]; exact hP, hD⟩, hS.F ht⟩) hS.2.2 dX10_row_27
    · skip
      have h_1009 : (0 : Int) ≤ a2.toInt ∧ a2.toInt ≤ (3 : Int) := in_y h_1007 (Int32.toInt_toInt64 _) (by decide) (by decide)
      have h_1010_0 := (btop a2)
      have h_1010_1 := True.intro
      have h_1010_2 := True.intro
      have h_1010 : (0 : Int) ≤ a2.toInt ∧ a2.toInt ≤ 3 := by omega
      obtain ⟨hP, hD⟩ : vPD G A H [(ce_X10 ob ob_thrown ob_world ob_images ob_hasImage ob_tape ob_taped ob_five ob_size ob_at ob_from ob_token ob_value ob_faultKind ob_faultPlace ob_fresh ob_parts ob_houses ob_houseMany ob_worthOf ob_byCall ob_over ob_bestSet ob_bestOver ob_bestWorth ob_row ob_tenDebts ob_tenMany ob_fewestBy ob_covered ob_queue ob_cameBy ob_parent ob_met ob_calls ob_callMany ob_calledOn ob_saved ob_many ob_width ob_numbers ob_moving), (ce_i4 y ob_many fob_many), (ce_i4 y ob_width fob_width), (ce_l240 y ob_numbers fob_numbers)] := ⟨hP, hD⟩
      refine lv_if_eq (tgt := 25) hx hb dX10_row_16 (by decide) (fun c9 => absurd c9 (by decide)) (fun _ => ?_)
      refine lv_iload_n hx hb dX10_row_19 rfl (lv_at hl 3 rfl) ?_
      refine lv_bipush (v := 60) hx hb dX10_row_20 (by decide) ?_
      refine lv_icmp_le (tgt := 28) hx hb dX10_row_22 (by decide) (fun c_1011 => ?_) (fun c_1011 => ?_)
      · skip
        have nc_1011 := nb_le (60) (60) c_1011 (btop a3) (bkc (x := 60) (c := 60) (by decide)) (by decide)
        refine lv_iload_n hx hb dX10_row_28 rfl (lv_at hl 3 rfl) ?_
        refine lv_if_ge (tgt := 35) hx hb dX10_row_29 (by decide) (fun c_1012 => ?_) (fun c_1012 => ?_)
        · skip
          have nc_1012 := nb_le (0) (0) c_1012 (bkc (x := 0) (c := 0) (by decide)) nc_1011.1 (by decide)
          refine lv_aload_n hx hb dX10_row_35 rfl (lv_at hl 0 rfl) ?_
          refine va_get (D := G) (ci := 10) (v := .ref ob_many) (C := RX10) (T := TX10) (N := 41) hx hb hw0 inA_wsX100 hown hK.1 hP 0 rfl rfl 37 (by decide) (hw0 _ m_406) (fun _ h9 => h9) rfl dX10_row_36 ?_
          refine lv_iload_n hx hb dX10_row_39 rfl (lv_at hl 1 rfl) ?_
          refine lv_iload_n hx hb dX10_row_40 rfl (lv_at hl 3 rfl) ?_
          refine va_iast hx hb hK.1 hP hD hS 1 1 rfl rfl (vi (bkc (x := 2) (c := 2) (by decide)) (by decide)) dX10_row_41 (fun H locs hP hD hS => ?_)
          generalize hf_1013 : (upd fob_many (2 : Int32).toNatClampNeg a3) = f_1013 at hP hD
          have bf_1013 : ∀ i, (-1 : Int) ≤ (f_1013 i).toInt ∧ (f_1013 i).toInt ≤ 60 := hf_1013 ▸ up_b p_fob_many (bw (-1) (60) nc_1012.2.1 (by decide))
          have zf_1013_0 : (f_1013 0).toInt = (fob_many 0).toInt := hf_1013 ▸ pin_ne (ix_not (bkc (x := 2) (c := 2) (by decide)) (by decide))
          have zf_1013_1 : (f_1013 1).toInt = (fob_many 1).toInt := hf_1013 ▸ pin_ne (ix_not (bkc (x := 2) (c := 2) (by decide)) (by decide))
          have zf_1013_2 : (f_1013 2).toInt = (a3 : Int32).toInt := hf_1013 ▸ pin_eq (by decide)
          have zf_1013_3 : (f_1013 3).toInt = (fob_many 3).toInt := hf_1013 ▸ pin_ne (ix_not (bkc (x := 2) (c := 2) (by decide)) (by decide))
          obtain ⟨hP, hD⟩ : vPD G A H [(ce_X10 ob ob_thrown ob_world ob_images ob_hasImage ob_tape ob_taped ob_five ob_size ob_at ob_from ob_token ob_value ob_faultKind ob_faultPlace ob_fresh ob_parts ob_houses ob_houseMany ob_worthOf ob_byCall ob_over ob_bestSet ob_bestOver ob_bestWorth ob_row ob_tenDebts ob_tenMany ob_fewestBy ob_covered ob_queue ob_cameBy ob_parent ob_met ob_calls ob_callMany ob_calledOn ob_saved ob_many ob_width ob_numbers ob_moving), (ce_i4 y ob_many f_1013), (ce_i4 y ob_width fob_width), (ce_l240 y ob_numbers fob_numbers)] := ⟨hP, hD⟩
          refine lv_aload_n hx hb dX10_row_42 rfl (lv_at hl 0 rfl) ?_
          refine va_get (D := G) (ci := 10) (v := .ref ob_width) (C := RX10) (T := TX10) (N := 41) hx hb hw0 inA_wsX100 hown hK.1 hP 0 rfl rfl 38 (by decide) (hw0 _ m_527) (fun _ h9 => h9) rfl dX10_row_43 ?_
          refine lv_iload_n hx hb dX10_row_46 rfl (lv_at hl 1 rfl) ?_
          refine lv_iload_n hx hb dX10_row_47 rfl (lv_at hl 2 rfl) ?_
          refine va_iast hx hb hK.1 hP hD hS 2 1 rfl rfl (vi (bkc (x := 2) (c := 2) (by decide)) (by decide)) dX10_row_48 (fun H locs hP hD hS => ?_)
          generalize hf_1014 : (upd fob_width (2 : Int32).toNatClampNeg a2) = f_1014 at hP hD
          have bf_1014 : ∀ i, (0 : Int) ≤ (f_1014 i).toInt ∧ (f_1014 i).toInt ≤ 3 := hf_1014 ▸ up_b p_fob_width h_1010
          have zf_1014_0 : (f_1014 0).toInt = (fob_width 0).toInt := hf_1014 ▸ pin_ne (ix_not (bkc (x := 2) (c := 2) (by decide)) (by decide))
          have zf_1014_1 : (f_1014 1).toInt = (fob_width 1).toInt := hf_1014 ▸ pin_ne (ix_not (bkc (x := 2) (c := 2) (by decide)) (by decide))
          have zf_1014_2 : (f_1014 2).toInt = (a2 : Int32).toInt := hf_1014 ▸ pin_eq (by decide)
          have zf_1014_3 : (f_1014 3).toInt = (fob_width 3).toInt := hf_1014 ▸ pin_ne (ix_not (bkc (x := 2) (c := 2) (by decide)) (by decide))
          obtain ⟨hP, hD⟩ : vPD G A H [(ce_X10 ob ob_thrown ob_world ob_images ob_hasImage ob_tape ob_taped ob_five ob_size ob_at ob_from ob_token ob_value ob_faultKind ob_faultPlace ob_fresh ob_parts ob_houses ob_houseMany ob_worthOf ob_byCall ob_over ob_bestSet ob_bestOver ob_bestWorth ob_row ob_tenDebts ob_tenMany ob_fewestBy ob_covered ob_queue ob_cameBy ob_parent ob_met ob_calls ob_callMany ob_calledOn ob_saved ob_many ob_width ob_numbers ob_moving), (ce_i4 y ob_many f_1013), (ce_i4 y ob_width f_1014), (ce_l240 y ob_numbers fob_numbers)] := ⟨hP, hD⟩
          refine lv_iconst (v := 0) hx hb dX10_row_49 (by decide) ?_
          refine lv_istore (lv' := [(4, .int 0), (0, .ref ob), (1, .int 2), (2, .int a2), (3, .int a3)]) hx hb dX10_row_50 hl (by decide) rfl (fun ls hl => ?_)
          refine loopX (fun n H locs ls st => ∃ (v_1086 : Int32) (f_1087 : Nat → Int64), (60 - v_1086.toInt).toNat = n ∧ ((0 : Int) ≤ v_1086.toInt ∧ v_1086.toInt ≤ 60) ∧ (zL f_1087 fob_numbers 120 v_1086.toInt) ∧ st = [] ∧ vPD G A H [(ce_X10 ob ob_thrown ob_world ob_images ob_hasImage ob_tape ob_taped ob_five ob_size ob_at ob_from ob_token ob_value ob_faultKind ob_faultPlace ob_fresh ob_parts ob_houses ob_houseMany ob_worthOf ob_byCall ob_over ob_bestSet ob_bestOver ob_bestWorth ob_row ob_tenDebts ob_tenMany ob_fewestBy ob_covered ob_queue ob_cameBy ob_parent ob_met ob_calls ob_callMany ob_calledOn ob_saved ob_many ob_width ob_numbers ob_moving), (ce_i4 y ob_many f_1013), (ce_i4 y ob_width f_1014), (ce_l240 y ob_numbers f_1087)] ∧ va_S A s.heap H locs ∧ lv_has ls 5 [(4, .int v_1086), (0, .ref ob), (1, .int 2)]) ?_ (n := (60 - (0 : Int32).toInt).toNat) ⟨0, fob_numbers, rfl, (bw (0) (60) (bkc (x := 0) (c := 0) (by decide)) (by decide)), (zl_0 (by have h90 : Int32.toInt 0 = 0 := (by decide); have h91 : Int32.toInt 2 = 2 := (by decide); omega)), rfl, ⟨hP, hD⟩, hS, lv_sub hl [0, 1, 2] rfl⟩
          rintro n ih_1092 H locs ls st ⟨v_1086, f_1087, hn_1092, bv_1086, rl1087_0, rfl, ⟨hP, hD⟩, hS, hl⟩
          refine lv_iload hx hb dX10_row_52 (lv_at hl 0 rfl) ?_
          refine lv_bipush (v := 60) hx hb dX10_row_54 (by decide) ?_
          refine lv_icmp_ge (tgt := 78) hx hb dX10_row_56 (by decide) (fun c_1093 => ?_) (fun c_1093 => ?_)
          · skip
            have nc_1093 := nb_le (60) (60) c_1093 (bkc (x := 60) (c := 60) (by decide)) bv_1086 (by decide)
            refine lv_iconst (v := 0) hx hb dX10_row_78 (by decide) ?_
            exact W.iret (v := 0) hx hb hr (fun t ht hW => ⟨⟨0, _, rfl, Or.inr (Or.inr (⟨f_1013, f_1014, f_1087, bf_1013, bf_1014, h_1010, nc_1012.2.1, by have h90 : Int32.toInt 0 = 0 := (by decide); have h91 : Int32.toInt 2 = 2 := (by decide); omega, by have h90 : Int32.toInt 0 = 0 := (by decide); have h91 : Int32.toInt 2 = 2 := (by decide); omega, by have h90 : Int32.toInt 0 = 0 := (by decide); have h91 : Int32.toInt 2 = 2 := (by decide); omega, by have h90 : Int32.toInt 0 = 0 := (by decide); have h91 : Int32.toInt 2 = 2 := (by decide); omega, by have h90 : Int32.toInt 0 = 0 := (by decide); have h91 : Int32.toInt 2 = 2 := (by decide); omega, by have h90 : Int32.toInt 0 = 0 := (by decide); have h91 : Int32.toInt 2 = 2 := (by decide); omega, by have h90 : Int32.toInt 0 = 0 := (by decide); have h91 : Int32.toInt 2 = 2 := (by decide); omega, by have h90 : Int32.toInt 0 = 0 := (by decide); have h91 : Int32.toInt 2 = 2 := (by decide); omega, by have h90 : Int32.toInt 0 = 0 := (by decide); have h91 : Int32.toInt 2 = 2 := (by decide); omega, (zl_e rl1087_0 (by omega)), rfl, rfl⟩)), by rw [ht]; exact hP, hD⟩, hS.F ht⟩) hS.2.2 dX10_row_79
          · skip
            have nc_1093 := nb_nle (59) (60) c_1093 bv_1086 (bkc (x := 60) (c := 60) (by decide)) (by decide)
            refine lv_aload_n hx hb dX10_row_59 rfl (lv_at hl 1 rfl) ?_
            refine va_get (D := G) (ci := 10) (v := .ref ob_numbers) (C := RX10) (T := TX10) (N := 41) hx hb hw0 inA_wsX100 hown hK.1 hP 0 rfl rfl 39 (by decide) (hw0 _ m_435) (fun _ h9 => h9) rfl dX10_row_60 ?_
            refine lv_bipush (v := 60) hx hb dX10_row_63 (by decide) ?_
            refine lv_iload_n hx hb dX10_row_65 rfl (lv_at hl 2 rfl) ?_
            refine lv_imul hx hb dX10_row_66 ?_
            refine lv_topi (fun v_1094 ev_1094 => ?_)
            obtain rfl : 120 = v_1094 := (ev_1094.trans (by decide)).symm
            refine lv_iload hx hb dX10_row_67 (lv_at hl 0 rfl) ?_
            refine lv_iadd hx hb dX10_row_69 ?_
            refine lv_topi (fun v_1095 ev_1095 => ?_)
            have qv_1095 := ba_add ev_1095 (bkc (x := 120) (c := 120) (by decide)) nc_1093.1 (by decide)
            have bv_1095 : (120 : Int) ≤ v_1095.toInt ∧ v_1095.toInt ≤ 179 := bq_add qv_1095 (bkc (x := 120) (c := 120) (by decide)) nc_1093.1 _ _ (by decide)
            have qv_1095 : v_1095.toInt = (120) + v_1086.toInt := qv_1095
            refine lv_lconst (v := 0) hx hb dX10_row_70 (by decide) ?_
            refine va_last hx hb hK.1 hP hD hS 3 2 rfl rfl (vi bv_1095 (by decide)) dX10_row_71 (fun H locs hP hD hS => ?_)
            generalize hf_1096 : (vp_updL f_1087 (v_1095 : Int32).toNatClampNeg 0) = f_1096 at hP hD
            obtain ⟨hP, hD⟩ : vPD G A H [(ce_X10 ob ob_thrown ob_world ob_images ob_hasImage ob_tape ob_taped ob_five ob_size ob_at ob_from ob_token ob_value ob_faultKind ob_faultPlace ob_fresh ob_parts ob_houses ob_houseMany ob_worthOf ob_byCall ob_over ob_bestSet ob_bestOver ob_bestWorth ob_row ob_tenDebts ob_tenMany ob_fewestBy ob_covered ob_queue ob_cameBy ob_parent ob_met ob_calls ob_callMany ob_calledOn ob_saved ob_many ob_width ob_numbers ob_moving), (ce_i4 y ob_many f_1013), (ce_i4 y ob_width f_1014), (ce_l240 y ob_numbers f_1096)] := ⟨hP, hD⟩
            obtain ⟨v_1097, ev_1097⟩ : ∃ z : Int32, z = v_1086 + 1 := ⟨_, rfl⟩
            have qv_1097 := ba_add ev_1097 nc_1093.1 (bkc (x := 1) (c := 1) (by decide)) (by decide)
            have bv_1097 : (1 : Int) ≤ v_1097.toInt ∧ v_1097.toInt ≤ 60 := bq_add qv_1097 nc_1093.1 (bkc (x := 1) (c := 1) (by decide)) _ _ (by decide)
            have qv_1097 : v_1097.toInt = v_1086.toInt + (1) := qv_1097
            refine lv_iinc (v := v_1097) (lv' := [(4, .int v_1097), (0, .ref ob), (1, .int 2)]) hx hb dX10_row_72 hl (k := 0) rfl (ev_1097.symm) (by decide) rfl (fun ls hl => ?_)
            refine lv_goto (tgt := 52) hx hb dX10_row_75 (by decide) ?_
            exact ih_1092 _ (ml_inc (hi := 60) hn_1092 qv_1097 (by decide) ((bw (0) (60) bv_1097 (by decide))).2) _ _ _ _ ⟨v_1097, f_1096, rfl, (bw (0) (60) bv_1097 (by decide)), (zl_s rl1087_0 hf_1096 (by omega) ⟨by omega, by omega⟩ (by omega)), rfl, ⟨hP, hD⟩, hS, lv_sub hl [0, 1, 2] rfl⟩
        · skip
          have nc_1012 := nb_nle (-1) (0) c_1012 nc_1011.1 (bkc (x := 0) (c := 0) (by decide)) (by decide)
          refine lv_bipush (v := (-3)) hx hb dX10_row_32 (by decide) ?_
          exact W.iret (v := (-3)) hx hb hr (fun t ht hW => ⟨⟨(-3), _, rfl, Or.inr (Or.inl (⟨h_1010, by have h90 : Int32.toInt (-3) = -3 := (by decide); have h91 : Int32.toInt 2 = 2 := (by decide); omega, rfl, rfl⟩)), by rw [ht]; exact hP, hD⟩, hS.F ht⟩) hS.2.2 dX10_row_34
      · skip
        have nc_1011 := nb_nle (60) (61) c_1011 (bkc (x := 60) (c := 60) (by decide)) (btop a3) (by decide)
        refine lv_bipush (v := (-2)) hx hb dX10_row_25 (by decide) ?_
        exact W.iret (v := (-2)) hx hb hr (fun t ht hW => ⟨⟨(-2), _, rfl, Or.inl (⟨by have h90 : Int32.toInt (-2) = -2 := (by decide); have h91 : Int32.toInt 2 = 2 := (by decide); omega, rfl, rfl⟩), by rw [ht]; exact hP, hD⟩, hS.F ht⟩) hS.2.2 dX10_row_27

set_option maxHeartbeats 4000000 in
set_option maxRecDepth 100000 in
theorem fwriteM2 (l : Launch) (G : va_G) (y : Nat → ClassId) (sz : Nat) (ob : Nat) (a2 : Int32) (a3 : Int64) (ob_thrown : Int32) (ob_world : Nat) (ob_images : Nat) (ob_hasImage : Nat) (ob_tape : Nat) (ob_taped : Int32) (ob_five : Nat) (ob_size : Int32) (ob_at : Int32) (ob_from : Int32) (ob_token : Int32) (ob_value : Int32) (ob_faultKind : Int32) (ob_faultPlace : Int32) (ob_fresh : Nat) (ob_parts : Nat) (ob_houses : Nat) (ob_houseMany : Int32) (ob_worthOf : Nat) (ob_byCall : Nat) (ob_over : Nat) (ob_bestSet : Int32) (ob_bestOver : Int32) (ob_bestWorth : Int32) (ob_row : Nat) (ob_tenDebts : Nat) (ob_tenMany : Int32) (ob_fewestBy : Nat) (ob_covered : Nat) (ob_queue : Nat) (ob_cameBy : Nat) (ob_parent : Nat) (ob_met : Nat) (ob_calls : Nat) (ob_callMany : Int32) (ob_calledOn : Nat) (ob_saved : Nat) (ob_many : Nat) (ob_width : Nat) (ob_numbers : Nat) (ob_moving : Nat) (fob_many : Nat → Int32) (fob_width : Nat → Int32) (fob_numbers : Nat → Int64) (p_ob_taped : (0 : Int) ≤ ob_taped.toInt ∧ ob_taped.toInt ≤ 1400) (p_ob_size : (0 : Int) ≤ ob_size.toInt ∧ ob_size.toInt ≤ 1400) (p_ob_at : (0 : Int) ≤ ob_at.toInt ∧ ob_at.toInt ≤ 1400) (p_ob_from : (0 : Int) ≤ ob_from.toInt ∧ ob_from.toInt ≤ 1400) (p_ob_token : (0 : Int) ≤ ob_token.toInt ∧ ob_token.toInt ≤ 4) (p_ob_value : (0 : Int) ≤ ob_value.toInt ∧ ob_value.toInt ≤ 9999) (p_ob_faultKind : (0 : Int) ≤ ob_faultKind.toInt ∧ ob_faultKind.toInt ≤ 3) (p_ob_houseMany : (0 : Int) ≤ ob_houseMany.toInt ∧ ob_houseMany.toInt ≤ 10) (p_ob_bestSet : (0 : Int) ≤ ob_bestSet.toInt ∧ ob_bestSet.toInt ≤ 1023) (p_ob_bestOver : (-1 : Int) ≤ ob_bestOver.toInt ∧ ob_bestOver.toInt ≤ 180) (p_ob_tenMany : (0 : Int) ≤ ob_tenMany.toInt ∧ ob_tenMany.toInt ≤ 10) (p_ob_callMany : (0 : Int) ≤ ob_callMany.toInt ∧ ob_callMany.toInt ≤ 16) (p_fob_many : ∀ i, (-1 : Int) ≤ (fob_many i).toInt ∧ (fob_many i).toInt ≤ 60) (p_fob_width : ∀ i, (0 : Int) ≤ (fob_width i).toInt ∧ (fob_width i).toInt ≤ 3) : Met l yX10_write (Cond.code yX10_write cX10_write 5 (some .int) :: wAll) ({ frames := 2, cells := 0, slots := 0, locals := 45 }) (va_Pc [.ref ob, .int 2, .int a2, .long a3] (kp G y sz [(ce_X10 ob ob_thrown ob_world ob_images ob_hasImage ob_tape ob_taped ob_five ob_size ob_at ob_from ob_token ob_value ob_faultKind ob_faultPlace ob_fresh ob_parts ob_houses ob_houseMany ob_worthOf ob_byCall ob_over ob_bestSet ob_bestOver ob_bestWorth ob_row ob_tenDebts ob_tenMany ob_fewestBy ob_covered ob_queue ob_cameBy ob_parent ob_met ob_calls ob_callMany ob_calledOn ob_saved ob_many ob_width ob_numbers ob_moving), (ce_i4 y ob_many fob_many), (ce_i4 y ob_width fob_width), (ce_l240 y ob_numbers fob_numbers)])) (va_Qi (fun (r : Int32) (w : va_W) => (((fob_many 2).toInt = -1) ∧ r = (-6) ∧ w = [(ce_X10 ob ob_thrown ob_world ob_images ob_hasImage ob_tape ob_taped ob_five ob_size ob_at ob_from ob_token ob_value ob_faultKind ob_faultPlace ob_fresh ob_parts ob_houses ob_houseMany ob_worthOf ob_byCall ob_over ob_bestSet ob_bestOver ob_bestWorth ob_row ob_tenDebts ob_tenMany ob_fewestBy ob_covered ob_queue ob_cameBy ob_parent ob_met ob_calls ob_callMany ob_calledOn ob_saved ob_many ob_width ob_numbers ob_moving), (ce_i4 y ob_many fob_many), (ce_i4 y ob_width fob_width), (ce_l240 y ob_numbers fob_numbers)]) ∨ ((¬ (fob_many 2).toInt = -1 ∧ (a2.toInt < 0 ∨ (fob_many 2).toInt ≤ a2.toInt)) ∧ r = (-7) ∧ w = [(ce_X10 ob ob_thrown ob_world ob_images ob_hasImage ob_tape ob_taped ob_five ob_size ob_at ob_from ob_token ob_value ob_faultKind ob_faultPlace ob_fresh ob_parts ob_houses ob_houseMany ob_worthOf ob_byCall ob_over ob_bestSet ob_bestOver ob_bestWorth ob_row ob_tenDebts ob_tenMany ob_fewestBy ob_covered ob_queue ob_cameBy ob_parent ob_met ob_calls ob_callMany ob_calledOn ob_saved ob_many ob_width ob_numbers ob_moving), (ce_i4 y ob_many fob_many), (ce_i4 y ob_width fob_width), (ce_l240 y ob_numbers fob_numbers)]) ∨ (∃ (f_47 : Nat → Int64), ((0 : Int) ≤ a2.toInt ∧ a2.toInt ≤ 59) ∧ (¬ (fob_many 2).toInt = -1 ∧ 0 ≤ a2.toInt ∧ a2.toInt < (fob_many 2).toInt) ∧ (f_47 = vp_updL fob_numbers (120 + a2.toInt.toNat) (qcut (fob_width 2) a3)) ∧ r = 0 ∧ w = [(ce_X10 ob ob_thrown ob_world ob_images ob_hasImage ob_tape ob_taped ob_five ob_size ob_at ob_from ob_token ob_value ob_faultKind ob_faultPlace ob_fresh ob_parts ob_houses ob_houseMany ob_worthOf ob_byCall ob_over ob_bestSet ob_bestOver ob_bestWorth ob_row ob_tenDebts ob_tenMany ob_fewestBy ob_covered ob_queue ob_cameBy ob_parent ob_met ob_calls ob_callMany ob_calledOn ob_saved ob_many ob_width ob_numbers ob_moving), (ce_i4 y ob_many fob_many), (ce_i4 y ob_width fob_width), (ce_l240 y ob_numbers f_47)])) (kq G (va_A [(ce_X10 ob ob_thrown ob_world ob_images ob_hasImage ob_tape ob_taped ob_five ob_size ob_at ob_from ob_token ob_value ob_faultKind ob_faultPlace ob_fresh ob_parts ob_houses ob_houseMany ob_worthOf ob_byCall ob_over ob_bestSet ob_bestOver ob_bestWorth ob_row ob_tenDebts ob_tenMany ob_fewestBy ob_covered ob_queue ob_cameBy ob_parent ob_met ob_calls ob_callMany ob_calledOn ob_saved ob_many ob_width ob_numbers ob_moving), (ce_i4 y ob_many fob_many), (ce_i4 y ob_width fob_width), (ce_l240 y ob_numbers fob_numbers)] sz)) (va_A [(ce_X10 ob ob_thrown ob_world ob_images ob_hasImage ob_tape ob_taped ob_five ob_size ob_at ob_from ob_token ob_value ob_faultKind ob_faultPlace ob_fresh ob_parts ob_houses ob_houseMany ob_worthOf ob_byCall ob_over ob_bestSet ob_bestOver ob_bestWorth ob_row ob_tenDebts ob_tenMany ob_fewestBy ob_covered ob_queue ob_cameBy ob_parent ob_met ob_calls ob_callMany ob_calledOn ob_saved ob_many ob_width ob_numbers ob_moving), (ce_i4 y ob_many fob_many), (ce_i4 y ob_width fob_width), (ce_l240 y ob_numbers fob_numbers)] sz)) 0 0 (va_A [(ce_X10 ob ob_thrown ob_world ob_images ob_hasImage ob_tape ob_taped ob_five ob_size ob_at ob_from ob_token ob_value ob_faultKind ob_faultPlace ob_fresh ob_parts ob_houses ob_houseMany ob_worthOf ob_byCall ob_over ob_bestSet ob_bestOver ob_bestWorth ob_row ob_tenDebts ob_tenMany ob_fewestBy ob_covered ob_queue ob_cameBy ob_parent ob_met ob_calls ob_callMany ob_calledOn ob_saved ob_many ob_width ob_numbers ob_moving), (ce_i4 y ob_many fob_many), (ce_i4 y ob_width fob_width), (ce_l240 y ob_numbers fob_numbers)] sz) := by
  refine Met.ofW (cc := cX10_write) (maxL := 5) (ret := (some .int)) (by decide) rfl ?_
  intro p e s m args below meth c s₁ B hml hv
  obtain ⟨rfl, hsz, hP, hK, hD0⟩ := hv
  have hx := B.exec
  have hb := B.bytes
  have hr := B.returns
  have hw0 : ∀ w ∈ wAll, w.before _ s = true := fun w h => atoms_spec (ws := Cond.code yX10_write cX10_write 5 (some .int) :: wAll) B.pre w (List.mem_cons_of_mem _ h)
  have hown : s.vm.findClass RX10 = some m.cls := findClass_of_methodNamed B.named
  subst hsz
  have hD := hD0.self (sz := s.heap.size)
  generalize hAe : va_A [(ce_X10 ob ob_thrown ob_world ob_images ob_hasImage ob_tape ob_taped ob_five ob_size ob_at ob_from ob_token ob_value ob_faultKind ob_faultPlace ob_fresh ob_parts ob_houses ob_houseMany ob_worthOf ob_byCall ob_over ob_bestSet ob_bestOver ob_bestWorth ob_row ob_tenDebts ob_tenMany ob_fewestBy ob_covered ob_queue ob_cameBy ob_parent ob_met ob_calls ob_callMany ob_calledOn ob_saved ob_many ob_width ob_numbers ob_moving), (ce_i4 y ob_many fob_many), (ce_i4 y ob_width fob_width), (ce_l240 y ob_numbers fob_numbers)] s.heap.size = A at hD ⊢
  have hA : ∀ q : Nat, s.heap.size ≤ q → A q := fun q h => by rw [← hAe]; exact Or.inr h
  have hS : va_S A s.heap s.heap [] := va_S.rf
  have hP : va_P G vwCl [(ce_X10 ob ob_thrown ob_world ob_images ob_hasImage ob_tape ob_taped ob_five ob_size ob_at ob_from ob_token ob_value ob_faultKind ob_faultPlace ob_fresh ob_parts ob_houses ob_houseMany ob_worthOf ob_byCall ob_over ob_bestSet ob_bestOver ob_bestWorth ob_row ob_tenDebts ob_tenMany ob_fewestBy ob_covered ob_queue ob_cameBy ob_parent ob_met ob_calls ob_callMany ob_calledOn ob_saved ob_many ob_width ob_numbers ob_moving), (ce_i4 y ob_many fob_many), (ce_i4 y ob_width fob_width), (ce_l240 y ob_numbers fob_numbers)] s.heap := hP
  have hl := lv_entry ([.ref ob, .int 2, .int a2, .long a3]) (n := 5) (Nat.le_of_ble_eq_true rfl)
  rw [lg_entry_eq]
  generalize (lg_sl ([.ref ob, .int 2, .int a2, .long a3]) ++ List.replicate (5 - (lg_sl ([.ref ob, .int 2, .int a2, .long a3])).length) Slot.unset).toArray = ls at hl ⊢
  have hl : lv_has ls 5 [(0, .ref ob), (1, .int 2), (2, .int a2), (3, .long a3)] := hl
  refine lv_iload_n hx hb dX10_write_0 rfl (lv_at hl 1 rfl) ?_
  refine cSim (As := [.int 2]) (rest := []) ⟨hx, hb, hml, hown, hw0⟩ hA hK hP hD hS [] (gisSlotM l G y _ 2 ) rfl ⟨(callB_of 1 hw0 (gA m_543) rfl rfl rfl (hw0 _ m_41) (hw0 _ m_433) cb_X10_isSlot ⟨Nat.le_of_ble_eq_true rfl, Nat.le_of_ble_eq_true rfl⟩), (hw0 _ m_434)⟩ rfl hl.1 (Nat.le_of_ble_eq_true rfl) dX10_write_1 ⟨Nat.le_of_ble_eq_true rfl, Nat.le_of_ble_eq_true rfl⟩ (fun r_1001 w_1001 H locs hw_1001 hP hD hS => ?_)
  rcases hw_1001 with ⟨h_1002, rfl, rfl⟩ | ⟨h_1003, h_1004, rfl, rfl⟩
  · skip
    exact False.elim (by have h9 : Int32.toInt 2 = 2 := (by decide); omega)
  · skip
    obtain ⟨hP, hD⟩ : vPD G A H [(ce_X10 ob ob_thrown ob_world ob_images ob_hasImage ob_tape ob_taped ob_five ob_size ob_at ob_from ob_token ob_value ob_faultKind ob_faultPlace ob_fresh ob_parts ob_houses ob_houseMany ob_worthOf ob_byCall ob_over ob_bestSet ob_bestOver ob_bestWorth ob_row ob_tenDebts ob_tenMany ob_fewestBy ob_covered ob_queue ob_cameBy ob_parent ob_met ob_calls ob_callMany ob_calledOn ob_saved ob_many ob_width ob_numbers ob_moving), (ce_i4 y ob_many fob_many), (ce_i4 y ob_width fob_width), (ce_l240 y ob_numbers fob_numbers)] := ⟨hP, hD⟩
    refine lv_if_ne (tgt := 10) hx hb dX10_write_4 (by decide) (fun _ => ?_) (fun c9 => absurd c9 (by decide))
    refine lv_aload_n hx hb dX10_write_10 rfl (lv_at hl 0 rfl) ?_
    refine va_get (D := G) (ci := 10) (v := .ref ob_many) (C := RX10) (T := TX10) (N := 41) hx hb hw0 inA_wsX100 hown hK.1 hP 0 rfl rfl 37 (by decide) (hw0 _ m_406) (fun _ h9 => h9) rfl dX10_write_11 ?_
    refine lv_iload_n hx hb dX10_write_14 rfl (lv_at hl 1 rfl) ?_
    refine va_iald hx hb hK.1 hP 1 1 rfl rfl (vi (bkc (x := 2) (c := 2) (by decide)) (by decide)) dX10_write_15 ?_
    refine lv_topi (fun v_1005 ev_1005 => ?_)
    have bv_1005 : (-1 : Int) ≤ v_1005.toInt ∧ v_1005.toInt ≤ 60 := rd_b ev_1005 p_fob_many
    have yv_1005 : v_1005.toInt = (fob_many 2).toInt := congrArg Int32.toInt ev_1005
    refine lv_iconst (v := (-1)) hx hb dX10_write_16 (by decide) ?_
    refine lv_icmp_ne (tgt := 23) hx hb dX10_write_17 (by decide) (fun c_1006 => ?_) (fun c_1006 => ?_)
    · skip
      have nc_1006 := nb_ne (0) (60) c_1006 bv_1005 (k := -1) (by decide) (by decide)
      refine lv_iload_n hx hb dX10_write_23 rfl (lv_at hl 2 rfl) ?_
      refine lv_i2l hx hb dX10_write_24 rfl ?_
      refine lv_lconst (v := 0) hx hb dX10_write_25 (by decide) ?_
      refine lv_aload_n hx hb dX10_write_26 rfl (lv_at hl 0 rfl) ?_
      refine va_get (D := G) (ci := 10) (v := .ref ob_many) (C := RX10) (T := TX10) (N := 41) hx hb hw0 inA_wsX100 hown hK.1 hP 0 rfl rfl 37 (by decide) (hw0 _ m_406) (fun _ h9 => h9) rfl dX10_write_27 ?_
      refine lv_iload_n hx hb dX10_write_30 rfl (lv_at hl 1 rfl) ?_
      refine va_iald hx hb hK.1 hP 1 1 rfl rfl (vi (bkc (x := 2) (c := 2) (by decide)) (by decide)) dX10_write_31 ?_
      refine lv_topi (fun v_1007 ev_1007 => ?_)
      obtain rfl : v_1005 = v_1007 := (ev_1007.trans (ev_1005.symm)).symm
      refine lv_iconst (v := 1) hx hb dX10_write_32 (by decide) ?_
      refine lv_isub hx hb dX10_write_33 ?_
      refine lv_topi (fun v_1008 ev_1008 => ?_)
      have qv_1008 := ba_sub ev_1008 nc_1006.1 (bkc (x := 1) (c := 1) (by decide)) (by decide)
      have bv_1008 : (-1 : Int) ≤ v_1008.toInt ∧ v_1008.toInt ≤ 59 := bq_sub qv_1008 nc_1006.1 (bkc (x := 1) (c := 1) (by decide)) _ _ (by decide)
      have qv_1008 : v_1008.toInt = v_1005.toInt - (1) := qv_1008
      refine lv_i2l hx hb dX10_write_34 rfl ?_
      refine cSim (As := [.long (a2).toInt64, .long 0, .long (v_1008).toInt64]) (rest := []) ⟨hx, hb, hml, hown, hw0⟩ hA hK hP hD hS [] (sX10_in l G y _ ((a2).toInt64) 0 ((v_1008).toInt64) ) rfl ⟨(callB_of 3 hw0 (gA m_516) rfl rfl rfl (hw0 _ m_41) (hw0 _ m_345) cb_X10_in ⟨Nat.le_of_ble_eq_true rfl, Nat.le_of_ble_eq_true rfl⟩), (hw0 _ m_346)⟩ rfl hl.1 (Nat.le_of_ble_eq_true rfl) dX10_write_35 ⟨Nat.le_of_ble_eq_true rfl, Nat.le_of_ble_eq_true rfl⟩ (fun r_1009 w_1009 H locs hw_1009 hP hD hS => ?_)
      rcases hw_1009 with ⟨h_1010, rfl, rfl⟩ | ⟨h_1011, rfl, rfl⟩
      · skip
        have h_1012 : a2.toInt < (0 : Int) ∨ (v_1008.toInt : Int) < a2.toInt := in_n h_1010 (Int32.toInt_toInt64 _) (by decide) (Int32.toInt_toInt64 _)
        obtain ⟨hP, hD⟩ : vPD G A H [(ce_X10 ob ob_thrown ob_world ob_images ob_hasImage ob_tape ob_taped ob_five ob_size ob_at ob_from ob_token ob_value ob_faultKind ob_faultPlace ob_fresh ob_parts ob_houses ob_houseMany ob_worthOf ob_byCall ob_over ob_bestSet ob_bestOver ob_bestWorth ob_row ob_tenDebts ob_tenMany ob_fewestBy ob_covered ob_queue ob_cameBy ob_parent ob_met ob_calls ob_callMany ob_calledOn ob_saved ob_many ob_width ob_numbers ob_moving), (ce_i4 y ob_many fob_many), (ce_i4 y ob_width fob_width), (ce_l240 y ob_numbers fob_numbers)] := ⟨hP, hD⟩
        refine lv_if_ne (tgt := 44) hx hb dX10_write_38 (by decide) (fun c9 => absurd (by decide) c9) (fun _ => ?_)
        refine lv_bipush (v := (-7)) hx hb dX10_write_41 (by decide) ?_
        exact W.iret (v := (-7)) hx hb hr (fun t ht hW => ⟨⟨(-7), _, rfl, Or.inr (Or.inl (⟨by have h90 : Int32.toInt (-7) = -7 := (by decide); have h91 : Int32.toInt 2 = 2 := (by decide); omega, rfl, rfl⟩)), by rw [ht]; exact hP, hD⟩, hS.F ht⟩) hS.2.2 dX10_write_43
      · skip
        have h_1013 : (0 : Int) ≤ a2.toInt ∧ a2.toInt ≤ (v_1008.toInt : Int) := in_y h_1011 (Int32.toInt_toInt64 _) (by decide) (Int32.toInt_toInt64 _)
        have h_1014_0 := (btop a2)
        have h_1014_1 := True.intro
        have h_1014_2 := bv_1008
        have h_1014 : (0 : Int) ≤ a2.toInt ∧ a2.toInt ≤ 59 := by omega
        have h_1015 : (0 : Int) ≤ v_1008.toInt ∧ v_1008.toInt ≤ 59 := by have h9 := bv_1008; have h8 := h_1014; omega
        obtain ⟨hP, hD⟩ : vPD G A H [(ce_X10 ob ob_thrown ob_world ob_images ob_hasImage ob_tape ob_taped ob_five ob_size ob_at ob_from ob_token ob_value ob_faultKind ob_faultPlace ob_fresh ob_parts ob_houses ob_houseMany ob_worthOf ob_byCall ob_over ob_bestSet ob_bestOver ob_bestWorth ob_row ob_tenDebts ob_tenMany ob_fewestBy ob_covered ob_queue ob_cameBy ob_parent ob_met ob_calls ob_callMany ob_calledOn ob_saved ob_many ob_width ob_numbers ob_moving), (ce_i4 y ob_many fob_many), (ce_i4 y ob_width fob_width), (ce_l240 y ob_numbers fob_numbers)] := ⟨hP, hD⟩
        refine lv_if_ne (tgt := 44) hx hb dX10_write_38 (by decide) (fun _ => ?_) (fun c9 => absurd c9 (by decide))
        refine lv_aload_n hx hb dX10_write_44 rfl (lv_at hl 0 rfl) ?_
        refine va_get (D := G) (ci := 10) (v := .ref ob_numbers) (C := RX10) (T := TX10) (N := 41) hx hb hw0 inA_wsX100 hown hK.1 hP 0 rfl rfl 39 (by decide) (hw0 _ m_435) (fun _ h9 => h9) rfl dX10_write_45 ?_
        refine lv_bipush (v := 60) hx hb dX10_write_48 (by decide) ?_
        refine lv_iload_n hx hb dX10_write_50 rfl (lv_at hl 1 rfl) ?_
        refine lv_imul hx hb dX10_write_51 ?_
        refine lv_topi (fun v_1016 ev_1016 => ?_)
        obtain rfl : 120 = v_1016 := (ev_1016.trans (by decide)).symm
        refine lv_iload_n hx hb dX10_write_52 rfl (lv_at hl 2 rfl) ?_
        refine lv_iadd hx hb dX10_write_53 ?_
        refine lv_topi (fun v_1017 ev_1017 => ?_)
        have qv_1017 := ba_add ev_1017 (bkc (x := 120) (c := 120) (by decide)) h_1014 (by decide)
        have bv_1017 : (120 : Int) ≤ v_1017.toInt ∧ v_1017.toInt ≤ 179 := bq_add qv_1017 (bkc (x := 120) (c := 120) (by decide)) h_1014 _ _ (by decide)
        have qv_1017 : v_1017.toInt = (120) + a2.toInt := qv_1017
        refine lv_lload_n hx hb dX10_write_54 rfl (lv_at hl 3 rfl) ?_
        refine lv_aload_n hx hb dX10_write_55 rfl (lv_at hl 0 rfl) ?_
        refine va_get (D := G) (ci := 10) (v := .ref ob_width) (C := RX10) (T := TX10) (N := 41) hx hb hw0 inA_wsX100 hown hK.1 hP 0 rfl rfl 38 (by decide) (hw0 _ m_527) (fun _ h9 => h9) rfl dX10_write_56 ?_
        refine lv_iload_n hx hb dX10_write_59 rfl (lv_at hl 1 rfl) ?_
        refine va_iald hx hb hK.1 hP 2 1 rfl rfl (vi (bkc (x := 2) (c := 2) (by decide)) (by decide)) dX10_write_60 ?_
        refine lv_topi (fun v_1018 ev_1018 => ?_)
        have bv_1018 : (0 : Int) ≤ v_1018.toInt ∧ v_1018.toInt ≤ 3 := rd_b ev_1018 p_fob_width
        have yv_1018 : v_1018.toInt = (fob_width 2).toInt := congrArg Int32.toInt ev_1018
        refine cSlm (As := [.long a3, .int v_1018]) (rest := [.int v_1017, .ref ob_numbers]) ⟨hx, hb, hml, hown, hw0⟩ hA hK hP hD hS [] (gcut l G y _ a3 v_1018 bv_1018) rfl ⟨(callB_of 2 hw0 (gA m_412) rfl rfl rfl (hw0 _ m_41) (hw0 _ m_699) cb_X10_cut ⟨Nat.le_of_ble_eq_true rfl, Nat.le_of_ble_eq_true rfl⟩), (hw0 _ m_700)⟩ rfl hl.1 (Nat.le_of_ble_eq_true rfl) dX10_write_61 ⟨Nat.le_of_ble_eq_true rfl, Nat.le_of_ble_eq_true rfl⟩ (fun r_1019 w_1019 H locs hw_1019 hP hD hS => ?_)
        obtain ⟨v_1020, h_1021, er_1019, rfl⟩ := hw_1019
        subst r_1019
        obtain ⟨hP, hD⟩ : vPD G A H [(ce_X10 ob ob_thrown ob_world ob_images ob_hasImage ob_tape ob_taped ob_five ob_size ob_at ob_from ob_token ob_value ob_faultKind ob_faultPlace ob_fresh ob_parts ob_houses ob_houseMany ob_worthOf ob_byCall ob_over ob_bestSet ob_bestOver ob_bestWorth ob_row ob_tenDebts ob_tenMany ob_fewestBy ob_covered ob_queue ob_cameBy ob_parent ob_met ob_calls ob_callMany ob_calledOn ob_saved ob_many ob_width ob_numbers ob_moving), (ce_i4 y ob_many fob_many), (ce_i4 y ob_width fob_width), (ce_l240 y ob_numbers fob_numbers)] := ⟨hP, hD⟩
        have E_1022 := by have h9 := h_1021; rw [ev_1018] at h9; exact h9
        refine va_last hx hb hK.1 hP hD hS 3 2 rfl rfl (vi bv_1017 (by decide)) dX10_write_64 (fun H locs hP hD hS => ?_)
        generalize hf_1023 : (vp_updL fob_numbers (v_1017 : Int32).toNatClampNeg v_1020) = f_1023 at hP hD
        obtain ⟨hP, hD⟩ : vPD G A H [(ce_X10 ob ob_thrown ob_world ob_images ob_hasImage ob_tape ob_taped ob_five ob_size ob_at ob_from ob_token ob_value ob_faultKind ob_faultPlace ob_fresh ob_parts ob_houses ob_houseMany ob_worthOf ob_byCall ob_over ob_bestSet ob_bestOver ob_bestWorth ob_row ob_tenDebts ob_tenMany ob_fewestBy ob_covered ob_queue ob_cameBy ob_parent ob_met ob_calls ob_callMany ob_calledOn ob_saved ob_many ob_width ob_numbers ob_moving), (ce_i4 y ob_many fob_many), (ce_i4 y ob_width fob_width), (ce_l240 y ob_numbers f_1023)] := ⟨hP, hD⟩
        refine lv_iconst (v := 0) hx hb dX10_write_65 (by decide) ?_
        exact W.iret (v := 0) hx hb hr (fun t ht hW => ⟨⟨0, _, rfl, Or.inr (Or.inr (⟨f_1023, h_1014, by have h90 : Int32.toInt 0 = 0 := (by decide); have h91 : Int32.toInt 2 = 2 := (by decide); omega, (updl_m hf_1023 (by omega) (by omega) E_1022), rfl, rfl⟩)), by rw [ht]; exact hP, hD⟩, hS.F ht⟩) hS.2.2 dX10_write_66
    · skip
      have nc_1006 := nb_eq (-1) (-1) c_1006 bv_1005 (bkc (x := (-1)) (c := -1) (by decide)) (by decide)
      refine lv_bipush (v := (-6)) hx hb dX10_write_20 (by decide) ?_
      exact W.iret (v := (-6)) hx hb hr (fun t ht hW => ⟨⟨(-6), _, rfl, Or.inl (⟨by have h90 : Int32.toInt (-6) = -6 := (by decide); have h91 : Int32.toInt 2 = 2 := (by decide); omega, rfl, rfl⟩), by rw [ht]; exact hP, hD⟩, hS.F ht⟩) hS.2.2 dX10_write_22

set_option maxHeartbeats 4000000 in
set_option maxRecDepth 100000 in
theorem frowM3 (l : Launch) (G : va_G) (y : Nat → ClassId) (sz : Nat) (ob : Nat) (a2 : Int32) (a3 : Int32) (ob_thrown : Int32) (ob_world : Nat) (ob_images : Nat) (ob_hasImage : Nat) (ob_tape : Nat) (ob_taped : Int32) (ob_five : Nat) (ob_size : Int32) (ob_at : Int32) (ob_from : Int32) (ob_token : Int32) (ob_value : Int32) (ob_faultKind : Int32) (ob_faultPlace : Int32) (ob_fresh : Nat) (ob_parts : Nat) (ob_houses : Nat) (ob_houseMany : Int32) (ob_worthOf : Nat) (ob_byCall : Nat) (ob_over : Nat) (ob_bestSet : Int32) (ob_bestOver : Int32) (ob_bestWorth : Int32) (ob_row : Nat) (ob_tenDebts : Nat) (ob_tenMany : Int32) (ob_fewestBy : Nat) (ob_covered : Nat) (ob_queue : Nat) (ob_cameBy : Nat) (ob_parent : Nat) (ob_met : Nat) (ob_calls : Nat) (ob_callMany : Int32) (ob_calledOn : Nat) (ob_saved : Nat) (ob_many : Nat) (ob_width : Nat) (ob_numbers : Nat) (ob_moving : Nat) (fob_many : Nat → Int32) (fob_width : Nat → Int32) (fob_numbers : Nat → Int64) (p_ob_taped : (0 : Int) ≤ ob_taped.toInt ∧ ob_taped.toInt ≤ 1400) (p_ob_size : (0 : Int) ≤ ob_size.toInt ∧ ob_size.toInt ≤ 1400) (p_ob_at : (0 : Int) ≤ ob_at.toInt ∧ ob_at.toInt ≤ 1400) (p_ob_from : (0 : Int) ≤ ob_from.toInt ∧ ob_from.toInt ≤ 1400) (p_ob_token : (0 : Int) ≤ ob_token.toInt ∧ ob_token.toInt ≤ 4) (p_ob_value : (0 : Int) ≤ ob_value.toInt ∧ ob_value.toInt ≤ 9999) (p_ob_faultKind : (0 : Int) ≤ ob_faultKind.toInt ∧ ob_faultKind.toInt ≤ 3) (p_ob_houseMany : (0 : Int) ≤ ob_houseMany.toInt ∧ ob_houseMany.toInt ≤ 10) (p_ob_bestSet : (0 : Int) ≤ ob_bestSet.toInt ∧ ob_bestSet.toInt ≤ 1023) (p_ob_bestOver : (-1 : Int) ≤ ob_bestOver.toInt ∧ ob_bestOver.toInt ≤ 180) (p_ob_tenMany : (0 : Int) ≤ ob_tenMany.toInt ∧ ob_tenMany.toInt ≤ 10) (p_ob_callMany : (0 : Int) ≤ ob_callMany.toInt ∧ ob_callMany.toInt ≤ 16) (p_fob_many : ∀ i, (-1 : Int) ≤ (fob_many i).toInt ∧ (fob_many i).toInt ≤ 60) (p_fob_width : ∀ i, (0 : Int) ≤ (fob_width i).toInt ∧ (fob_width i).toInt ≤ 3) : Met l yX10_row (Cond.code yX10_row cX10_row 5 (some .int) :: wAll) ({ frames := 2, cells := 0, slots := 0, locals := 45 }) (va_Pc [.ref ob, .int 3, .int a2, .int a3] (kp G y sz [(ce_X10 ob ob_thrown ob_world ob_images ob_hasImage ob_tape ob_taped ob_five ob_size ob_at ob_from ob_token ob_value ob_faultKind ob_faultPlace ob_fresh ob_parts ob_houses ob_houseMany ob_worthOf ob_byCall ob_over ob_bestSet ob_bestOver ob_bestWorth ob_row ob_tenDebts ob_tenMany ob_fewestBy ob_covered ob_queue ob_cameBy ob_parent ob_met ob_calls ob_callMany ob_calledOn ob_saved ob_many ob_width ob_numbers ob_moving), (ce_i4 y ob_many fob_many), (ce_i4 y ob_width fob_width), (ce_l240 y ob_numbers fob_numbers)])) (va_Qi (fun (r : Int32) (w : va_W) => ((a2.toInt < 0 ∨ 3 < a2.toInt ∨ 60 < a3.toInt) ∧ r = (-2) ∧ w = [(ce_X10 ob ob_thrown ob_world ob_images ob_hasImage ob_tape ob_taped ob_five ob_size ob_at ob_from ob_token ob_value ob_faultKind ob_faultPlace ob_fresh ob_parts ob_houses ob_houseMany ob_worthOf ob_byCall ob_over ob_bestSet ob_bestOver ob_bestWorth ob_row ob_tenDebts ob_tenMany ob_fewestBy ob_covered ob_queue ob_cameBy ob_parent ob_met ob_calls ob_callMany ob_calledOn ob_saved ob_many ob_width ob_numbers ob_moving), (ce_i4 y ob_many fob_many), (ce_i4 y ob_width fob_width), (ce_l240 y ob_numbers fob_numbers)]) ∨ (((0 : Int) ≤ a2.toInt ∧ a2.toInt ≤ 3) ∧ (0 ≤ a2.toInt ∧ a2.toInt ≤ 3 ∧ a3.toInt < 0) ∧ r = (-3) ∧ w = [(ce_X10 ob ob_thrown ob_world ob_images ob_hasImage ob_tape ob_taped ob_five ob_size ob_at ob_from ob_token ob_value ob_faultKind ob_faultPlace ob_fresh ob_parts ob_houses ob_houseMany ob_worthOf ob_byCall ob_over ob_bestSet ob_bestOver ob_bestWorth ob_row ob_tenDebts ob_tenMany ob_fewestBy ob_covered ob_queue ob_cameBy ob_parent ob_met ob_calls ob_callMany ob_calledOn ob_saved ob_many ob_width ob_numbers ob_moving), (ce_i4 y ob_many fob_many), (ce_i4 y ob_width fob_width), (ce_l240 y ob_numbers fob_numbers)]) ∨ (∃ (f_195 : Nat → Int32) (f_196 : Nat → Int32) (f_197 : Nat → Int64), (∀ i, (-1 : Int) ≤ (f_195 i).toInt ∧ (f_195 i).toInt ≤ 60) ∧ (∀ i, (0 : Int) ≤ (f_196 i).toInt ∧ (f_196 i).toInt ≤ 3) ∧ ((0 : Int) ≤ a2.toInt ∧ a2.toInt ≤ 3) ∧ ((0 : Int) ≤ a3.toInt ∧ a3.toInt ≤ 60) ∧ (0 ≤ a2.toInt ∧ a2.toInt ≤ 3 ∧ 0 ≤ a3.toInt ∧ a3.toInt ≤ 60) ∧ ((f_195 0).toInt = (fob_many 0).toInt) ∧ ((f_196 0).toInt = (fob_width 0).toInt) ∧ ((f_195 1).toInt = (fob_many 1).toInt) ∧ ((f_196 1).toInt = (fob_width 1).toInt) ∧ ((f_195 2).toInt = (fob_many 2).toInt) ∧ ((f_196 2).toInt = (fob_width 2).toInt) ∧ ((f_195 3).toInt = a3.toInt) ∧ ((f_196 3).toInt = a2.toInt) ∧ (zL f_197 fob_numbers 180 60) ∧ r = 0 ∧ w = [(ce_X10 ob ob_thrown ob_world ob_images ob_hasImage ob_tape ob_taped ob_five ob_size ob_at ob_from ob_token ob_value ob_faultKind ob_faultPlace ob_fresh ob_parts ob_houses ob_houseMany ob_worthOf ob_byCall ob_over ob_bestSet ob_bestOver ob_bestWorth ob_row ob_tenDebts ob_tenMany ob_fewestBy ob_covered ob_queue ob_cameBy ob_parent ob_met ob_calls ob_callMany ob_calledOn ob_saved ob_many ob_width ob_numbers ob_moving), (ce_i4 y ob_many f_195), (ce_i4 y ob_width f_196), (ce_l240 y ob_numbers f_197)])) (kq G (va_A [(ce_X10 ob ob_thrown ob_world ob_images ob_hasImage ob_tape ob_taped ob_five ob_size ob_at ob_from ob_token ob_value ob_faultKind ob_faultPlace ob_fresh ob_parts ob_houses ob_houseMany ob_worthOf ob_byCall ob_over ob_bestSet ob_bestOver ob_bestWorth ob_row ob_tenDebts ob_tenMany ob_fewestBy ob_covered ob_queue ob_cameBy ob_parent ob_met ob_calls ob_callMany ob_calledOn ob_saved ob_many ob_width ob_numbers ob_moving), (ce_i4 y ob_many fob_many), (ce_i4 y ob_width fob_width), (ce_l240 y ob_numbers fob_numbers)] sz)) (va_A [(ce_X10 ob ob_thrown ob_world ob_images ob_hasImage ob_tape ob_taped ob_five ob_size ob_at ob_from ob_token ob_value ob_faultKind ob_faultPlace ob_fresh ob_parts ob_houses ob_houseMany ob_worthOf ob_byCall ob_over ob_bestSet ob_bestOver ob_bestWorth ob_row ob_tenDebts ob_tenMany ob_fewestBy ob_covered ob_queue ob_cameBy ob_parent ob_met ob_calls ob_callMany ob_calledOn ob_saved ob_many ob_width ob_numbers ob_moving), (ce_i4 y ob_many fob_many), (ce_i4 y ob_width fob_width), (ce_l240 y ob_numbers fob_numbers)] sz)) 0 0 (va_A [(ce_X10 ob ob_thrown ob_world ob_images ob_hasImage ob_tape ob_taped ob_five ob_size ob_at ob_from ob_token ob_value ob_faultKind ob_faultPlace ob_fresh ob_parts ob_houses ob_houseMany ob_worthOf ob_byCall ob_over ob_bestSet ob_bestOver ob_bestWorth ob_row ob_tenDebts ob_tenMany ob_fewestBy ob_covered ob_queue ob_cameBy ob_parent ob_met ob_calls ob_callMany ob_calledOn ob_saved ob_many ob_width ob_numbers ob_moving), (ce_i4 y ob_many fob_many), (ce_i4 y ob_width fob_width), (ce_l240 y ob_numbers fob_numbers)] sz) := by
  refine Met.ofW (cc := cX10_row) (maxL := 5) (ret := (some .int)) (by decide) rfl ?_
  intro p e s m args below meth c s₁ B hml hv
  obtain ⟨rfl, hsz, hP, hK, hD0⟩ := hv
  have hx := B.exec
  have hb := B.bytes
  have hr := B.returns
  have hw0 : ∀ w ∈ wAll, w.before _ s = true := fun w h => atoms_spec (ws := Cond.code yX10_row cX10_row 5 (some .int) :: wAll) B.pre w (List.mem_cons_of_mem _ h)
  have hown : s.vm.findClass RX10 = some m.cls := findClass_of_methodNamed B.named
  subst hsz
  have hD := hD0.self (sz := s.heap.size)
  generalize hAe : va_A [(ce_X10 ob ob_thrown ob_world ob_images ob_hasImage ob_tape ob_taped ob_five ob_size ob_at ob_from ob_token ob_value ob_faultKind ob_faultPlace ob_fresh ob_parts ob_houses ob_houseMany ob_worthOf ob_byCall ob_over ob_bestSet ob_bestOver ob_bestWorth ob_row ob_tenDebts ob_tenMany ob_fewestBy ob_covered ob_queue ob_cameBy ob_parent ob_met ob_calls ob_callMany ob_calledOn ob_saved ob_many ob_width ob_numbers ob_moving), (ce_i4 y ob_many fob_many), (ce_i4 y ob_width fob_width), (ce_l240 y ob_numbers fob_numbers)] s.heap.size = A at hD ⊢
  have hA : ∀ q : Nat, s.heap.size ≤ q → A q := fun q h => by rw [← hAe]; exact Or.inr h
  have hS : va_S A s.heap s.heap [] := va_S.rf
  have hP : va_P G vwCl [(ce_X10 ob ob_thrown ob_world ob_images ob_hasImage ob_tape ob_taped ob_five ob_size ob_at ob_from ob_token ob_value ob_faultKind ob_faultPlace ob_fresh ob_parts ob_houses ob_houseMany ob_worthOf ob_byCall ob_over ob_bestSet ob_bestOver ob_bestWorth ob_row ob_tenDebts ob_tenMany ob_fewestBy ob_covered ob_queue ob_cameBy ob_parent ob_met ob_calls ob_callMany ob_calledOn ob_saved ob_many ob_width ob_numbers ob_moving), (ce_i4 y ob_many fob_many), (ce_i4 y ob_width fob_width), (ce_l240 y ob_numbers fob_numbers)] s.heap := hP
  have hl := lv_entry ([.ref ob, .int 3, .int a2, .int a3]) (n := 5) (Nat.le_of_ble_eq_true rfl)
  rw [lg_entry_eq]
  generalize (lg_sl ([.ref ob, .int 3, .int a2, .int a3]) ++ List.replicate (5 - (lg_sl ([.ref ob, .int 3, .int a2, .int a3])).length) Slot.unset).toArray = ls at hl ⊢
  have hl : lv_has ls 5 [(0, .ref ob), (1, .int 3), (2, .int a2), (3, .int a3)] := hl
  refine lv_iload_n hx hb dX10_row_0 rfl (lv_at hl 1 rfl) ?_
  refine cSim (As := [.int 3]) (rest := []) ⟨hx, hb, hml, hown, hw0⟩ hA hK hP hD hS [] (gisSlotM l G y _ 3 ) rfl ⟨(callB_of 1 hw0 (gA m_543) rfl rfl rfl (hw0 _ m_41) (hw0 _ m_433) cb_X10_isSlot ⟨Nat.le_of_ble_eq_true rfl, Nat.le_of_ble_eq_true rfl⟩), (hw0 _ m_434)⟩ rfl hl.1 (Nat.le_of_ble_eq_true rfl) dX10_row_1 ⟨Nat.le_of_ble_eq_true rfl, Nat.le_of_ble_eq_true rfl⟩ (fun r_1001 w_1001 H locs hw_1001 hP hD hS => ?_)
  rcases hw_1001 with ⟨h_1002, rfl, rfl⟩ | ⟨h_1003, h_1004, rfl, rfl⟩
  · skip
    exact False.elim (by have h9 : Int32.toInt 3 = 3 := (by decide); omega)
  · skip
    obtain ⟨hP, hD⟩ : vPD G A H [(ce_X10 ob ob_thrown ob_world ob_images ob_hasImage ob_tape ob_taped ob_five ob_size ob_at ob_from ob_token ob_value ob_faultKind ob_faultPlace ob_fresh ob_parts ob_houses ob_houseMany ob_worthOf ob_byCall ob_over ob_bestSet ob_bestOver ob_bestWorth ob_row ob_tenDebts ob_tenMany ob_fewestBy ob_covered ob_queue ob_cameBy ob_parent ob_met ob_calls ob_callMany ob_calledOn ob_saved ob_many ob_width ob_numbers ob_moving), (ce_i4 y ob_many fob_many), (ce_i4 y ob_width fob_width), (ce_l240 y ob_numbers fob_numbers)] := ⟨hP, hD⟩
    refine lv_if_eq (tgt := 25) hx hb dX10_row_4 (by decide) (fun c9 => absurd c9 (by decide)) (fun _ => ?_)
    refine lv_iload_n hx hb dX10_row_7 rfl (lv_at hl 2 rfl) ?_
    refine lv_i2l hx hb dX10_row_8 rfl ?_
    refine lv_lconst (v := 0) hx hb dX10_row_9 (by decide) ?_
    refine lv_ldc2 (own := RX10) (v := 3) hx hb hown (hw0 _ m_398) dX10_row_10 ?_
    refine cSim (As := [.long (a2).toInt64, .long 0, .long 3]) (rest := []) ⟨hx, hb, hml, hown, hw0⟩ hA hK hP hD hS [] (sX10_in l G y _ ((a2).toInt64) 0 3 ) rfl ⟨(callB_of 3 hw0 (gA m_516) rfl rfl rfl (hw0 _ m_41) (hw0 _ m_345) cb_X10_in ⟨Nat.le_of_ble_eq_true rfl, Nat.le_of_ble_eq_true rfl⟩), (hw0 _ m_346)⟩ rfl hl.1 (Nat.le_of_ble_eq_true rfl) dX10_row_13 ⟨Nat.le_of_ble_eq_true rfl, Nat.le_of_ble_eq_true rfl⟩ (fun r_1005 w_1005 H locs hw_1005 hP hD hS => ?_)
    rcases hw_1005 with ⟨h_1006, rfl, rfl⟩ | ⟨h_1007, rfl, rfl⟩
    · skip
      have h_1008 : a2.toInt < (0 : Int) ∨ (3 : Int) < a2.toInt := in_n h_1006 (Int32.toInt_toInt64 _) (by decide) (by decide)
      obtain ⟨hP, hD⟩ : vPD G A H [(ce_X10 ob ob_thrown ob_world ob_images ob_hasImage ob_tape ob_taped ob_five ob_size ob_at ob_from ob_token ob_value ob_faultKind ob_faultPlace ob_fresh ob_parts ob_houses ob_houseMany ob_worthOf ob_byCall ob_over ob_bestSet ob_bestOver ob_bestWorth ob_row ob_tenDebts ob_tenMany ob_fewestBy ob_covered ob_queue ob_cameBy ob_parent ob_met ob_calls ob_callMany ob_calledOn ob_saved ob_many ob_width ob_numbers ob_moving), (ce_i4 y ob_many fob_many), (ce_i4 y ob_width fob_width), (ce_l240 y ob_numbers fob_numbers)] := ⟨hP, hD⟩
      refine lv_if_eq (tgt := 25) hx hb dX10_row_16 (by decide) (fun _ => ?_) (fun c9 => absurd (by decide) c9)
      refine lv_bipush (v := (-2)) hx hb dX10_row_25 (by decide) ?_
      exact W.iret (v := (-2)) hx hb hr (fun t ht hW => ⟨⟨(-2), _, rfl, Or.inl (⟨by have h90 : Int32.toInt (-2) = -2 := (by decide); have h91 : Int32.toInt 3 = 3 := (by decide); omega, rfl, rfl⟩), by rw [ht]; exact hP, hD⟩, hS.F ht⟩) hS.2.2 dX10_row_27
    · skip
      have h_1009 : (0 : Int) ≤ a2.toInt ∧ a2.toInt ≤ (3 : Int) := in_y h_1007 (Int32.toInt_toInt64 _) (by decide) (by decide)
      have h_1010_0 := (btop a2)
      have h_1010_1 := True.intro
      have h_1010_2 := True.intro
      have h_1010 : (0 : Int) ≤ a2.toInt ∧ a2.toInt ≤ 3 := by omega
      obtain ⟨hP, hD⟩ : vPD G A H [(ce_X10 ob ob_thrown ob_world ob_images ob_hasImage ob_tape ob_taped ob_five ob_size ob_at ob_from ob_token ob_value ob_faultKind ob_faultPlace ob_fresh ob_parts ob_houses ob_houseMany ob_worthOf ob_byCall ob_over ob_bestSet ob_bestOver ob_bestWorth ob_row ob_tenDebts ob_tenMany ob_fewestBy ob_covered ob_queue ob_cameBy ob_parent ob_met ob_calls ob_callMany ob_calledOn ob_saved ob_many ob_width ob_numbers ob_moving), (ce_i4 y ob_many fob_many), (ce_i4 y ob_width fob_width), (ce_l240 y ob_numbers fob_numbers)] := ⟨hP, hD⟩
      refine lv_if_eq (tgt := 25) hx hb dX10_row_16 (by decide) (fun c9 => absurd c9 (by decide)) (fun _ => ?_)
      refine lv_iload_n hx hb dX10_row_19 rfl (lv_at hl 3 rfl) ?_
      refine lv_bipush (v := 60) hx hb dX10_row_20 (by decide) ?_
      refine lv_icmp_le (tgt := 28) hx hb dX10_row_22 (by decide) (fun c_1011 => ?_) (fun c_1011 => ?_)
      · skip
        have nc_1011 := nb_le (60) (60) c_1011 (btop a3) (bkc (x := 60) (c := 60) (by decide)) (by decide)
        refine lv_iload_n hx hb dX10_row_28 rfl (lv_at hl 3 rfl) ?_
        refine lv_if_ge (tgt := 35) hx hb dX10_row_29 (by decide) (fun c_1012 => ?_) (fun c_1012 => ?_)
        · skip
          have nc_1012 := nb_le (0) (0) c_1012 (bkc (x := 0) (c := 0) (by decide)) nc_1011.1 (by decide)
          refine lv_aload_n hx hb dX10_row_35 rfl (lv_at hl 0 rfl) ?_
          refine va_get (D := G) (ci := 10) (v := .ref ob_many) (C := RX10) (T := TX10) (N := 41) hx hb hw0 inA_wsX100 hown hK.1 hP 0 rfl rfl 37 (by decide) (hw0 _ m_406) (fun _ h9 => h9) rfl dX10_row_36 ?_
          refine lv_iload_n hx hb dX10_row_39 rfl (lv_at hl 1 rfl) ?_
          refine lv_iload_n hx hb dX10_row_40 rfl (lv_at hl 3 rfl) ?_
          refine va_iast hx hb hK.1 hP hD hS 1 1 rfl rfl (vi (bkc (x := 3) (c := 3) (by decide)) (by decide)) dX10_row_41 (fun H locs hP hD hS => ?_)
          generalize hf_1013 : (upd fob_many (3 : Int32).toNatClampNeg a3) = f_1013 at hP hD
          have bf_1013 : ∀ i, (-1 : Int) ≤ (f_1013 i).toInt ∧ (f_1013 i).toInt ≤ 60 := hf_1013 ▸ up_b p_fob_many (bw (-1) (60) nc_1012.2.1 (by decide))
          have zf_1013_0 : (f_1013 0).toInt = (fob_many 0).toInt := hf_1013 ▸ pin_ne (ix_not (bkc (x := 3) (c := 3) (by decide)) (by decide))
          have zf_1013_1 : (f_1013 1).toInt = (fob_many 1).toInt := hf_1013 ▸ pin_ne (ix_not (bkc (x := 3) (c := 3) (by decide)) (by decide))
          have zf_1013_2 : (f_1013 2).toInt = (fob_many 2).toInt := hf_1013 ▸ pin_ne (ix_not (bkc (x := 3) (c := 3) (by decide)) (by decide))
          have zf_1013_3 : (f_1013 3).toInt = (a3 : Int32).toInt := hf_1013 ▸ pin_eq (by decide)
          obtain ⟨hP, hD⟩ : vPD G A H [(ce_X10 ob ob_thrown ob_world ob_images ob_hasImage ob_tape ob_taped ob_five ob_size ob_at ob_from ob_token ob_value ob_faultKind ob_faultPlace ob_fresh ob_parts ob_houses ob_houseMany ob_worthOf ob_byCall ob_over ob_bestSet ob_bestOver ob_bestWorth ob_row ob_tenDebts ob_tenMany ob_fewestBy ob_covered ob_queue ob_cameBy ob_parent ob_met ob_calls ob_callMany ob_calledOn ob_saved ob_many ob_width ob_numbers ob_moving), (ce_i4 y ob_many f_1013), (ce_i4 y ob_width fob_width), (ce_l240 y ob_numbers fob_numbers)] := ⟨hP, hD⟩
          refine lv_aload_n hx hb dX10_row_42 rfl (lv_at hl 0 rfl) ?_
          refine va_get (D := G) (ci := 10) (v := .ref ob_width) (C := RX10) (T := TX10) (N := 41) hx hb hw0 inA_wsX100 hown hK.1 hP 0 rfl rfl 38 (by decide) (hw0 _ m_527) (fun _ h9 => h9) rfl dX10_row_43 ?_
          refine lv_iload_n hx hb dX10_row_46 rfl (lv_at hl 1 rfl) ?_
          refine lv_iload_n hx hb dX10_row_47 rfl (lv_at hl 2 rfl) ?_
          refine va_iast hx hb hK.1 hP hD hS 2 1 rfl rfl (vi (bkc (x := 3) (c := 3) (by decide)) (by decide)) dX10_row_48 (fun H locs hP hD hS => ?_)
          generalize hf_1014 : (upd fob_width (3 : Int32).toNatClampNeg a2) = f_1014 at hP hD
          have bf_1014 : ∀ i, (0 : Int) ≤ (f_1014 i).toInt ∧ (f_1014 i).toInt ≤ 3 := hf_1014 ▸ up_b p_fob_width h_1010
          have zf_1014_0 : (f_1014 0).toInt = (fob_width 0).toInt := hf_1014 ▸ pin_ne (ix_not (bkc (x := 3) (c := 3) (by decide)) (by decide))
          have zf_1014_1 : (f_1014 1).toInt = (fob_width 1).toInt := hf_1014 ▸ pin_ne (ix_not (bkc (x := 3) (c := 3) (by decide)) (by decide))
          have zf_1014_2 : (f_1014 2).toInt = (fob_width 2).toInt := hf_1014 ▸ pin_ne (ix_not (bkc (x := 3) (c := 3) (by decide)) (by decide))
          have zf_1014_3 : (f_1014 3).toInt = (a2 : Int32).toInt := hf_1014 ▸ pin_eq (by decide)
          obtain ⟨hP, hD⟩ : vPD G A H [(ce_X10 ob ob_thrown ob_world ob_images ob_hasImage ob_tape ob_taped ob_five ob_size ob_at ob_from ob_token ob_value ob_faultKind ob_faultPlace ob_fresh ob_parts ob_houses ob_houseMany ob_worthOf ob_byCall ob_over ob_bestSet ob_bestOver ob_bestWorth ob_row ob_tenDebts ob_tenMany ob_fewestBy ob_covered ob_queue ob_cameBy ob_parent ob_met ob_calls ob_callMany ob_calledOn ob_saved ob_many ob_width ob_numbers ob_moving), (ce_i4 y ob_many f_1013), (ce_i4 y ob_width f_1014), (ce_l240 y ob_numbers fob_numbers)] := ⟨hP, hD⟩
          refine lv_iconst (v := 0) hx hb dX10_row_49 (by decide) ?_
          refine lv_istore (lv' := [(4, .int 0), (0, .ref ob), (1, .int 3), (2, .int a2), (3, .int a3)]) hx hb dX10_row_50 hl (by decide) rfl (fun ls hl => ?_)
          refine loopX (fun n H locs ls st => ∃ (v_1086 : Int32) (f_1087 : Nat → Int64), (60 - v_1086.toInt).toNat = n ∧ ((0 : Int) ≤ v_1086.toInt ∧ v_1086.toInt ≤ 60) ∧ (zL f_1087 fob_numbers 180 v_1086.toInt) ∧ st = [] ∧ vPD G A H [(ce_X10 ob ob_thrown ob_world ob_images ob_hasImage ob_tape ob_taped ob_five ob_size ob_at ob_from ob_token ob_value ob_faultKind ob_faultPlace ob_fresh ob_parts ob_houses ob_houseMany ob_worthOf ob_byCall ob_over ob_bestSet ob_bestOver ob_bestWorth ob_row ob_tenDebts ob_tenMany ob_fewestBy ob_covered ob_queue ob_cameBy ob_parent ob_met ob_calls ob_callMany ob_calledOn ob_saved ob_many ob_width ob_numbers ob_moving), (ce_i4 y ob_many f_1013), (ce_i4 y ob_width f_1014), (ce_l240 y ob_numbers f_1087)] ∧ va_S A s.heap H locs ∧ lv_has ls 5 [(4, .int v_1086), (0, .ref ob), (1, .int 3)]) ?_ (n := (60 - (0 : Int32).toInt).toNat) ⟨0, fob_numbers, rfl, (bw (0) (60) (bkc (x := 0) (c := 0) (by decide)) (by decide)), (zl_0 (by have h90 : Int32.toInt 0 = 0 := (by decide); have h91 : Int32.toInt 3 = 3 := (by decide); omega)), rfl, ⟨hP, hD⟩, hS, lv_sub hl [0, 1, 2] rfl⟩
          rintro n ih_1092 H locs ls st ⟨v_1086, f_1087, hn_1092, bv_1086, rl1087_0, rfl, ⟨hP, hD⟩, hS, hl⟩
          refine lv_iload hx hb dX10_row_52 (lv_at hl 0 rfl) ?_
          refine lv_bipush (v := 60) hx hb dX10_row_54 (by decide) ?_
          refine lv_icmp_ge (tgt := 78) hx hb dX10_row_56 (by decide) (fun c_1093 => ?_) (fun c_1093 => ?_)
          · skip
            have nc_1093 := nb_le (60) (60) c_1093 (bkc (x := 60) (c := 60) (by decide)) bv_1086 (by decide)
            refine lv_iconst (v := 0) hx hb dX10_row_78 (by decide) ?_
            exact W.iret (v := 0) hx hb hr (fun t ht hW => ⟨⟨0, _, rfl, Or.inr (Or.inr (⟨f_1013, f_1014, f_1087, bf_1013, bf_1014, h_1010, nc_1012.2.1, by have h90 : Int32.toInt 0 = 0 := (by decide); have h91 : Int32.toInt 3 = 3 := (by decide); omega, by have h90 : Int32.toInt 0 = 0 := (by decide); have h91 : Int32.toInt 3 = 3 := (by decide); omega, by have h90 : Int32.toInt 0 = 0 := (by decide); have h91 : Int32.toInt 3 = 3 := (by decide); omega, by have h90 : Int32.toInt 0 = 0 := (by decide); have h91 : Int32.toInt 3 = 3 := (by decide); omega, by have h90 : Int32.toInt 0 = 0 := (by decide); have h91 : Int32.toInt 3 = 3 := (by decide); omega, by have h90 : Int32.toInt 0 = 0 := (by decide); have h91 : Int32.toInt 3 = 3 := (by decide); omega, by have h90 : Int32.toInt 0 = 0 := (by decide); have h91 : Int32.toInt 3 = 3 := (by decide); omega, by have h90 : Int32.toInt 0 = 0 := (by decide); have h91 : Int32.toInt 3 = 3 := (by decide); omega, by have h90 : Int32.toInt 0 = 0 := (by decide); have h91 : Int32.toInt 3 = 3 := (by decide); omega, (zl_e rl1087_0 (by omega)), rfl, rfl⟩)), by rw [ht]; exact hP, hD⟩, hS.F ht⟩) hS.2.2 dX10_row_79
          · skip
            have nc_1093 := nb_nle (59) (60) c_1093 bv_1086 (bkc (x := 60) (c := 60) (by decide)) (by decide)
            refine lv_aload_n hx hb dX10_row_59 rfl (lv_at hl 1 rfl) ?_
            refine va_get (D := G) (ci := 10) (v := .ref ob_numbers) (C := RX10) (T := TX10) (N := 41) hx hb hw0 inA_wsX100 hown hK.1 hP 0 rfl rfl 39 (by decide) (hw0 _ m_435) (fun _ h9 => h9) rfl dX10_row_60 ?_
            refine lv_bipush (v := 60) hx hb dX10_row_63 (by decide) ?_
            refine lv_iload_n hx hb dX10_row_65 rfl (lv_at hl 2 rfl) ?_
            refine lv_imul hx hb dX10_row_66 ?_
            refine lv_topi (fun v_1094 ev_1094 => ?_)
            obtain rfl : 180 = v_1094 := (ev_1094.trans (by decide)).symm
            refine lv_iload hx hb dX10_row_67 (lv_at hl 0 rfl) ?_
            refine lv_iadd hx hb dX10_row_69 ?_
            refine lv_topi (fun v_1095 ev_1095 => ?_)
            have qv_1095 := ba_add ev_1095 (bkc (x := 180) (c := 180) (by decide)) nc_1093.1 (by decide)
            have bv_1095 : (180 : Int) ≤ v_1095.toInt ∧ v_1095.toInt ≤ 239 := bq_add qv_1095 (bkc (x := 180) (c := 180) (by decide)) nc_1093.1 _ _ (by decide)
            have qv_1095 : v_1095.toInt = (180) + v_1086.toInt := qv_1095
            refine lv_lconst (v := 0) hx hb dX10_row_70 (by decide) ?_
            refine va_last hx hb hK.1 hP hD hS 3 2 rfl rfl (vi bv_1095 (by decide)) dX10_row_71 (fun H locs hP hD hS => ?_)
            generalize hf_1096 : (vp_updL f_1087 (v_1095 : Int32).toNatClampNeg 0) = f_1096 at hP hD
            obtain ⟨hP, hD⟩ : vPD G A H [(ce_X10 ob ob_thrown ob_world ob_images ob_hasImage ob_tape ob_taped ob_five ob_size ob_at ob_from ob_token ob_value ob_faultKind ob_faultPlace ob_fresh ob_parts ob_houses ob_houseMany ob_worthOf ob_byCall ob_over ob_bestSet ob_bestOver ob_bestWorth ob_row ob_tenDebts ob_tenMany ob_fewestBy ob_covered ob_queue ob_cameBy ob_parent ob_met ob_calls ob_callMany ob_calledOn ob_saved ob_many ob_width ob_numbers ob_moving), (ce_i4 y ob_many f_1013), (ce_i4 y ob_width f_1014), (ce_l240 y ob_numbers f_1096)] := ⟨hP, hD⟩
            obtain ⟨v_1097, ev_1097⟩ : ∃ z : Int32, z = v_1086 + 1 := ⟨_, rfl⟩
            have qv_1097 := ba_add ev_1097 nc_1093.1 (bkc (x := 1) (c := 1) (by decide)) (by decide)
            have bv_1097 : (1 : Int) ≤ v_1097.toInt ∧ v_1097.toInt ≤ 60 := bq_add qv_1097 nc_1093.1 (bkc (x := 1) (c := 1) (by decide)) _ _ (by decide)
            have qv_1097 : v_1097.toInt = v_1086.toInt + (1) := qv_1097
            refine lv_iinc (v := v_1097) (lv' := [(4, .int v_1097), (0, .ref ob), (1, .int 3)]) hx hb dX10_row_72 hl (k := 0) rfl (ev_1097.symm) (by decide) rfl (fun ls hl => ?_)
            refine lv_goto (tgt := 52) hx hb dX10_row_75 (by decide) ?_
            exact ih_1092 _ (ml_inc (hi := 60) hn_1092 qv_1097 (by decide) ((bw (0) (60) bv_1097 (by decide))).2) _ _ _ _ ⟨v_1097, f_1096, rfl, (bw (0) (60) bv_1097 (by decide)), (zl_s rl1087_0 hf_1096 (by omega) ⟨by omega, by omega⟩ (by omega)), rfl, ⟨hP, hD⟩, hS, lv_sub hl [0, 1, 2] rfl⟩
        · skip
          have nc_1012 := nb_nle (-1) (0) c_1012 nc_1011.1 (bkc (x := 0) (c := 0) (by decide)) (by decide)
          refine lv_bipush (v := (-3)) hx hb dX10_row_32 (by decide) ?_
          exact W.iret (v := (-3)) hx hb hr (fun t ht hW => ⟨⟨(-3), _, rfl, Or.inr (Or.inl (⟨h_1010, by have h90 : Int32.toInt (-3) = -3 := (by decide); have h91 : Int32.toInt 3 = 3 := (by decide); omega, rfl, rfl⟩)), by rw [ht]; exact hP, hD⟩, hS.F ht⟩) hS.2.2 dX10_row_34
      · skip
        have nc_1011 := nb_nle (60) (61) c_1011 (bkc (x := 60) (c := 60) (by decide)) (btop a3) (by decide)
        refine lv_bipush (v := (-2)) hx hb dX10_row_25 (by decide) ?_
        exact W.iret (v := (-2)) hx hb hr (fun t ht hW => ⟨⟨(-2), _, rfl, Or.inl (⟨by have h90 : Int32.toInt (-2) = -2 := (by decide); have h91 : Int32.toInt 3 = 3 := (by decide); omega, rfl, rfl⟩), by rw [ht]; exact hP, hD⟩, hS.F ht⟩) hS.2.2 dX10_row_27

set_option maxHeartbeats 4000000 in
set_option maxRecDepth 100000 in
theorem fwriteM3 (l : Launch) (G : va_G) (y : Nat → ClassId) (sz : Nat) (ob : Nat) (a2 : Int32) (a3 : Int64) (ob_thrown : Int32) (ob_world : Nat) (ob_images : Nat) (ob_hasImage : Nat) (ob_tape : Nat) (ob_taped : Int32) (ob_five : Nat) (ob_size : Int32) (ob_at : Int32) (ob_from : Int32) (ob_token : Int32) (ob_value : Int32) (ob_faultKind : Int32) (ob_faultPlace : Int32) (ob_fresh : Nat) (ob_parts : Nat) (ob_houses : Nat) (ob_houseMany : Int32) (ob_worthOf : Nat) (ob_byCall : Nat) (ob_over : Nat) (ob_bestSet : Int32) (ob_bestOver : Int32) (ob_bestWorth : Int32) (ob_row : Nat) (ob_tenDebts : Nat) (ob_tenMany : Int32) (ob_fewestBy : Nat) (ob_covered : Nat) (ob_queue : Nat) (ob_cameBy : Nat) (ob_parent : Nat) (ob_met : Nat) (ob_calls : Nat) (ob_callMany : Int32) (ob_calledOn : Nat) (ob_saved : Nat) (ob_many : Nat) (ob_width : Nat) (ob_numbers : Nat) (ob_moving : Nat) (fob_many : Nat → Int32) (fob_width : Nat → Int32) (fob_numbers : Nat → Int64) (p_ob_taped : (0 : Int) ≤ ob_taped.toInt ∧ ob_taped.toInt ≤ 1400) (p_ob_size : (0 : Int) ≤ ob_size.toInt ∧ ob_size.toInt ≤ 1400) (p_ob_at : (0 : Int) ≤ ob_at.toInt ∧ ob_at.toInt ≤ 1400) (p_ob_from : (0 : Int) ≤ ob_from.toInt ∧ ob_from.toInt ≤ 1400) (p_ob_token : (0 : Int) ≤ ob_token.toInt ∧ ob_token.toInt ≤ 4) (p_ob_value : (0 : Int) ≤ ob_value.toInt ∧ ob_value.toInt ≤ 9999) (p_ob_faultKind : (0 : Int) ≤ ob_faultKind.toInt ∧ ob_faultKind.toInt ≤ 3) (p_ob_houseMany : (0 : Int) ≤ ob_houseMany.toInt ∧ ob_houseMany.toInt ≤ 10) (p_ob_bestSet : (0 : Int) ≤ ob_bestSet.toInt ∧ ob_bestSet.toInt ≤ 1023) (p_ob_bestOver : (-1 : Int) ≤ ob_bestOver.toInt ∧ ob_bestOver.toInt ≤ 180) (p_ob_tenMany : (0 : Int) ≤ ob_tenMany.toInt ∧ ob_tenMany.toInt ≤ 10) (p_ob_callMany : (0 : Int) ≤ ob_callMany.toInt ∧ ob_callMany.toInt ≤ 16) (p_fob_many : ∀ i, (-1 : Int) ≤ (fob_many i).toInt ∧ (fob_many i).toInt ≤ 60) (p_fob_width : ∀ i, (0 : Int) ≤ (fob_width i).toInt ∧ (fob_width i).toInt ≤ 3) : Met l yX10_write (Cond.code yX10_write cX10_write 5 (some .int) :: wAll) ({ frames := 2, cells := 0, slots := 0, locals := 45 }) (va_Pc [.ref ob, .int 3, .int a2, .long a3] (kp G y sz [(ce_X10 ob ob_thrown ob_world ob_images ob_hasImage ob_tape ob_taped ob_five ob_size ob_at ob_from ob_token ob_value ob_faultKind ob_faultPlace ob_fresh ob_parts ob_houses ob_houseMany ob_worthOf ob_byCall ob_over ob_bestSet ob_bestOver ob_bestWorth ob_row ob_tenDebts ob_tenMany ob_fewestBy ob_covered ob_queue ob_cameBy ob_parent ob_met ob_calls ob_callMany ob_calledOn ob_saved ob_many ob_width ob_numbers ob_moving), (ce_i4 y ob_many fob_many), (ce_i4 y ob_width fob_width), (ce_l240 y ob_numbers fob_numbers)])) (va_Qi (fun (r : Int32) (w : va_W) => (((fob_many 3).toInt = -1) ∧ r = (-6) ∧ w = [(ce_X10 ob ob_thrown ob_world ob_images ob_hasImage ob_tape ob_taped ob_five ob_size ob_at ob_from ob_token ob_value ob_faultKind ob_faultPlace ob_fresh ob_parts ob_houses ob_houseMany ob_worthOf ob_byCall ob_over ob_bestSet ob_bestOver ob_bestWorth ob_row ob_tenDebts ob_tenMany ob_fewestBy ob_covered ob_queue ob_cameBy ob_parent ob_met ob_calls ob_callMany ob_calledOn ob_saved ob_many ob_width ob_numbers ob_moving), (ce_i4 y ob_many fob_many), (ce_i4 y ob_width fob_width), (ce_l240 y ob_numbers fob_numbers)]) ∨ ((¬ (fob_many 3).toInt = -1 ∧ (a2.toInt < 0 ∨ (fob_many 3).toInt ≤ a2.toInt)) ∧ r = (-7) ∧ w = [(ce_X10 ob ob_thrown ob_world ob_images ob_hasImage ob_tape ob_taped ob_five ob_size ob_at ob_from ob_token ob_value ob_faultKind ob_faultPlace ob_fresh ob_parts ob_houses ob_houseMany ob_worthOf ob_byCall ob_over ob_bestSet ob_bestOver ob_bestWorth ob_row ob_tenDebts ob_tenMany ob_fewestBy ob_covered ob_queue ob_cameBy ob_parent ob_met ob_calls ob_callMany ob_calledOn ob_saved ob_many ob_width ob_numbers ob_moving), (ce_i4 y ob_many fob_many), (ce_i4 y ob_width fob_width), (ce_l240 y ob_numbers fob_numbers)]) ∨ (∃ (f_47 : Nat → Int64), ((0 : Int) ≤ a2.toInt ∧ a2.toInt ≤ 59) ∧ (¬ (fob_many 3).toInt = -1 ∧ 0 ≤ a2.toInt ∧ a2.toInt < (fob_many 3).toInt) ∧ (f_47 = vp_updL fob_numbers (180 + a2.toInt.toNat) (qcut (fob_width 3) a3)) ∧ r = 0 ∧ w = [(ce_X10 ob ob_thrown ob_world ob_images ob_hasImage ob_tape ob_taped ob_five ob_size ob_at ob_from ob_token ob_value ob_faultKind ob_faultPlace ob_fresh ob_parts ob_houses ob_houseMany ob_worthOf ob_byCall ob_over ob_bestSet ob_bestOver ob_bestWorth ob_row ob_tenDebts ob_tenMany ob_fewestBy ob_covered ob_queue ob_cameBy ob_parent ob_met ob_calls ob_callMany ob_calledOn ob_saved ob_many ob_width ob_numbers ob_moving), (ce_i4 y ob_many fob_many), (ce_i4 y ob_width fob_width), (ce_l240 y ob_numbers f_47)])) (kq G (va_A [(ce_X10 ob ob_thrown ob_world ob_images ob_hasImage ob_tape ob_taped ob_five ob_size ob_at ob_from ob_token ob_value ob_faultKind ob_faultPlace ob_fresh ob_parts ob_houses ob_houseMany ob_worthOf ob_byCall ob_over ob_bestSet ob_bestOver ob_bestWorth ob_row ob_tenDebts ob_tenMany ob_fewestBy ob_covered ob_queue ob_cameBy ob_parent ob_met ob_calls ob_callMany ob_calledOn ob_saved ob_many ob_width ob_numbers ob_moving), (ce_i4 y ob_many fob_many), (ce_i4 y ob_width fob_width), (ce_l240 y ob_numbers fob_numbers)] sz)) (va_A [(ce_X10 ob ob_thrown ob_world ob_images ob_hasImage ob_tape ob_taped ob_five ob_size ob_at ob_from ob_token ob_value ob_faultKind ob_faultPlace ob_fresh ob_parts ob_houses ob_houseMany ob_worthOf ob_byCall ob_over ob_bestSet ob_bestOver ob_bestWorth ob_row ob_tenDebts ob_tenMany ob_fewestBy ob_covered ob_queue ob_cameBy ob_parent ob_met ob_calls ob_callMany ob_calledOn ob_saved ob_many ob_width ob_numbers ob_moving), (ce_i4 y ob_many fob_many), (ce_i4 y ob_width fob_width), (ce_l240 y ob_numbers fob_numbers)] sz)) 0 0 (va_A [(ce_X10 ob ob_thrown ob_world ob_images ob_hasImage ob_tape ob_taped ob_five ob_size ob_at ob_from ob_token ob_value ob_faultKind ob_faultPlace ob_fresh ob_parts ob_houses ob_houseMany ob_worthOf ob_byCall ob_over ob_bestSet ob_bestOver ob_bestWorth ob_row ob_tenDebts ob_tenMany ob_fewestBy ob_covered ob_queue ob_cameBy ob_parent ob_met ob_calls ob_callMany ob_calledOn ob_saved ob_many ob_width ob_numbers ob_moving), (ce_i4 y ob_many fob_many), (ce_i4 y ob_width fob_width), (ce_l240 y ob_numbers fob_numbers)] sz) := by
  refine Met.ofW (cc := cX10_write) (maxL := 5) (ret := (some .int)) (by decide) rfl ?_
  intro p e s m args below meth c s₁ B hml hv
  obtain ⟨rfl, hsz, hP, hK, hD0⟩ := hv
  have hx := B.exec
  have hb := B.bytes
  have hr := B.returns
  have hw0 : ∀ w ∈ wAll, w.before _ s = true := fun w h => atoms_spec (ws := Cond.code yX10_write cX10_write 5 (some .int) :: wAll) B.pre w (List.mem_cons_of_mem _ h)
  have hown : s.vm.findClass RX10 = some m.cls := findClass_of_methodNamed B.named
  subst hsz
  have hD := hD0.self (sz := s.heap.size)
  generalize hAe : va_A [(ce_X10 ob ob_thrown ob_world ob_images ob_hasImage ob_tape ob_taped ob_five ob_size ob_at ob_from ob_token ob_value ob_faultKind ob_faultPlace ob_fresh ob_parts ob_houses ob_houseMany ob_worthOf ob_byCall ob_over ob_bestSet ob_bestOver ob_bestWorth ob_row ob_tenDebts ob_tenMany ob_fewestBy ob_covered ob_queue ob_cameBy ob_parent ob_met ob_calls ob_callMany ob_calledOn ob_saved ob_many ob_width ob_numbers ob_moving), (ce_i4 y ob_many fob_many), (ce_i4 y ob_width fob_width), (ce_l240 y ob_numbers fob_numbers)] s.heap.size = A at hD ⊢
  have hA : ∀ q : Nat, s.heap.size ≤ q → A q := fun q h => by rw [← hAe]; exact Or.inr h
  have hS : va_S A s.heap s.heap [] := va_S.rf
  have hP : va_P G vwCl [(ce_X10 ob ob_thrown ob_world ob_images ob_hasImage ob_tape ob_taped ob_five ob_size ob_at ob_from ob_token ob_value ob_faultKind ob_faultPlace ob_fresh ob_parts ob_houses ob_houseMany ob_worthOf ob_byCall ob_over ob_bestSet ob_bestOver ob_bestWorth ob_row ob_tenDebts ob_tenMany ob_fewestBy ob_covered ob_queue ob_cameBy ob_parent ob_met ob_calls ob_callMany ob_calledOn ob_saved ob_many ob_width ob_numbers ob_moving), (ce_i4 y ob_many fob_many), (ce_i4 y ob_width fob_width), (ce_l240 y ob_numbers fob_numbers)] s.heap := hP
  have hl := lv_entry ([.ref ob, .int 3, .int a2, .long a3]) (n := 5) (Nat.le_of_ble_eq_true rfl)
  rw [lg_entry_eq]
  generalize (lg_sl ([.ref ob, .int 3, .int a2, .long a3]) ++ List.replicate (5 - (lg_sl ([.ref ob, .int 3, .int a2, .long a3])).length) Slot.unset).toArray = ls at hl ⊢
  have hl : lv_has ls 5 [(0, .ref ob), (1, .int 3), (2, .int a2), (3, .long a3)] := hl
  refine lv_iload_n hx hb dX10_write_0 rfl (lv_at hl 1 rfl) ?_
  refine cSim (As := [.int 3]) (rest := []) ⟨hx, hb, hml, hown, hw0⟩ hA hK hP hD hS [] (gisSlotM l G y _ 3 ) rfl ⟨(callB_of 1 hw0 (gA m_543) rfl rfl rfl (hw0 _ m_41) (hw0 _ m_433) cb_X10_isSlot ⟨Nat.le_of_ble_eq_true rfl, Nat.le_of_ble_eq_true rfl⟩), (hw0 _ m_434)⟩ rfl hl.1 (Nat.le_of_ble_eq_true rfl) dX10_write_1 ⟨Nat.le_of_ble_eq_true rfl, Nat.le_of_ble_eq_true rfl⟩ (fun r_1001 w_1001 H locs hw_1001 hP hD hS => ?_)
  rcases hw_1001 with ⟨h_1002, rfl, rfl⟩ | ⟨h_1003, h_1004, rfl, rfl⟩
  · skip
    exact False.elim (by have h9 : Int32.toInt 3 = 3 := (by decide); omega)
  · skip
    obtain ⟨hP, hD⟩ : vPD G A H [(ce_X10 ob ob_thrown ob_world ob_images ob_hasImage ob_tape ob_taped ob_five ob_size ob_at ob_from ob_token ob_value ob_faultKind ob_faultPlace ob_fresh ob_parts ob_houses ob_houseMany ob_worthOf ob_byCall ob_over ob_bestSet ob_bestOver ob_bestWorth ob_row ob_tenDebts ob_tenMany ob_fewestBy ob_covered ob_queue ob_cameBy ob_parent ob_met ob_calls ob_callMany ob_calledOn ob_saved ob_many ob_width ob_numbers ob_moving), (ce_i4 y ob_many fob_many), (ce_i4 y ob_width fob_width), (ce_l240 y ob_numbers fob_numbers)] := ⟨hP, hD⟩
    refine lv_if_ne (tgt := 10) hx hb dX10_write_4 (by decide) (fun _ => ?_) (fun c9 => absurd c9 (by decide))
    refine lv_aload_n hx hb dX10_write_10 rfl (lv_at hl 0 rfl) ?_
    refine va_get (D := G) (ci := 10) (v := .ref ob_many) (C := RX10) (T := TX10) (N := 41) hx hb hw0 inA_wsX100 hown hK.1 hP 0 rfl rfl 37 (by decide) (hw0 _ m_406) (fun _ h9 => h9) rfl dX10_write_11 ?_
    refine lv_iload_n hx hb dX10_write_14 rfl (lv_at hl 1 rfl) ?_
    refine va_iald hx hb hK.1 hP 1 1 rfl rfl (vi (bkc (x := 3) (c := 3) (by decide)) (by decide)) dX10_write_15 ?_
    refine lv_topi (fun v_1005 ev_1005 => ?_)
    have bv_1005 : (-1 : Int) ≤ v_1005.toInt ∧ v_1005.toInt ≤ 60 := rd_b ev_1005 p_fob_many
    have yv_1005 : v_1005.toInt = (fob_many 3).toInt := congrArg Int32.toInt ev_1005
    refine lv_iconst (v := (-1)) hx hb dX10_write_16 (by decide) ?_
    refine lv_icmp_ne (tgt := 23) hx hb dX10_write_17 (by decide) (fun c_1006 => ?_) (fun c_1006 => ?_)
    · skip
      have nc_1006 := nb_ne (0) (60) c_1006 bv_1005 (k := -1) (by decide) (by decide)
      refine lv_iload_n hx hb dX10_write_23 rfl (lv_at hl 2 rfl) ?_
      refine lv_i2l hx hb dX10_write_24 rfl ?_
      refine lv_lconst (v := 0) hx hb dX10_write_25 (by decide) ?_
      refine lv_aload_n hx hb dX10_write_26 rfl (lv_at hl 0 rfl) ?_
      refine va_get (D := G) (ci := 10) (v := .ref ob_many) (C := RX10) (T := TX10) (N := 41) hx hb hw0 inA_wsX100 hown hK.1 hP 0 rfl rfl 37 (by decide) (hw0 _ m_406) (fun _ h9 => h9) rfl dX10_write_27 ?_
      refine lv_iload_n hx hb dX10_write_30 rfl (lv_at hl 1 rfl) ?_
      refine va_iald hx hb hK.1 hP 1 1 rfl rfl (vi (bkc (x := 3) (c := 3) (by decide)) (by decide)) dX10_write_31 ?_
      refine lv_topi (fun v_1007 ev_1007 => ?_)
      obtain rfl : v_1005 = v_1007 := (ev_1007.trans (ev_1005.symm)).symm
      refine lv_iconst (v := 1) hx hb dX10_write_32 (by decide) ?_
      refine lv_isub hx hb dX10_write_33 ?_
      refine lv_topi (fun v_1008 ev_1008 => ?_)
      have qv_1008 := ba_sub ev_1008 nc_1006.1 (bkc (x := 1) (c := 1) (by decide)) (by decide)
      have bv_1008 : (-1 : Int) ≤ v_1008.toInt ∧ v_1008.toInt ≤ 59 := bq_sub qv_1008 nc_1006.1 (bkc (x := 1) (c := 1) (by decide)) _ _ (by decide)
      have qv_1008 : v_1008.toInt = v_1005.toInt - (1) := qv_1008
      refine lv_i2l hx hb dX10_write_34 rfl ?_
      refine cSim (As := [.long (a2).toInt64, .long 0, .long (v_1008).toInt64]) (rest := []) ⟨hx, hb, hml, hown, hw0⟩ hA hK hP hD hS [] (sX10_in l G y _ ((a2).toInt64) 0 ((v_1008).toInt64) ) rfl ⟨(callB_of 3 hw0 (gA m_516) rfl rfl rfl (hw0 _ m_41) (hw0 _ m_345) cb_X10_in ⟨Nat.le_of_ble_eq_true rfl, Nat.le_of_ble_eq_true rfl⟩), (hw0 _ m_346)⟩ rfl hl.1 (Nat.le_of_ble_eq_true rfl) dX10_write_35 ⟨Nat.le_of_ble_eq_true rfl, Nat.le_of_ble_eq_true rfl⟩ (fun r_1009 w_1009 H locs hw_1009 hP hD hS => ?_)
      rcases hw_1009 with ⟨h_1010, rfl, rfl⟩ | ⟨h_1011, rfl, rfl⟩
      · skip
        have h_1012 : a2.toInt < (0 : Int) ∨ (v_1008.toInt : Int) < a2.toInt := in_n h_1010 (Int32.toInt_toInt64 _) (by decide) (Int32.toInt_toInt64 _)
        obtain ⟨hP, hD⟩ : vPD G A H [(ce_X10 ob ob_thrown ob_world ob_images ob_hasImage ob_tape ob_taped ob_five ob_size ob_at ob_from ob_token ob_value ob_faultKind ob_faultPlace ob_fresh ob_parts ob_houses ob_houseMany ob_worthOf ob_byCall ob_over ob_bestSet ob_bestOver ob_bestWorth ob_row ob_tenDebts ob_tenMany ob_fewestBy ob_covered ob_queue ob_cameBy ob_parent ob_met ob_calls ob_callMany ob_calledOn ob_saved ob_many ob_width ob_numbers ob_moving), (ce_i4 y ob_many fob_many), (ce_i4 y ob_width fob_width), (ce_l240 y ob_numbers fob_numbers)] := ⟨hP, hD⟩
        refine lv_if_ne (tgt := 44) hx hb dX10_write_38 (by decide) (fun c9 => absurd (by decide) c9) (fun _ => ?_)
        refine lv_bipush (v := (-7)) hx hb dX10_write_41 (by decide) ?_
        exact W.iret (v := (-7)) hx hb hr (fun t ht hW => ⟨⟨(-7), _, rfl, Or.inr (Or.inl (⟨by have h90 : Int32.toInt (-7) = -7 := (by decide); have h91 : Int32.toInt 3 = 3 := (by decide); omega, rfl, rfl⟩)), by rw [ht]; exact hP, hD⟩, hS.F ht⟩) hS.2.2 dX10_write_43
      · skip
        have h_1013 : (0 : Int) ≤ a2.toInt ∧ a2.toInt ≤ (v_1008.toInt : Int) := in_y h_1011 (Int32.toInt_toInt64 _) (by decide) (Int32.toInt_toInt64 _)
        have h_1014_0 := (btop a2)
        have h_1014_1 := True.intro
        have h_1014_2 := bv_1008
        have h_1014 : (0 : Int) ≤ a2.toInt ∧ a2.toInt ≤ 59 := by omega
        have h_1015 : (0 : Int) ≤ v_1008.toInt ∧ v_1008.toInt ≤ 59 := by have h9 := bv_1008; have h8 := h_1014; omega
        obtain ⟨hP, hD⟩ : vPD G A H [(ce_X10 ob ob_thrown ob_world ob_images ob_hasImage ob_tape ob_taped ob_five ob_size ob_at ob_from ob_token ob_value ob_faultKind ob_faultPlace ob_fresh ob_parts ob_houses ob_houseMany ob_worthOf ob_byCall ob_over ob_bestSet ob_bestOver ob_bestWorth ob_row ob_tenDebts ob_tenMany ob_fewestBy ob_covered ob_queue ob_cameBy ob_parent ob_met ob_calls ob_callMany ob_calledOn ob_saved ob_many ob_width ob_numbers ob_moving), (ce_i4 y ob_many fob_many), (ce_i4 y ob_width fob_width), (ce_l240 y ob_numbers fob_numbers)] := ⟨hP, hD⟩
        refine lv_if_ne (tgt := 44) hx hb dX10_write_38 (by decide) (fun _ => ?_) (fun c9 => absurd c9 (by decide))
        refine lv_aload_n hx hb dX10_write_44 rfl (lv_at hl 0 rfl) ?_
        refine va_get (D := G) (ci := 10) (v := .ref ob_numbers) (C := RX10) (T := TX10) (N := 41) hx hb hw0 inA_wsX100 hown hK.1 hP 0 rfl rfl 39 (by decide) (hw0 _ m_435) (fun _ h9 => h9) rfl dX10_write_45 ?_
        refine lv_bipush (v := 60) hx hb dX10_write_48 (by decide) ?_
        refine lv_iload_n hx hb dX10_write_50 rfl (lv_at hl 1 rfl) ?_
        refine lv_imul hx hb dX10_write_51 ?_
        refine lv_topi (fun v_1016 ev_1016 => ?_)
        obtain rfl : 180 = v_1016 := (ev_1016.trans (by decide)).symm
        refine lv_iload_n hx hb dX10_write_52 rfl (lv_at hl 2 rfl) ?_
        refine lv_iadd hx hb dX10_write_53 ?_
        refine lv_topi (fun v_1017 ev_1017 => ?_)
        have qv_1017 := ba_add ev_1017 (bkc (x := 180) (c := 180) (by decide)) h_1014 (by decide)
        have bv_1017 : (180 : Int) ≤ v_1017.toInt ∧ v_1017.toInt ≤ 239 := bq_add qv_1017 (bkc (x := 180) (c := 180) (by decide)) h_1014 _ _ (by decide)
        have qv_1017 : v_1017.toInt = (180) + a2.toInt := qv_1017
        refine lv_lload_n hx hb dX10_write_54 rfl (lv_at hl 3 rfl) ?_
        refine lv_aload_n hx hb dX10_write_55 rfl (lv_at hl 0 rfl) ?_
        refine va_get (D := G) (ci := 10) (v := .ref ob_width) (C := RX10) (T := TX10) (N := 41) hx hb hw0 inA_wsX100 hown hK.1 hP 0 rfl rfl 38 (by decide) (hw0 _ m_527) (fun _ h9 => h9) rfl dX10_write_56 ?_
        refine lv_iload_n hx hb dX10_write_59 rfl (lv_at hl 1 rfl) ?_
        refine va_iald hx hb hK.1 hP 2 1 rfl rfl (vi (bkc (x := 3) (c := 3) (by decide)) (by decide)) dX10_write_60 ?_
        refine lv_topi (fun v_1018 ev_1018 => ?_)
        have bv_1018 : (0 : Int) ≤ v_1018.toInt ∧ v_1018.toInt ≤ 3 := rd_b ev_1018 p_fob_width
        have yv_1018 : v_1018.toInt = (fob_width 3).toInt := congrArg Int32.toInt ev_1018
        refine cSlm (As := [.long a3, .int v_1018]) (rest := [.int v_1017, .ref ob_numbers]) ⟨hx, hb, hml, hown, hw0⟩ hA hK hP hD hS [] (gcut l G y _ a3 v_1018 bv_1018) rfl ⟨(callB_of 2 hw0 (gA m_412) rfl rfl rfl (hw0 _ m_41) (hw0 _ m_699) cb_X10_cut ⟨Nat.le_of_ble_eq_true rfl, Nat.le_of_ble_eq_true rfl⟩), (hw0 _ m_700)⟩ rfl hl.1 (Nat.le_of_ble_eq_true rfl) dX10_write_61 ⟨Nat.le_of_ble_eq_true rfl, Nat.le_of_ble_eq_true rfl⟩ (fun r_1019 w_1019 H locs hw_1019 hP hD hS => ?_)
        obtain ⟨v_1020, h_1021, er_1019, rfl⟩ := hw_1019
        subst r_1019
        obtain ⟨hP, hD⟩ : vPD G A H [(ce_X10 ob ob_thrown ob_world ob_images ob_hasImage ob_tape ob_taped ob_five ob_size ob_at ob_from ob_token ob_value ob_faultKind ob_faultPlace ob_fresh ob_parts ob_houses ob_houseMany ob_worthOf ob_byCall ob_over ob_bestSet ob_bestOver ob_bestWorth ob_row ob_tenDebts ob_tenMany ob_fewestBy ob_covered ob_queue ob_cameBy ob_parent ob_met ob_calls ob_callMany ob_calledOn ob_saved ob_many ob_width ob_numbers ob_moving), (ce_i4 y ob_many fob_many), (ce_i4 y ob_width fob_width), (ce_l240 y ob_numbers fob_numbers)] := ⟨hP, hD⟩
        have E_1022 := by have h9 := h_1021; rw [ev_1018] at h9; exact h9
        refine va_last hx hb hK.1 hP hD hS 3 2 rfl rfl (vi bv_1017 (by decide)) dX10_write_64 (fun H locs hP hD hS => ?_)
        generalize hf_1023 : (vp_updL fob_numbers (v_1017 : Int32).toNatClampNeg v_1020) = f_1023 at hP hD
        obtain ⟨hP, hD⟩ : vPD G A H [(ce_X10 ob ob_thrown ob_world ob_images ob_hasImage ob_tape ob_taped ob_five ob_size ob_at ob_from ob_token ob_value ob_faultKind ob_faultPlace ob_fresh ob_parts ob_houses ob_houseMany ob_worthOf ob_byCall ob_over ob_bestSet ob_bestOver ob_bestWorth ob_row ob_tenDebts ob_tenMany ob_fewestBy ob_covered ob_queue ob_cameBy ob_parent ob_met ob_calls ob_callMany ob_calledOn ob_saved ob_many ob_width ob_numbers ob_moving), (ce_i4 y ob_many fob_many), (ce_i4 y ob_width fob_width), (ce_l240 y ob_numbers f_1023)] := ⟨hP, hD⟩
        refine lv_iconst (v := 0) hx hb dX10_write_65 (by decide) ?_
        exact W.iret (v := 0) hx hb hr (fun t ht hW => ⟨⟨0, _, rfl, Or.inr (Or.inr (⟨f_1023, h_1014, by have h90 : Int32.toInt 0 = 0 := (by decide); have h91 : Int32.toInt 3 = 3 := (by decide); omega, (updl_m hf_1023 (by omega) (by omega) E_1022), rfl, rfl⟩)), by rw [ht]; exact hP, hD⟩, hS.F ht⟩) hS.2.2 dX10_write_66
    · skip
      have nc_1006 := nb_eq (-1) (-1) c_1006 bv_1005 (bkc (x := (-1)) (c := -1) (by decide)) (by decide)
      refine lv_bipush (v := (-6)) hx hb dX10_write_20 (by decide) ?_
      exact W.iret (v := (-6)) hx hb hr (fun t ht hW => ⟨⟨(-6), _, rfl, Or.inl (⟨by have h90 : Int32.toInt (-6) = -6 := (by decide); have h91 : Int32.toInt 3 = 3 := (by decide); omega, rfl, rfl⟩), by rw [ht]; exact hP, hD⟩, hS.F ht⟩) hS.2.2 dX10_write_22
