set_option maxHeartbeats 4000000 in
set_option maxRecDepth 100000 in
theorem sholdB (l : Launch) (G : va_G) (y : Nat → ClassId) (sz : Nat) (a1 : Int32) (a2 : Int32) (p_a1 : (0 : Int) ≤ a1.toInt ∧ a1.toInt ≤ 65535) (p_a2 : (0 : Int) ≤ a2.toInt ∧ a2.toInt ≤ 15) : Met l yX10_holds (Cond.code yX10_holds cX10_holds 2 (some .boolean) :: wAll) ({ frames := 0, cells := 0, slots := 0, locals := 0 }) (va_Pc [.int a1, .int a2] (kp G y sz [])) (va_Qi (fun (r : Int32) (w : va_W) => ((bq a1 a2 = 0) ∧ r = 0 ∧ w = []) ∨ ((bq a1 a2 = 1) ∧ r = 1 ∧ w = [])) (kq G (va_A [] sz)) (va_A [] sz)) 0 0 (va_A [] sz) := by
  refine Met.ofW (cc := cX10_holds) (maxL := 2) (ret := (some .boolean)) (by decide) rfl ?_
  intro p e s m args below meth c s₁ B hml hv
  obtain ⟨rfl, hsz, hP, hK, hD0⟩ := hv
  have hx := B.exec
  have hb := B.bytes
  have hr := B.returns
  have hw0 : ∀ w ∈ wAll, w.before _ s = true := fun w h => atoms_spec (ws := Cond.code yX10_holds cX10_holds 2 (some .boolean) :: wAll) B.pre w (List.mem_cons_of_mem _ h)
  have hown : s.vm.findClass RX10 = some m.cls := findClass_of_methodNamed B.named
  subst hsz
  have hD := hD0.self (sz := s.heap.size)
  generalize hAe : va_A [] s.heap.size = A at hD ⊢
  have hA : ∀ q : Nat, s.heap.size ≤ q → A q := fun q h => by rw [← hAe]; exact Or.inr h
  have hS : va_S A s.heap s.heap [] := va_S.rf
  have hP : va_P G vwCl [] s.heap := hP
  have hl := lv_entry ([.int a1, .int a2]) (n := 2) (Nat.le_of_ble_eq_true rfl)
  rw [lg_entry_eq]
  generalize (lg_sl ([.int a1, .int a2]) ++ List.replicate (2 - (lg_sl ([.int a1, .int a2])).length) Slot.unset).toArray = ls at hl ⊢
  have hl : lv_has ls 2 [(0, .int a1), (1, .int a2)] := hl
  refine lv_iload_n hx hb dX10_holds_0 rfl (lv_at hl 0 rfl) ?_
  refine lv_iload_n hx hb dX10_holds_1 rfl (lv_at hl 1 rfl) ?_
  refine lv_ishr hx hb dX10_holds_2 ?_
  refine lv_topi (fun v_1001 ev_1001 => ?_)
  have bv_1001 : (0 : Int) ≤ v_1001.toInt ∧ v_1001.toInt ≤ 65535 := ba_shr ev_1001 p_a1 (by decide)
  refine lv_iconst (v := 1) hx hb dX10_holds_3 (by decide) ?_
  refine lv_iand hx hb dX10_holds_4 ?_
  refine lv_topi (fun v_1002 ev_1002 => ?_)
  have bv_1002 : (0 : Int) ≤ v_1002.toInt ∧ v_1002.toInt ≤ 1 := ba_andr ev_1002 (bkc (x := 1) (c := 1) (by decide)) (by decide)
  refine lv_iconst (v := 1) hx hb dX10_holds_5 (by decide) ?_
  refine lv_icmp_ne (tgt := 13) hx hb dX10_holds_6 (by decide) (fun c_1003 => ?_) (fun c_1003 => ?_)
  · skip
    have nc_1003 := nb_ne (0) (0) c_1003 bv_1002 (k := 1) (by decide) (by decide)
    refine lv_iconst (v := 0) hx hb dX10_holds_13 (by decide) ?_
    exact W.zret (v := 0) hx hb hr rfl (fun t ht hW => ⟨⟨0, _, rfl, Or.inl (⟨h_0 ev_1001 ev_1002 (by omega) (by omega) c_1003, rfl, rfl⟩), by rw [ht]; exact hP, hD⟩, hS.F ht⟩) hS.2.2 dX10_holds_14
  · skip
    have nc_1003 := nb_eq (1) (1) c_1003 bv_1002 (bkc (x := 1) (c := 1) (by decide)) (by decide)
    refine lv_iconst (v := 1) hx hb dX10_holds_9 (by decide) ?_
    refine lv_goto (tgt := 14) hx hb dX10_holds_10 (by decide) ?_
    exact W.zret (v := 1) hx hb hr rfl (fun t ht hW => ⟨⟨1, _, rfl, Or.inr (⟨h_1 ev_1001 ev_1002 (by omega) (by omega) c_1003, rfl, rfl⟩), by rw [ht]; exact hP, hD⟩, hS.F ht⟩) hS.2.2 dX10_holds_14

set_option maxHeartbeats 4000000 in
set_option maxRecDepth 100000 in
theorem fofHouse0 (l : Launch) (G : va_G) (y : Nat → ClassId) (sz : Nat) (ob : Nat) (a1 : Int32) (ob_thrown : Int32) (ob_world : Nat) (ob_images : Nat) (ob_hasImage : Nat) (ob_tape : Nat) (ob_taped : Int32) (ob_five : Nat) (ob_size : Int32) (ob_at : Int32) (ob_from : Int32) (ob_token : Int32) (ob_value : Int32) (ob_faultKind : Int32) (ob_faultPlace : Int32) (ob_fresh : Nat) (ob_parts : Nat) (ob_houses : Nat) (ob_houseMany : Int32) (ob_worthOf : Nat) (ob_byCall : Nat) (ob_over : Nat) (ob_bestSet : Int32) (ob_bestOver : Int32) (ob_bestWorth : Int32) (ob_row : Nat) (ob_tenDebts : Nat) (ob_tenMany : Int32) (ob_fewestBy : Nat) (ob_covered : Nat) (ob_queue : Nat) (ob_cameBy : Nat) (ob_parent : Nat) (ob_met : Nat) (ob_calls : Nat) (ob_callMany : Int32) (ob_calledOn : Nat) (ob_saved : Nat) (ob_many : Nat) (ob_width : Nat) (ob_numbers : Nat) (ob_moving : Nat) (fob_world : Nat → Int32) (p_fob_world : RWw fob_world) (p_ob_taped : (0 : Int) ≤ ob_taped.toInt ∧ ob_taped.toInt ≤ 1400) (p_ob_size : (0 : Int) ≤ ob_size.toInt ∧ ob_size.toInt ≤ 1400) (p_ob_at : (0 : Int) ≤ ob_at.toInt ∧ ob_at.toInt ≤ 1400) (p_ob_from : (0 : Int) ≤ ob_from.toInt ∧ ob_from.toInt ≤ 1400) (p_ob_token : (0 : Int) ≤ ob_token.toInt ∧ ob_token.toInt ≤ 4) (p_ob_value : (0 : Int) ≤ ob_value.toInt ∧ ob_value.toInt ≤ 9999) (p_ob_faultKind : (0 : Int) ≤ ob_faultKind.toInt ∧ ob_faultKind.toInt ≤ 3) (p_ob_houseMany : (0 : Int) ≤ ob_houseMany.toInt ∧ ob_houseMany.toInt ≤ 10) (p_ob_bestSet : (0 : Int) ≤ ob_bestSet.toInt ∧ ob_bestSet.toInt ≤ 1023) (p_ob_bestOver : (-1 : Int) ≤ ob_bestOver.toInt ∧ ob_bestOver.toInt ≤ 180) (p_ob_tenMany : (0 : Int) ≤ ob_tenMany.toInt ∧ ob_tenMany.toInt ≤ 10) (p_ob_callMany : (0 : Int) ≤ ob_callMany.toInt ∧ ob_callMany.toInt ≤ 16) (p_a1 : (0 : Int) ≤ a1.toInt ∧ a1.toInt ≤ 15) : Met l yX10_ofHouse (Cond.code yX10_ofHouse cX10_ofHouse 3 (some .int) :: wAll) ({ frames := 0, cells := 0, slots := 0, locals := 0 }) (va_Pc [.ref ob, .int a1, .int 0] (kp G y sz [(ce_X10 ob ob_thrown ob_world ob_images ob_hasImage ob_tape ob_taped ob_five ob_size ob_at ob_from ob_token ob_value ob_faultKind ob_faultPlace ob_fresh ob_parts ob_houses ob_houseMany ob_worthOf ob_byCall ob_over ob_bestSet ob_bestOver ob_bestWorth ob_row ob_tenDebts ob_tenMany ob_fewestBy ob_covered ob_queue ob_cameBy ob_parent ob_met ob_calls ob_callMany ob_calledOn ob_saved ob_many ob_width ob_numbers ob_moving), (ce_i9080 y ob_world fob_world)])) (va_Qi (fun (r : Int32) (w : va_W) => (∃ (v_9 : Int32), ((0 : Int) ≤ v_9.toInt ∧ v_9.toInt ≤ 99) ∧ ((v_9 : Int32).toInt = hE fob_world a1.toInt 0) ∧ r = v_9 ∧ w = [(ce_X10 ob ob_thrown ob_world ob_images ob_hasImage ob_tape ob_taped ob_five ob_size ob_at ob_from ob_token ob_value ob_faultKind ob_faultPlace ob_fresh ob_parts ob_houses ob_houseMany ob_worthOf ob_byCall ob_over ob_bestSet ob_bestOver ob_bestWorth ob_row ob_tenDebts ob_tenMany ob_fewestBy ob_covered ob_queue ob_cameBy ob_parent ob_met ob_calls ob_callMany ob_calledOn ob_saved ob_many ob_width ob_numbers ob_moving), (ce_i9080 y ob_world fob_world)])) (kq G (va_A [(ce_X10 ob ob_thrown ob_world ob_images ob_hasImage ob_tape ob_taped ob_five ob_size ob_at ob_from ob_token ob_value ob_faultKind ob_faultPlace ob_fresh ob_parts ob_houses ob_houseMany ob_worthOf ob_byCall ob_over ob_bestSet ob_bestOver ob_bestWorth ob_row ob_tenDebts ob_tenMany ob_fewestBy ob_covered ob_queue ob_cameBy ob_parent ob_met ob_calls ob_callMany ob_calledOn ob_saved ob_many ob_width ob_numbers ob_moving), (ce_i9080 y ob_world fob_world)] sz)) (va_A [(ce_X10 ob ob_thrown ob_world ob_images ob_hasImage ob_tape ob_taped ob_five ob_size ob_at ob_from ob_token ob_value ob_faultKind ob_faultPlace ob_fresh ob_parts ob_houses ob_houseMany ob_worthOf ob_byCall ob_over ob_bestSet ob_bestOver ob_bestWorth ob_row ob_tenDebts ob_tenMany ob_fewestBy ob_covered ob_queue ob_cameBy ob_parent ob_met ob_calls ob_callMany ob_calledOn ob_saved ob_many ob_width ob_numbers ob_moving), (ce_i9080 y ob_world fob_world)] sz)) 0 0 (va_A [(ce_X10 ob ob_thrown ob_world ob_images ob_hasImage ob_tape ob_taped ob_five ob_size ob_at ob_from ob_token ob_value ob_faultKind ob_faultPlace ob_fresh ob_parts ob_houses ob_houseMany ob_worthOf ob_byCall ob_over ob_bestSet ob_bestOver ob_bestWorth ob_row ob_tenDebts ob_tenMany ob_fewestBy ob_covered ob_queue ob_cameBy ob_parent ob_met ob_calls ob_callMany ob_calledOn ob_saved ob_many ob_width ob_numbers ob_moving), (ce_i9080 y ob_world fob_world)] sz) := by
  refine Met.ofW (cc := cX10_ofHouse) (maxL := 3) (ret := (some .int)) (by decide) rfl ?_
  intro p e s m args below meth c s₁ B hml hv
  obtain ⟨rfl, hsz, hP, hK, hD0⟩ := hv
  have hx := B.exec
  have hb := B.bytes
  have hr := B.returns
  have hw0 : ∀ w ∈ wAll, w.before _ s = true := fun w h => atoms_spec (ws := Cond.code yX10_ofHouse cX10_ofHouse 3 (some .int) :: wAll) B.pre w (List.mem_cons_of_mem _ h)
  have hown : s.vm.findClass RX10 = some m.cls := findClass_of_methodNamed B.named
  subst hsz
  have hD := hD0.self (sz := s.heap.size)
  generalize hAe : va_A [(ce_X10 ob ob_thrown ob_world ob_images ob_hasImage ob_tape ob_taped ob_five ob_size ob_at ob_from ob_token ob_value ob_faultKind ob_faultPlace ob_fresh ob_parts ob_houses ob_houseMany ob_worthOf ob_byCall ob_over ob_bestSet ob_bestOver ob_bestWorth ob_row ob_tenDebts ob_tenMany ob_fewestBy ob_covered ob_queue ob_cameBy ob_parent ob_met ob_calls ob_callMany ob_calledOn ob_saved ob_many ob_width ob_numbers ob_moving), (ce_i9080 y ob_world fob_world)] s.heap.size = A at hD ⊢
  have hA : ∀ q : Nat, s.heap.size ≤ q → A q := fun q h => by rw [← hAe]; exact Or.inr h
  have hS : va_S A s.heap s.heap [] := va_S.rf
  have hP : va_P G vwCl [(ce_X10 ob ob_thrown ob_world ob_images ob_hasImage ob_tape ob_taped ob_five ob_size ob_at ob_from ob_token ob_value ob_faultKind ob_faultPlace ob_fresh ob_parts ob_houses ob_houseMany ob_worthOf ob_byCall ob_over ob_bestSet ob_bestOver ob_bestWorth ob_row ob_tenDebts ob_tenMany ob_fewestBy ob_covered ob_queue ob_cameBy ob_parent ob_met ob_calls ob_callMany ob_calledOn ob_saved ob_many ob_width ob_numbers ob_moving), (ce_i9080 y ob_world fob_world)] s.heap := hP
  have hl := lv_entry ([.ref ob, .int a1, .int 0]) (n := 3) (Nat.le_of_ble_eq_true rfl)
  rw [lg_entry_eq]
  generalize (lg_sl ([.ref ob, .int a1, .int 0]) ++ List.replicate (3 - (lg_sl ([.ref ob, .int a1, .int 0])).length) Slot.unset).toArray = ls at hl ⊢
  have hl : lv_has ls 3 [(0, .ref ob), (1, .int a1), (2, .int 0)] := hl
  refine lv_aload_n hx hb dX10_ofHouse_0 rfl (lv_at hl 0 rfl) ?_
  refine va_get (D := G) (ci := 10) (v := .ref ob_world) (C := RX10) (T := TX10) (N := 41) hx hb hw0 inA_wsX100 hown hK.1 hP 0 rfl rfl 1 (by decide) (hw0 _ m_352) (fun _ h9 => h9) rfl dX10_ofHouse_1 ?_
  refine lv_bipush (v := 10) hx hb dX10_ofHouse_4 (by decide) ?_
  refine lv_bipush (v := 9) hx hb dX10_ofHouse_6 (by decide) ?_
  refine lv_iload_n hx hb dX10_ofHouse_8 rfl (lv_at hl 1 rfl) ?_
  refine lv_imul hx hb dX10_ofHouse_9 ?_
  refine lv_topi (fun v_1001 ev_1001 => ?_)
  have qv_1001 := ba_mul 9 (ev_1001.trans (Int32.mul_comm _ _)) p_a1 (by decide) (by decide) (by decide)
  have bv_1001 : (0 : Int) ≤ v_1001.toInt ∧ v_1001.toInt ≤ 135 := qv_1001.2
  refine lv_iadd hx hb dX10_ofHouse_10 ?_
  refine lv_topi (fun v_1002 ev_1002 => ?_)
  have qv_1002 := ba_add ev_1002 (bkc (x := 10) (c := 10) (by decide)) bv_1001 (by decide)
  have bv_1002 : (10 : Int) ≤ v_1002.toInt ∧ v_1002.toInt ≤ 145 := bq_add qv_1002 (bkc (x := 10) (c := 10) (by decide)) bv_1001 _ _ (by decide)
  have qv_1002 : v_1002.toInt = (10) + v_1001.toInt := qv_1002
  refine lv_iload_n hx hb dX10_ofHouse_11 rfl (lv_at hl 2 rfl) ?_
  refine lv_iadd hx hb dX10_ofHouse_12 ?_
  refine lv_topi (fun v_1003 ev_1003 => ?_)
  have qv_1003 := ba_add ev_1003 bv_1002 (bkc (x := 0) (c := 0) (by decide)) (by decide)
  have bv_1003 : (10 : Int) ≤ v_1003.toInt ∧ v_1003.toInt ≤ 145 := bq_add qv_1003 bv_1002 (bkc (x := 0) (c := 0) (by decide)) _ _ (by decide)
  have qv_1003 : v_1003.toInt = v_1002.toInt + (0) := qv_1003
  refine va_iald hx hb hK.1 hP 1 1 rfl rfl (vi bv_1003 (by decide)) dX10_ofHouse_13 ?_
  refine lv_topi (fun v_1004 ev_1004 => ?_)
  have bv_1004 : (0 : Int) ≤ v_1004.toInt ∧ v_1004.toInt ≤ 99 := rdw ev_1004 (p_fob_world).1.1 pl_0 (by omega) (p_a1)
  have wv_1004 : v_1004.toInt = (fob_world (10 + 9 * a1.toInt.toNat)).toInt := by rw [ev_1004, el_at (c := 10) (a := 9) (x := a1) (by omega) (by omega)]
  exact W.iret (v := v_1004) hx hb hr (fun t ht hW => ⟨⟨v_1004, _, rfl, ⟨v_1004, bv_1004, wv_1004, rfl, rfl⟩, by rw [ht]; exact hP, hD⟩, hS.F ht⟩) hS.2.2 dX10_ofHouse_14

set_option maxHeartbeats 4000000 in
set_option maxRecDepth 100000 in
theorem fofHouse1 (l : Launch) (G : va_G) (y : Nat → ClassId) (sz : Nat) (ob : Nat) (a1 : Int32) (ob_thrown : Int32) (ob_world : Nat) (ob_images : Nat) (ob_hasImage : Nat) (ob_tape : Nat) (ob_taped : Int32) (ob_five : Nat) (ob_size : Int32) (ob_at : Int32) (ob_from : Int32) (ob_token : Int32) (ob_value : Int32) (ob_faultKind : Int32) (ob_faultPlace : Int32) (ob_fresh : Nat) (ob_parts : Nat) (ob_houses : Nat) (ob_houseMany : Int32) (ob_worthOf : Nat) (ob_byCall : Nat) (ob_over : Nat) (ob_bestSet : Int32) (ob_bestOver : Int32) (ob_bestWorth : Int32) (ob_row : Nat) (ob_tenDebts : Nat) (ob_tenMany : Int32) (ob_fewestBy : Nat) (ob_covered : Nat) (ob_queue : Nat) (ob_cameBy : Nat) (ob_parent : Nat) (ob_met : Nat) (ob_calls : Nat) (ob_callMany : Int32) (ob_calledOn : Nat) (ob_saved : Nat) (ob_many : Nat) (ob_width : Nat) (ob_numbers : Nat) (ob_moving : Nat) (fob_world : Nat → Int32) (p_fob_world : RWw fob_world) (p_ob_taped : (0 : Int) ≤ ob_taped.toInt ∧ ob_taped.toInt ≤ 1400) (p_ob_size : (0 : Int) ≤ ob_size.toInt ∧ ob_size.toInt ≤ 1400) (p_ob_at : (0 : Int) ≤ ob_at.toInt ∧ ob_at.toInt ≤ 1400) (p_ob_from : (0 : Int) ≤ ob_from.toInt ∧ ob_from.toInt ≤ 1400) (p_ob_token : (0 : Int) ≤ ob_token.toInt ∧ ob_token.toInt ≤ 4) (p_ob_value : (0 : Int) ≤ ob_value.toInt ∧ ob_value.toInt ≤ 9999) (p_ob_faultKind : (0 : Int) ≤ ob_faultKind.toInt ∧ ob_faultKind.toInt ≤ 3) (p_ob_houseMany : (0 : Int) ≤ ob_houseMany.toInt ∧ ob_houseMany.toInt ≤ 10) (p_ob_bestSet : (0 : Int) ≤ ob_bestSet.toInt ∧ ob_bestSet.toInt ≤ 1023) (p_ob_bestOver : (-1 : Int) ≤ ob_bestOver.toInt ∧ ob_bestOver.toInt ≤ 180) (p_ob_tenMany : (0 : Int) ≤ ob_tenMany.toInt ∧ ob_tenMany.toInt ≤ 10) (p_ob_callMany : (0 : Int) ≤ ob_callMany.toInt ∧ ob_callMany.toInt ≤ 16) (p_a1 : (0 : Int) ≤ a1.toInt ∧ a1.toInt ≤ 15) : Met l yX10_ofHouse (Cond.code yX10_ofHouse cX10_ofHouse 3 (some .int) :: wAll) ({ frames := 0, cells := 0, slots := 0, locals := 0 }) (va_Pc [.ref ob, .int a1, .int 1] (kp G y sz [(ce_X10 ob ob_thrown ob_world ob_images ob_hasImage ob_tape ob_taped ob_five ob_size ob_at ob_from ob_token ob_value ob_faultKind ob_faultPlace ob_fresh ob_parts ob_houses ob_houseMany ob_worthOf ob_byCall ob_over ob_bestSet ob_bestOver ob_bestWorth ob_row ob_tenDebts ob_tenMany ob_fewestBy ob_covered ob_queue ob_cameBy ob_parent ob_met ob_calls ob_callMany ob_calledOn ob_saved ob_many ob_width ob_numbers ob_moving), (ce_i9080 y ob_world fob_world)])) (va_Qi (fun (r : Int32) (w : va_W) => (∃ (v_9 : Int32), ((0 : Int) ≤ v_9.toInt ∧ v_9.toInt ≤ 99) ∧ ((v_9 : Int32).toInt = hE fob_world a1.toInt 1) ∧ r = v_9 ∧ w = [(ce_X10 ob ob_thrown ob_world ob_images ob_hasImage ob_tape ob_taped ob_five ob_size ob_at ob_from ob_token ob_value ob_faultKind ob_faultPlace ob_fresh ob_parts ob_houses ob_houseMany ob_worthOf ob_byCall ob_over ob_bestSet ob_bestOver ob_bestWorth ob_row ob_tenDebts ob_tenMany ob_fewestBy ob_covered ob_queue ob_cameBy ob_parent ob_met ob_calls ob_callMany ob_calledOn ob_saved ob_many ob_width ob_numbers ob_moving), (ce_i9080 y ob_world fob_world)])) (kq G (va_A [(ce_X10 ob ob_thrown ob_world ob_images ob_hasImage ob_tape ob_taped ob_five ob_size ob_at ob_from ob_token ob_value ob_faultKind ob_faultPlace ob_fresh ob_parts ob_houses ob_houseMany ob_worthOf ob_byCall ob_over ob_bestSet ob_bestOver ob_bestWorth ob_row ob_tenDebts ob_tenMany ob_fewestBy ob_covered ob_queue ob_cameBy ob_parent ob_met ob_calls ob_callMany ob_calledOn ob_saved ob_many ob_width ob_numbers ob_moving), (ce_i9080 y ob_world fob_world)] sz)) (va_A [(ce_X10 ob ob_thrown ob_world ob_images ob_hasImage ob_tape ob_taped ob_five ob_size ob_at ob_from ob_token ob_value ob_faultKind ob_faultPlace ob_fresh ob_parts ob_houses ob_houseMany ob_worthOf ob_byCall ob_over ob_bestSet ob_bestOver ob_bestWorth ob_row ob_tenDebts ob_tenMany ob_fewestBy ob_covered ob_queue ob_cameBy ob_parent ob_met ob_calls ob_callMany ob_calledOn ob_saved ob_many ob_width ob_numbers ob_moving), (ce_i9080 y ob_world fob_world)] sz)) 0 0 (va_A [(ce_X10 ob ob_thrown ob_world ob_images ob_hasImage ob_tape ob_taped ob_five ob_size ob_at ob_from ob_token ob_value ob_faultKind ob_faultPlace ob_fresh ob_parts ob_houses ob_houseMany ob_worthOf ob_byCall ob_over ob_bestSet ob_bestOver ob_bestWorth ob_row ob_tenDebts ob_tenMany ob_fewestBy ob_covered ob_queue ob_cameBy ob_parent ob_met ob_calls ob_callMany ob_calledOn ob_saved ob_many ob_width ob_numbers ob_moving), (ce_i9080 y ob_world fob_world)] sz) := by
  refine Met.ofW (cc := cX10_ofHouse) (maxL := 3) (ret := (some .int)) (by decide) rfl ?_
  intro p e s m args below meth c s₁ B hml hv
  obtain ⟨rfl, hsz, hP, hK, hD0⟩ := hv
  have hx := B.exec
  have hb := B.bytes
  have hr := B.returns
  have hw0 : ∀ w ∈ wAll, w.before _ s = true := fun w h => atoms_spec (ws := Cond.code yX10_ofHouse cX10_ofHouse 3 (some .int) :: wAll) B.pre w (List.mem_cons_of_mem _ h)
  have hown : s.vm.findClass RX10 = some m.cls := findClass_of_methodNamed B.named
  subst hsz
  have hD := hD0.self (sz := s.heap.size)
  generalize hAe : va_A [(ce_X10 ob ob_thrown ob_world ob_images ob_hasImage ob_tape ob_taped ob_five ob_size ob_at ob_from ob_token ob_value ob_faultKind ob_faultPlace ob_fresh ob_parts ob_houses ob_houseMany ob_worthOf ob_byCall ob_over ob_bestSet ob_bestOver ob_bestWorth ob_row ob_tenDebts ob_tenMany ob_fewestBy ob_covered ob_queue ob_cameBy ob_parent ob_met ob_calls ob_callMany ob_calledOn ob_saved ob_many ob_width ob_numbers ob_moving), (ce_i9080 y ob_world fob_world)] s.heap.size = A at hD ⊢
  have hA : ∀ q : Nat, s.heap.size ≤ q → A q := fun q h => by rw [← hAe]; exact Or.inr h
  have hS : va_S A s.heap s.heap [] := va_S.rf
  have hP : va_P G vwCl [(ce_X10 ob ob_thrown ob_world ob_images ob_hasImage ob_tape ob_taped ob_five ob_size ob_at ob_from ob_token ob_value ob_faultKind ob_faultPlace ob_fresh ob_parts ob_houses ob_houseMany ob_worthOf ob_byCall ob_over ob_bestSet ob_bestOver ob_bestWorth ob_row ob_tenDebts ob_tenMany ob_fewestBy ob_covered ob_queue ob_cameBy ob_parent ob_met ob_calls ob_callMany ob_calledOn ob_saved ob_many ob_width ob_numbers ob_moving), (ce_i9080 y ob_world fob_world)] s.heap := hP
  have hl := lv_entry ([.ref ob, .int a1, .int 1]) (n := 3) (Nat.le_of_ble_eq_true rfl)
  rw [lg_entry_eq]
  generalize (lg_sl ([.ref ob, .int a1, .int 1]) ++ List.replicate (3 - (lg_sl ([.ref ob, .int a1, .int 1])).length) Slot.unset).toArray = ls at hl ⊢
  have hl : lv_has ls 3 [(0, .ref ob), (1, .int a1), (2, .int 1)] := hl
  refine lv_aload_n hx hb dX10_ofHouse_0 rfl (lv_at hl 0 rfl) ?_
  refine va_get (D := G) (ci := 10) (v := .ref ob_world) (C := RX10) (T := TX10) (N := 41) hx hb hw0 inA_wsX100 hown hK.1 hP 0 rfl rfl 1 (by decide) (hw0 _ m_352) (fun _ h9 => h9) rfl dX10_ofHouse_1 ?_
  refine lv_bipush (v := 10) hx hb dX10_ofHouse_4 (by decide) ?_
  refine lv_bipush (v := 9) hx hb dX10_ofHouse_6 (by decide) ?_
  refine lv_iload_n hx hb dX10_ofHouse_8 rfl (lv_at hl 1 rfl) ?_
  refine lv_imul hx hb dX10_ofHouse_9 ?_
  refine lv_topi (fun v_1001 ev_1001 => ?_)
  have qv_1001 := ba_mul 9 (ev_1001.trans (Int32.mul_comm _ _)) p_a1 (by decide) (by decide) (by decide)
  have bv_1001 : (0 : Int) ≤ v_1001.toInt ∧ v_1001.toInt ≤ 135 := qv_1001.2
  refine lv_iadd hx hb dX10_ofHouse_10 ?_
  refine lv_topi (fun v_1002 ev_1002 => ?_)
  have qv_1002 := ba_add ev_1002 (bkc (x := 10) (c := 10) (by decide)) bv_1001 (by decide)
  have bv_1002 : (10 : Int) ≤ v_1002.toInt ∧ v_1002.toInt ≤ 145 := bq_add qv_1002 (bkc (x := 10) (c := 10) (by decide)) bv_1001 _ _ (by decide)
  have qv_1002 : v_1002.toInt = (10) + v_1001.toInt := qv_1002
  refine lv_iload_n hx hb dX10_ofHouse_11 rfl (lv_at hl 2 rfl) ?_
  refine lv_iadd hx hb dX10_ofHouse_12 ?_
  refine lv_topi (fun v_1003 ev_1003 => ?_)
  have qv_1003 := ba_add ev_1003 bv_1002 (bkc (x := 1) (c := 1) (by decide)) (by decide)
  have bv_1003 : (11 : Int) ≤ v_1003.toInt ∧ v_1003.toInt ≤ 146 := bq_add qv_1003 bv_1002 (bkc (x := 1) (c := 1) (by decide)) _ _ (by decide)
  have qv_1003 : v_1003.toInt = v_1002.toInt + (1) := qv_1003
  refine va_iald hx hb hK.1 hP 1 1 rfl rfl (vi bv_1003 (by decide)) dX10_ofHouse_13 ?_
  refine lv_topi (fun v_1004 ev_1004 => ?_)
  have bv_1004 : (0 : Int) ≤ v_1004.toInt ∧ v_1004.toInt ≤ 99 := rdw ev_1004 (p_fob_world).1.1 pl_1 (by omega) (p_a1)
  have wv_1004 : v_1004.toInt = (fob_world (11 + 9 * a1.toInt.toNat)).toInt := by rw [ev_1004, el_at (c := 11) (a := 9) (x := a1) (by omega) (by omega)]
  exact W.iret (v := v_1004) hx hb hr (fun t ht hW => ⟨⟨v_1004, _, rfl, ⟨v_1004, bv_1004, wv_1004, rfl, rfl⟩, by rw [ht]; exact hP, hD⟩, hS.F ht⟩) hS.2.2 dX10_ofHouse_14

set_option maxHeartbeats 4000000 in
set_option maxRecDepth 100000 in
theorem fofHouse3 (l : Launch) (G : va_G) (y : Nat → ClassId) (sz : Nat) (ob : Nat) (a1 : Int32) (ob_thrown : Int32) (ob_world : Nat) (ob_images : Nat) (ob_hasImage : Nat) (ob_tape : Nat) (ob_taped : Int32) (ob_five : Nat) (ob_size : Int32) (ob_at : Int32) (ob_from : Int32) (ob_token : Int32) (ob_value : Int32) (ob_faultKind : Int32) (ob_faultPlace : Int32) (ob_fresh : Nat) (ob_parts : Nat) (ob_houses : Nat) (ob_houseMany : Int32) (ob_worthOf : Nat) (ob_byCall : Nat) (ob_over : Nat) (ob_bestSet : Int32) (ob_bestOver : Int32) (ob_bestWorth : Int32) (ob_row : Nat) (ob_tenDebts : Nat) (ob_tenMany : Int32) (ob_fewestBy : Nat) (ob_covered : Nat) (ob_queue : Nat) (ob_cameBy : Nat) (ob_parent : Nat) (ob_met : Nat) (ob_calls : Nat) (ob_callMany : Int32) (ob_calledOn : Nat) (ob_saved : Nat) (ob_many : Nat) (ob_width : Nat) (ob_numbers : Nat) (ob_moving : Nat) (fob_world : Nat → Int32) (p_fob_world : RWw fob_world) (p_ob_taped : (0 : Int) ≤ ob_taped.toInt ∧ ob_taped.toInt ≤ 1400) (p_ob_size : (0 : Int) ≤ ob_size.toInt ∧ ob_size.toInt ≤ 1400) (p_ob_at : (0 : Int) ≤ ob_at.toInt ∧ ob_at.toInt ≤ 1400) (p_ob_from : (0 : Int) ≤ ob_from.toInt ∧ ob_from.toInt ≤ 1400) (p_ob_token : (0 : Int) ≤ ob_token.toInt ∧ ob_token.toInt ≤ 4) (p_ob_value : (0 : Int) ≤ ob_value.toInt ∧ ob_value.toInt ≤ 9999) (p_ob_faultKind : (0 : Int) ≤ ob_faultKind.toInt ∧ ob_faultKind.toInt ≤ 3) (p_ob_houseMany : (0 : Int) ≤ ob_houseMany.toInt ∧ ob_houseMany.toInt ≤ 10) (p_ob_bestSet : (0 : Int) ≤ ob_bestSet.toInt ∧ ob_bestSet.toInt ≤ 1023) (p_ob_bestOver : (-1 : Int) ≤ ob_bestOver.toInt ∧ ob_bestOver.toInt ≤ 180) (p_ob_tenMany : (0 : Int) ≤ ob_tenMany.toInt ∧ ob_tenMany.toInt ≤ 10) (p_ob_callMany : (0 : Int) ≤ ob_callMany.toInt ∧ ob_callMany.toInt ≤ 16) (p_a1 : (0 : Int) ≤ a1.toInt ∧ a1.toInt ≤ 15) : Met l yX10_ofHouse (Cond.code yX10_ofHouse cX10_ofHouse 3 (some .int) :: wAll) ({ frames := 0, cells := 0, slots := 0, locals := 0 }) (va_Pc [.ref ob, .int a1, .int 3] (kp G y sz [(ce_X10 ob ob_thrown ob_world ob_images ob_hasImage ob_tape ob_taped ob_five ob_size ob_at ob_from ob_token ob_value ob_faultKind ob_faultPlace ob_fresh ob_parts ob_houses ob_houseMany ob_worthOf ob_byCall ob_over ob_bestSet ob_bestOver ob_bestWorth ob_row ob_tenDebts ob_tenMany ob_fewestBy ob_covered ob_queue ob_cameBy ob_parent ob_met ob_calls ob_callMany ob_calledOn ob_saved ob_many ob_width ob_numbers ob_moving), (ce_i9080 y ob_world fob_world)])) (va_Qi (fun (r : Int32) (w : va_W) => (∃ (v_9 : Int32), ((-1 : Int) ≤ v_9.toInt ∧ v_9.toInt ≤ 6) ∧ ((v_9 : Int32).toInt = hE fob_world a1.toInt 3) ∧ r = v_9 ∧ w = [(ce_X10 ob ob_thrown ob_world ob_images ob_hasImage ob_tape ob_taped ob_five ob_size ob_at ob_from ob_token ob_value ob_faultKind ob_faultPlace ob_fresh ob_parts ob_houses ob_houseMany ob_worthOf ob_byCall ob_over ob_bestSet ob_bestOver ob_bestWorth ob_row ob_tenDebts ob_tenMany ob_fewestBy ob_covered ob_queue ob_cameBy ob_parent ob_met ob_calls ob_callMany ob_calledOn ob_saved ob_many ob_width ob_numbers ob_moving), (ce_i9080 y ob_world fob_world)])) (kq G (va_A [(ce_X10 ob ob_thrown ob_world ob_images ob_hasImage ob_tape ob_taped ob_five ob_size ob_at ob_from ob_token ob_value ob_faultKind ob_faultPlace ob_fresh ob_parts ob_houses ob_houseMany ob_worthOf ob_byCall ob_over ob_bestSet ob_bestOver ob_bestWorth ob_row ob_tenDebts ob_tenMany ob_fewestBy ob_covered ob_queue ob_cameBy ob_parent ob_met ob_calls ob_callMany ob_calledOn ob_saved ob_many ob_width ob_numbers ob_moving), (ce_i9080 y ob_world fob_world)] sz)) (va_A [(ce_X10 ob ob_thrown ob_world ob_images ob_hasImage ob_tape ob_taped ob_five ob_size ob_at ob_from ob_token ob_value ob_faultKind ob_faultPlace ob_fresh ob_parts ob_houses ob_houseMany ob_worthOf ob_byCall ob_over ob_bestSet ob_bestOver ob_bestWorth ob_row ob_tenDebts ob_tenMany ob_fewestBy ob_covered ob_queue ob_cameBy ob_parent ob_met ob_calls ob_callMany ob_calledOn ob_saved ob_many ob_width ob_numbers ob_moving), (ce_i9080 y ob_world fob_world)] sz)) 0 0 (va_A [(ce_X10 ob ob_thrown ob_world ob_images ob_hasImage ob_tape ob_taped ob_five ob_size ob_at ob_from ob_token ob_value ob_faultKind ob_faultPlace ob_fresh ob_parts ob_houses ob_houseMany ob_worthOf ob_byCall ob_over ob_bestSet ob_bestOver ob_bestWorth ob_row ob_tenDebts ob_tenMany ob_fewestBy ob_covered ob_queue ob_cameBy ob_parent ob_met ob_calls ob_callMany ob_calledOn ob_saved ob_many ob_width ob_numbers ob_moving), (ce_i9080 y ob_world fob_world)] sz) := by
  refine Met.ofW (cc := cX10_ofHouse) (maxL := 3) (ret := (some .int)) (by decide) rfl ?_
  intro p e s m args below meth c s₁ B hml hv
  obtain ⟨rfl, hsz, hP, hK, hD0⟩ := hv
  have hx := B.exec
  have hb := B.bytes
  have hr := B.returns
  have hw0 : ∀ w ∈ wAll, w.before _ s = true := fun w h => atoms_spec (ws := Cond.code yX10_ofHouse cX10_ofHouse 3 (some .int) :: wAll) B.pre w (List.mem_cons_of_mem _ h)
  have hown : s.vm.findClass RX10 = some m.cls := findClass_of_methodNamed B.named
  subst hsz
  have hD := hD0.self (sz := s.heap.size)
  generalize hAe : va_A [(ce_X10 ob ob_thrown ob_world ob_images ob_hasImage ob_tape ob_taped ob_five ob_size ob_at ob_from ob_token ob_value ob_faultKind ob_faultPlace ob_fresh ob_parts ob_houses ob_houseMany ob_worthOf ob_byCall ob_over ob_bestSet ob_bestOver ob_bestWorth ob_row ob_tenDebts ob_tenMany ob_fewestBy ob_covered ob_queue ob_cameBy ob_parent ob_met ob_calls ob_callMany ob_calledOn ob_saved ob_many ob_width ob_numbers ob_moving), (ce_i9080 y ob_world fob_world)] s.heap.size = A at hD ⊢
  have hA : ∀ q : Nat, s.heap.size ≤ q → A q := fun q h => by rw [← hAe]; exact Or.inr h
  have hS : va_S A s.heap s.heap [] := va_S.rf
  have hP : va_P G vwCl [(ce_X10 ob ob_thrown ob_world ob_images ob_hasImage ob_tape ob_taped ob_five ob_size ob_at ob_from ob_token ob_value ob_faultKind ob_faultPlace ob_fresh ob_parts ob_houses ob_houseMany ob_worthOf ob_byCall ob_over ob_bestSet ob_bestOver ob_bestWorth ob_row ob_tenDebts ob_tenMany ob_fewestBy ob_covered ob_queue ob_cameBy ob_parent ob_met ob_calls ob_callMany ob_calledOn ob_saved ob_many ob_width ob_numbers ob_moving), (ce_i9080 y ob_world fob_world)] s.heap := hP
  have hl := lv_entry ([.ref ob, .int a1, .int 3]) (n := 3) (Nat.le_of_ble_eq_true rfl)
  rw [lg_entry_eq]
  generalize (lg_sl ([.ref ob, .int a1, .int 3]) ++ List.replicate (3 - (lg_sl ([.ref ob, .int a1, .int 3])).length) Slot.unset).toArray = ls at hl ⊢
  have hl : lv_has ls 3 [(0, .ref ob), (1, .int a1), (2, .int 3)] := hl
  refine lv_aload_n hx hb dX10_ofHouse_0 rfl (lv_at hl 0 rfl) ?_
  refine va_get (D := G) (ci := 10) (v := .ref ob_world) (C := RX10) (T := TX10) (N := 41) hx hb hw0 inA_wsX100 hown hK.1 hP 0 rfl rfl 1 (by decide) (hw0 _ m_352) (fun _ h9 => h9) rfl dX10_ofHouse_1 ?_
  refine lv_bipush (v := 10) hx hb dX10_ofHouse_4 (by decide) ?_
  refine lv_bipush (v := 9) hx hb dX10_ofHouse_6 (by decide) ?_
  refine lv_iload_n hx hb dX10_ofHouse_8 rfl (lv_at hl 1 rfl) ?_
  refine lv_imul hx hb dX10_ofHouse_9 ?_
  refine lv_topi (fun v_1001 ev_1001 => ?_)
  have qv_1001 := ba_mul 9 (ev_1001.trans (Int32.mul_comm _ _)) p_a1 (by decide) (by decide) (by decide)
  have bv_1001 : (0 : Int) ≤ v_1001.toInt ∧ v_1001.toInt ≤ 135 := qv_1001.2
  refine lv_iadd hx hb dX10_ofHouse_10 ?_
  refine lv_topi (fun v_1002 ev_1002 => ?_)
  have qv_1002 := ba_add ev_1002 (bkc (x := 10) (c := 10) (by decide)) bv_1001 (by decide)
  have bv_1002 : (10 : Int) ≤ v_1002.toInt ∧ v_1002.toInt ≤ 145 := bq_add qv_1002 (bkc (x := 10) (c := 10) (by decide)) bv_1001 _ _ (by decide)
  have qv_1002 : v_1002.toInt = (10) + v_1001.toInt := qv_1002
  refine lv_iload_n hx hb dX10_ofHouse_11 rfl (lv_at hl 2 rfl) ?_
  refine lv_iadd hx hb dX10_ofHouse_12 ?_
  refine lv_topi (fun v_1003 ev_1003 => ?_)
  have qv_1003 := ba_add ev_1003 bv_1002 (bkc (x := 3) (c := 3) (by decide)) (by decide)
  have bv_1003 : (13 : Int) ≤ v_1003.toInt ∧ v_1003.toInt ≤ 148 := bq_add qv_1003 bv_1002 (bkc (x := 3) (c := 3) (by decide)) _ _ (by decide)
  have qv_1003 : v_1003.toInt = v_1002.toInt + (3) := qv_1003
  refine va_iald hx hb hK.1 hP 1 1 rfl rfl (vi bv_1003 (by decide)) dX10_ofHouse_13 ?_
  refine lv_topi (fun v_1004 ev_1004 => ?_)
  have bv_1004 : (-1 : Int) ≤ v_1004.toInt ∧ v_1004.toInt ≤ 6 := rdw ev_1004 (p_fob_world).1.1 pl_2 (by omega) (p_a1)
  have wv_1004 : v_1004.toInt = (fob_world (13 + 9 * a1.toInt.toNat)).toInt := by rw [ev_1004, el_at (c := 13) (a := 9) (x := a1) (by omega) (by omega)]
  exact W.iret (v := v_1004) hx hb hr (fun t ht hW => ⟨⟨v_1004, _, rfl, ⟨v_1004, bv_1004, wv_1004, rfl, rfl⟩, by rw [ht]; exact hP, hD⟩, hS.F ht⟩) hS.2.2 dX10_ofHouse_14

set_option maxHeartbeats 4000000 in
set_option maxRecDepth 100000 in
theorem fofHouse4 (l : Launch) (G : va_G) (y : Nat → ClassId) (sz : Nat) (ob : Nat) (a1 : Int32) (ob_thrown : Int32) (ob_world : Nat) (ob_images : Nat) (ob_hasImage : Nat) (ob_tape : Nat) (ob_taped : Int32) (ob_five : Nat) (ob_size : Int32) (ob_at : Int32) (ob_from : Int32) (ob_token : Int32) (ob_value : Int32) (ob_faultKind : Int32) (ob_faultPlace : Int32) (ob_fresh : Nat) (ob_parts : Nat) (ob_houses : Nat) (ob_houseMany : Int32) (ob_worthOf : Nat) (ob_byCall : Nat) (ob_over : Nat) (ob_bestSet : Int32) (ob_bestOver : Int32) (ob_bestWorth : Int32) (ob_row : Nat) (ob_tenDebts : Nat) (ob_tenMany : Int32) (ob_fewestBy : Nat) (ob_covered : Nat) (ob_queue : Nat) (ob_cameBy : Nat) (ob_parent : Nat) (ob_met : Nat) (ob_calls : Nat) (ob_callMany : Int32) (ob_calledOn : Nat) (ob_saved : Nat) (ob_many : Nat) (ob_width : Nat) (ob_numbers : Nat) (ob_moving : Nat) (fob_world : Nat → Int32) (p_fob_world : RWw fob_world) (p_ob_taped : (0 : Int) ≤ ob_taped.toInt ∧ ob_taped.toInt ≤ 1400) (p_ob_size : (0 : Int) ≤ ob_size.toInt ∧ ob_size.toInt ≤ 1400) (p_ob_at : (0 : Int) ≤ ob_at.toInt ∧ ob_at.toInt ≤ 1400) (p_ob_from : (0 : Int) ≤ ob_from.toInt ∧ ob_from.toInt ≤ 1400) (p_ob_token : (0 : Int) ≤ ob_token.toInt ∧ ob_token.toInt ≤ 4) (p_ob_value : (0 : Int) ≤ ob_value.toInt ∧ ob_value.toInt ≤ 9999) (p_ob_faultKind : (0 : Int) ≤ ob_faultKind.toInt ∧ ob_faultKind.toInt ≤ 3) (p_ob_houseMany : (0 : Int) ≤ ob_houseMany.toInt ∧ ob_houseMany.toInt ≤ 10) (p_ob_bestSet : (0 : Int) ≤ ob_bestSet.toInt ∧ ob_bestSet.toInt ≤ 1023) (p_ob_bestOver : (-1 : Int) ≤ ob_bestOver.toInt ∧ ob_bestOver.toInt ≤ 180) (p_ob_tenMany : (0 : Int) ≤ ob_tenMany.toInt ∧ ob_tenMany.toInt ≤ 10) (p_ob_callMany : (0 : Int) ≤ ob_callMany.toInt ∧ ob_callMany.toInt ≤ 16) (p_a1 : (0 : Int) ≤ a1.toInt ∧ a1.toInt ≤ 15) : Met l yX10_ofHouse (Cond.code yX10_ofHouse cX10_ofHouse 3 (some .int) :: wAll) ({ frames := 0, cells := 0, slots := 0, locals := 0 }) (va_Pc [.ref ob, .int a1, .int 4] (kp G y sz [(ce_X10 ob ob_thrown ob_world ob_images ob_hasImage ob_tape ob_taped ob_five ob_size ob_at ob_from ob_token ob_value ob_faultKind ob_faultPlace ob_fresh ob_parts ob_houses ob_houseMany ob_worthOf ob_byCall ob_over ob_bestSet ob_bestOver ob_bestWorth ob_row ob_tenDebts ob_tenMany ob_fewestBy ob_covered ob_queue ob_cameBy ob_parent ob_met ob_calls ob_callMany ob_calledOn ob_saved ob_many ob_width ob_numbers ob_moving), (ce_i9080 y ob_world fob_world)])) (va_Qi (fun (r : Int32) (w : va_W) => (∃ (v_9 : Int32), ((0 : Int) ≤ v_9.toInt ∧ v_9.toInt ≤ 180) ∧ ((v_9 : Int32).toInt = hE fob_world a1.toInt 4) ∧ r = v_9 ∧ w = [(ce_X10 ob ob_thrown ob_world ob_images ob_hasImage ob_tape ob_taped ob_five ob_size ob_at ob_from ob_token ob_value ob_faultKind ob_faultPlace ob_fresh ob_parts ob_houses ob_houseMany ob_worthOf ob_byCall ob_over ob_bestSet ob_bestOver ob_bestWorth ob_row ob_tenDebts ob_tenMany ob_fewestBy ob_covered ob_queue ob_cameBy ob_parent ob_met ob_calls ob_callMany ob_calledOn ob_saved ob_many ob_width ob_numbers ob_moving), (ce_i9080 y ob_world fob_world)])) (kq G (va_A [(ce_X10 ob ob_thrown ob_world ob_images ob_hasImage ob_tape ob_taped ob_five ob_size ob_at ob_from ob_token ob_value ob_faultKind ob_faultPlace ob_fresh ob_parts ob_houses ob_houseMany ob_worthOf ob_byCall ob_over ob_bestSet ob_bestOver ob_bestWorth ob_row ob_tenDebts ob_tenMany ob_fewestBy ob_covered ob_queue ob_cameBy ob_parent ob_met ob_calls ob_callMany ob_calledOn ob_saved ob_many ob_width ob_numbers ob_moving), (ce_i9080 y ob_world fob_world)] sz)) (va_A [(ce_X10 ob ob_thrown ob_world ob_images ob_hasImage ob_tape ob_taped ob_five ob_size ob_at ob_from ob_token ob_value ob_faultKind ob_faultPlace ob_fresh ob_parts ob_houses ob_houseMany ob_worthOf ob_byCall ob_over ob_bestSet ob_bestOver ob_bestWorth ob_row ob_tenDebts ob_tenMany ob_fewestBy ob_covered ob_queue ob_cameBy ob_parent ob_met ob_calls ob_callMany ob_calledOn ob_saved ob_many ob_width ob_numbers ob_moving), (ce_i9080 y ob_world fob_world)] sz)) 0 0 (va_A [(ce_X10 ob ob_thrown ob_world ob_images ob_hasImage ob_tape ob_taped ob_five ob_size ob_at ob_from ob_token ob_value ob_faultKind ob_faultPlace ob_fresh ob_parts ob_houses ob_houseMany ob_worthOf ob_byCall ob_over ob_bestSet ob_bestOver ob_bestWorth ob_row ob_tenDebts ob_tenMany ob_fewestBy ob_covered ob_queue ob_cameBy ob_parent ob_met ob_calls ob_callMany ob_calledOn ob_saved ob_many ob_width ob_numbers ob_moving), (ce_i9080 y ob_world fob_world)] sz) := by
  refine Met.ofW (cc := cX10_ofHouse) (maxL := 3) (ret := (some .int)) (by decide) rfl ?_
  intro p e s m args below meth c s₁ B hml hv
  obtain ⟨rfl, hsz, hP, hK, hD0⟩ := hv
  have hx := B.exec
  have hb := B.bytes
  have hr := B.returns
  have hw0 : ∀ w ∈ wAll, w.before _ s = true := fun w h => atoms_spec (ws := Cond.code yX10_ofHouse cX10_ofHouse 3 (some .int) :: wAll) B.pre w (List.mem_cons_of_mem _ h)
  have hown : s.vm.findClass RX10 = some m.cls := findClass_of_methodNamed B.named
  subst hsz
  have hD := hD0.self (sz := s.heap.size)
  generalize hAe : va_A [(ce_X10 ob ob_thrown ob_world ob_images ob_hasImage ob_tape ob_taped ob_five ob_size ob_at ob_from ob_token ob_value ob_faultKind ob_faultPlace ob_fresh ob_parts ob_houses ob_houseMany ob_worthOf ob_byCall ob_over ob_bestSet ob_bestOver ob_bestWorth ob_row ob_tenDebts ob_tenMany ob_fewestBy ob_covered ob_queue ob_cameBy ob_parent ob_met ob_calls ob_callMany ob_calledOn ob_saved ob_many ob_width ob_numbers ob_moving), (ce_i9080 y ob_world fob_world)] s.heap.size = A at hD ⊢
  have hA : ∀ q : Nat, s.heap.size ≤ q → A q := fun q h => by rw [← hAe]; exact Or.inr h
  have hS : va_S A s.heap s.heap [] := va_S.rf
  have hP : va_P G vwCl [(ce_X10 ob ob_thrown ob_world ob_images ob_hasImage ob_tape ob_taped ob_five ob_size ob_at ob_from ob_token ob_value ob_faultKind ob_faultPlace ob_fresh ob_parts ob_houses ob_houseMany ob_worthOf ob_byCall ob_over ob_bestSet ob_bestOver ob_bestWorth ob_row ob_tenDebts ob_tenMany ob_fewestBy ob_covered ob_queue ob_cameBy ob_parent ob_met ob_calls ob_callMany ob_calledOn ob_saved ob_many ob_width ob_numbers ob_moving), (ce_i9080 y ob_world fob_world)] s.heap := hP
  have hl := lv_entry ([.ref ob, .int a1, .int 4]) (n := 3) (Nat.le_of_ble_eq_true rfl)
  rw [lg_entry_eq]
  generalize (lg_sl ([.ref ob, .int a1, .int 4]) ++ List.replicate (3 - (lg_sl ([.ref ob, .int a1, .int 4])).length) Slot.unset).toArray = ls at hl ⊢
  have hl : lv_has ls 3 [(0, .ref ob), (1, .int a1), (2, .int 4)] := hl
  refine lv_aload_n hx hb dX10_ofHouse_0 rfl (lv_at hl 0 rfl) ?_
  refine va_get (D := G) (ci := 10) (v := .ref ob_world) (C := RX10) (T := TX10) (N := 41) hx hb hw0 inA_wsX100 hown hK.1 hP 0 rfl rfl 1 (by decide) (hw0 _ m_352) (fun _ h9 => h9) rfl dX10_ofHouse_1 ?_
  refine lv_bipush (v := 10) hx hb dX10_ofHouse_4 (by decide) ?_
  refine lv_bipush (v := 9) hx hb dX10_ofHouse_6 (by decide) ?_
  refine lv_iload_n hx hb dX10_ofHouse_8 rfl (lv_at hl 1 rfl) ?_
  refine lv_imul hx hb dX10_ofHouse_9 ?_
  refine lv_topi (fun v_1001 ev_1001 => ?_)
  have qv_1001 := ba_mul 9 (ev_1001.trans (Int32.mul_comm _ _)) p_a1 (by decide) (by decide) (by decide)
  have bv_1001 : (0 : Int) ≤ v_1001.toInt ∧ v_1001.toInt ≤ 135 := qv_1001.2
  refine lv_iadd hx hb dX10_ofHouse_10 ?_
  refine lv_topi (fun v_1002 ev_1002 => ?_)
  have qv_1002 := ba_add ev_1002 (bkc (x := 10) (c := 10) (by decide)) bv_1001 (by decide)
  have bv_1002 : (10 : Int) ≤ v_1002.toInt ∧ v_1002.toInt ≤ 145 := bq_add qv_1002 (bkc (x := 10) (c := 10) (by decide)) bv_1001 _ _ (by decide)
  have qv_1002 : v_1002.toInt = (10) + v_1001.toInt := qv_1002
  refine lv_iload_n hx hb dX10_ofHouse_11 rfl (lv_at hl 2 rfl) ?_
  refine lv_iadd hx hb dX10_ofHouse_12 ?_
  refine lv_topi (fun v_1003 ev_1003 => ?_)
  have qv_1003 := ba_add ev_1003 bv_1002 (bkc (x := 4) (c := 4) (by decide)) (by decide)
  have bv_1003 : (14 : Int) ≤ v_1003.toInt ∧ v_1003.toInt ≤ 149 := bq_add qv_1003 bv_1002 (bkc (x := 4) (c := 4) (by decide)) _ _ (by decide)
  have qv_1003 : v_1003.toInt = v_1002.toInt + (4) := qv_1003
  refine va_iald hx hb hK.1 hP 1 1 rfl rfl (vi bv_1003 (by decide)) dX10_ofHouse_13 ?_
  refine lv_topi (fun v_1004 ev_1004 => ?_)
  have bv_1004 : (0 : Int) ≤ v_1004.toInt ∧ v_1004.toInt ≤ 180 := rdw ev_1004 (p_fob_world).1.1 pl_3 (by omega) (p_a1)
  have wv_1004 : v_1004.toInt = (fob_world (14 + 9 * a1.toInt.toNat)).toInt := by rw [ev_1004, el_at (c := 14) (a := 9) (x := a1) (by omega) (by omega)]
  exact W.iret (v := v_1004) hx hb hr (fun t ht hW => ⟨⟨v_1004, _, rfl, ⟨v_1004, bv_1004, wv_1004, rfl, rfl⟩, by rw [ht]; exact hP, hD⟩, hS.F ht⟩) hS.2.2 dX10_ofHouse_14

set_option maxHeartbeats 4000000 in
set_option maxRecDepth 100000 in
theorem fofHouse5 (l : Launch) (G : va_G) (y : Nat → ClassId) (sz : Nat) (ob : Nat) (a1 : Int32) (ob_thrown : Int32) (ob_world : Nat) (ob_images : Nat) (ob_hasImage : Nat) (ob_tape : Nat) (ob_taped : Int32) (ob_five : Nat) (ob_size : Int32) (ob_at : Int32) (ob_from : Int32) (ob_token : Int32) (ob_value : Int32) (ob_faultKind : Int32) (ob_faultPlace : Int32) (ob_fresh : Nat) (ob_parts : Nat) (ob_houses : Nat) (ob_houseMany : Int32) (ob_worthOf : Nat) (ob_byCall : Nat) (ob_over : Nat) (ob_bestSet : Int32) (ob_bestOver : Int32) (ob_bestWorth : Int32) (ob_row : Nat) (ob_tenDebts : Nat) (ob_tenMany : Int32) (ob_fewestBy : Nat) (ob_covered : Nat) (ob_queue : Nat) (ob_cameBy : Nat) (ob_parent : Nat) (ob_met : Nat) (ob_calls : Nat) (ob_callMany : Int32) (ob_calledOn : Nat) (ob_saved : Nat) (ob_many : Nat) (ob_width : Nat) (ob_numbers : Nat) (ob_moving : Nat) (fob_world : Nat → Int32) (p_fob_world : RWw fob_world) (p_ob_taped : (0 : Int) ≤ ob_taped.toInt ∧ ob_taped.toInt ≤ 1400) (p_ob_size : (0 : Int) ≤ ob_size.toInt ∧ ob_size.toInt ≤ 1400) (p_ob_at : (0 : Int) ≤ ob_at.toInt ∧ ob_at.toInt ≤ 1400) (p_ob_from : (0 : Int) ≤ ob_from.toInt ∧ ob_from.toInt ≤ 1400) (p_ob_token : (0 : Int) ≤ ob_token.toInt ∧ ob_token.toInt ≤ 4) (p_ob_value : (0 : Int) ≤ ob_value.toInt ∧ ob_value.toInt ≤ 9999) (p_ob_faultKind : (0 : Int) ≤ ob_faultKind.toInt ∧ ob_faultKind.toInt ≤ 3) (p_ob_houseMany : (0 : Int) ≤ ob_houseMany.toInt ∧ ob_houseMany.toInt ≤ 10) (p_ob_bestSet : (0 : Int) ≤ ob_bestSet.toInt ∧ ob_bestSet.toInt ≤ 1023) (p_ob_bestOver : (-1 : Int) ≤ ob_bestOver.toInt ∧ ob_bestOver.toInt ≤ 180) (p_ob_tenMany : (0 : Int) ≤ ob_tenMany.toInt ∧ ob_tenMany.toInt ≤ 10) (p_ob_callMany : (0 : Int) ≤ ob_callMany.toInt ∧ ob_callMany.toInt ≤ 16) (p_a1 : (0 : Int) ≤ a1.toInt ∧ a1.toInt ≤ 15) : Met l yX10_ofHouse (Cond.code yX10_ofHouse cX10_ofHouse 3 (some .int) :: wAll) ({ frames := 0, cells := 0, slots := 0, locals := 0 }) (va_Pc [.ref ob, .int a1, .int 5] (kp G y sz [(ce_X10 ob ob_thrown ob_world ob_images ob_hasImage ob_tape ob_taped ob_five ob_size ob_at ob_from ob_token ob_value ob_faultKind ob_faultPlace ob_fresh ob_parts ob_houses ob_houseMany ob_worthOf ob_byCall ob_over ob_bestSet ob_bestOver ob_bestWorth ob_row ob_tenDebts ob_tenMany ob_fewestBy ob_covered ob_queue ob_cameBy ob_parent ob_met ob_calls ob_callMany ob_calledOn ob_saved ob_many ob_width ob_numbers ob_moving), (ce_i9080 y ob_world fob_world)])) (va_Qi (fun (r : Int32) (w : va_W) => (∃ (v_9 : Int32), ((0 : Int) ≤ v_9.toInt ∧ v_9.toInt ≤ 180) ∧ ((v_9 : Int32).toInt = hE fob_world a1.toInt 5) ∧ r = v_9 ∧ w = [(ce_X10 ob ob_thrown ob_world ob_images ob_hasImage ob_tape ob_taped ob_five ob_size ob_at ob_from ob_token ob_value ob_faultKind ob_faultPlace ob_fresh ob_parts ob_houses ob_houseMany ob_worthOf ob_byCall ob_over ob_bestSet ob_bestOver ob_bestWorth ob_row ob_tenDebts ob_tenMany ob_fewestBy ob_covered ob_queue ob_cameBy ob_parent ob_met ob_calls ob_callMany ob_calledOn ob_saved ob_many ob_width ob_numbers ob_moving), (ce_i9080 y ob_world fob_world)])) (kq G (va_A [(ce_X10 ob ob_thrown ob_world ob_images ob_hasImage ob_tape ob_taped ob_five ob_size ob_at ob_from ob_token ob_value ob_faultKind ob_faultPlace ob_fresh ob_parts ob_houses ob_houseMany ob_worthOf ob_byCall ob_over ob_bestSet ob_bestOver ob_bestWorth ob_row ob_tenDebts ob_tenMany ob_fewestBy ob_covered ob_queue ob_cameBy ob_parent ob_met ob_calls ob_callMany ob_calledOn ob_saved ob_many ob_width ob_numbers ob_moving), (ce_i9080 y ob_world fob_world)] sz)) (va_A [(ce_X10 ob ob_thrown ob_world ob_images ob_hasImage ob_tape ob_taped ob_five ob_size ob_at ob_from ob_token ob_value ob_faultKind ob_faultPlace ob_fresh ob_parts ob_houses ob_houseMany ob_worthOf ob_byCall ob_over ob_bestSet ob_bestOver ob_bestWorth ob_row ob_tenDebts ob_tenMany ob_fewestBy ob_covered ob_queue ob_cameBy ob_parent ob_met ob_calls ob_callMany ob_calledOn ob_saved ob_many ob_width ob_numbers ob_moving), (ce_i9080 y ob_world fob_world)] sz)) 0 0 (va_A [(ce_X10 ob ob_thrown ob_world ob_images ob_hasImage ob_tape ob_taped ob_five ob_size ob_at ob_from ob_token ob_value ob_faultKind ob_faultPlace ob_fresh ob_parts ob_houses ob_houseMany ob_worthOf ob_byCall ob_over ob_bestSet ob_bestOver ob_bestWorth ob_row ob_tenDebts ob_tenMany ob_fewestBy ob_covered ob_queue ob_cameBy ob_parent ob_met ob_calls ob_callMany ob_calledOn ob_saved ob_many ob_width ob_numbers ob_moving), (ce_i9080 y ob_world fob_world)] sz) := by
  refine Met.ofW (cc := cX10_ofHouse) (maxL := 3) (ret := (some .int)) (by decide) rfl ?_
  intro p e s m args below meth c s₁ B hml hv
  obtain ⟨rfl, hsz, hP, hK, hD0⟩ := hv
  have hx := B.exec
  have hb := B.bytes
  have hr := B.returns
  have hw0 : ∀ w ∈ wAll, w.before _ s = true := fun w h => atoms_spec (ws := Cond.code yX10_ofHouse cX10_ofHouse 3 (some .int) :: wAll) B.pre w (List.mem_cons_of_mem _ h)
  have hown : s.vm.findClass RX10 = some m.cls := findClass_of_methodNamed B.named
  subst hsz
  have hD := hD0.self (sz := s.heap.size)
  generalize hAe : va_A [(ce_X10 ob ob_thrown ob_world ob_images ob_hasImage ob_tape ob_taped ob_five ob_size ob_at ob_from ob_token ob_value ob_faultKind ob_faultPlace ob_fresh ob_parts ob_houses ob_houseMany ob_worthOf ob_byCall ob_over ob_bestSet ob_bestOver ob_bestWorth ob_row ob_tenDebts ob_tenMany ob_fewestBy ob_covered ob_queue ob_cameBy ob_parent ob_met ob_calls ob_callMany ob_calledOn ob_saved ob_many ob_width ob_numbers ob_moving), (ce_i9080 y ob_world fob_world)] s.heap.size = A at hD ⊢
  have hA : ∀ q : Nat, s.heap.size ≤ q → A q := fun q h => by rw [← hAe]; exact Or.inr h
  have hS : va_S A s.heap s.heap [] := va_S.rf
  have hP : va_P G vwCl [(ce_X10 ob ob_thrown ob_world ob_images ob_hasImage ob_tape ob_taped ob_five ob_size ob_at ob_from ob_token ob_value ob_faultKind ob_faultPlace ob_fresh ob_parts ob_houses ob_houseMany ob_worthOf ob_byCall ob_over ob_bestSet ob_bestOver ob_bestWorth ob_row ob_tenDebts ob_tenMany ob_fewestBy ob_covered ob_queue ob_cameBy ob_parent ob_met ob_calls ob_callMany ob_calledOn ob_saved ob_many ob_width ob_numbers ob_moving), (ce_i9080 y ob_world fob_world)] s.heap := hP
  have hl := lv_entry ([.ref ob, .int a1, .int 5]) (n := 3) (Nat.le_of_ble_eq_true rfl)
  rw [lg_entry_eq]
  generalize (lg_sl ([.ref ob, .int a1, .int 5]) ++ List.replicate (3 - (lg_sl ([.ref ob, .int a1, .int 5])).length) Slot.unset).toArray = ls at hl ⊢
  have hl : lv_has ls 3 [(0, .ref ob), (1, .int a1), (2, .int 5)] := hl
  refine lv_aload_n hx hb dX10_ofHouse_0 rfl (lv_at hl 0 rfl) ?_
  refine va_get (D := G) (ci := 10) (v := .ref ob_world) (C := RX10) (T := TX10) (N := 41) hx hb hw0 inA_wsX100 hown hK.1 hP 0 rfl rfl 1 (by decide) (hw0 _ m_352) (fun _ h9 => h9) rfl dX10_ofHouse_1 ?_
  refine lv_bipush (v := 10) hx hb dX10_ofHouse_4 (by decide) ?_
  refine lv_bipush (v := 9) hx hb dX10_ofHouse_6 (by decide) ?_
  refine lv_iload_n hx hb dX10_ofHouse_8 rfl (lv_at hl 1 rfl) ?_
  refine lv_imul hx hb dX10_ofHouse_9 ?_
  refine lv_topi (fun v_1001 ev_1001 => ?_)
  have qv_1001 := ba_mul 9 (ev_1001.trans (Int32.mul_comm _ _)) p_a1 (by decide) (by decide) (by decide)
  have bv_1001 : (0 : Int) ≤ v_1001.toInt ∧ v_1001.toInt ≤ 135 := qv_1001.2
  refine lv_iadd hx hb dX10_ofHouse_10 ?_
  refine lv_topi (fun v_1002 ev_1002 => ?_)
  have qv_1002 := ba_add ev_1002 (bkc (x := 10) (c := 10) (by decide)) bv_1001 (by decide)
  have bv_1002 : (10 : Int) ≤ v_1002.toInt ∧ v_1002.toInt ≤ 145 := bq_add qv_1002 (bkc (x := 10) (c := 10) (by decide)) bv_1001 _ _ (by decide)
  have qv_1002 : v_1002.toInt = (10) + v_1001.toInt := qv_1002
  refine lv_iload_n hx hb dX10_ofHouse_11 rfl (lv_at hl 2 rfl) ?_
  refine lv_iadd hx hb dX10_ofHouse_12 ?_
  refine lv_topi (fun v_1003 ev_1003 => ?_)
  have qv_1003 := ba_add ev_1003 bv_1002 (bkc (x := 5) (c := 5) (by decide)) (by decide)
  have bv_1003 : (15 : Int) ≤ v_1003.toInt ∧ v_1003.toInt ≤ 150 := bq_add qv_1003 bv_1002 (bkc (x := 5) (c := 5) (by decide)) _ _ (by decide)
  have qv_1003 : v_1003.toInt = v_1002.toInt + (5) := qv_1003
  refine va_iald hx hb hK.1 hP 1 1 rfl rfl (vi bv_1003 (by decide)) dX10_ofHouse_13 ?_
  refine lv_topi (fun v_1004 ev_1004 => ?_)
  have bv_1004 : (0 : Int) ≤ v_1004.toInt ∧ v_1004.toInt ≤ 180 := rdw ev_1004 (p_fob_world).1.1 pl_4 (by omega) (p_a1)
  have wv_1004 : v_1004.toInt = (fob_world (15 + 9 * a1.toInt.toNat)).toInt := by rw [ev_1004, el_at (c := 15) (a := 9) (x := a1) (by omega) (by omega)]
  exact W.iret (v := v_1004) hx hb hr (fun t ht hW => ⟨⟨v_1004, _, rfl, ⟨v_1004, bv_1004, wv_1004, rfl, rfl⟩, by rw [ht]; exact hP, hD⟩, hS.F ht⟩) hS.2.2 dX10_ofHouse_14

set_option maxHeartbeats 4000000 in
set_option maxRecDepth 100000 in
theorem fminutes (l : Launch) (G : va_G) (y : Nat → ClassId) (sz : Nat) (ob : Nat) (a1 : Int32) (a2 : Int32) (ob_thrown : Int32) (ob_world : Nat) (ob_images : Nat) (ob_hasImage : Nat) (ob_tape : Nat) (ob_taped : Int32) (ob_five : Nat) (ob_size : Int32) (ob_at : Int32) (ob_from : Int32) (ob_token : Int32) (ob_value : Int32) (ob_faultKind : Int32) (ob_faultPlace : Int32) (ob_fresh : Nat) (ob_parts : Nat) (ob_houses : Nat) (ob_houseMany : Int32) (ob_worthOf : Nat) (ob_byCall : Nat) (ob_over : Nat) (ob_bestSet : Int32) (ob_bestOver : Int32) (ob_bestWorth : Int32) (ob_row : Nat) (ob_tenDebts : Nat) (ob_tenMany : Int32) (ob_fewestBy : Nat) (ob_covered : Nat) (ob_queue : Nat) (ob_cameBy : Nat) (ob_parent : Nat) (ob_met : Nat) (ob_calls : Nat) (ob_callMany : Int32) (ob_calledOn : Nat) (ob_saved : Nat) (ob_many : Nat) (ob_width : Nat) (ob_numbers : Nat) (ob_moving : Nat) (fob_world : Nat → Int32) (p_fob_world : RWw fob_world) (p_ob_taped : (0 : Int) ≤ ob_taped.toInt ∧ ob_taped.toInt ≤ 1400) (p_ob_size : (0 : Int) ≤ ob_size.toInt ∧ ob_size.toInt ≤ 1400) (p_ob_at : (0 : Int) ≤ ob_at.toInt ∧ ob_at.toInt ≤ 1400) (p_ob_from : (0 : Int) ≤ ob_from.toInt ∧ ob_from.toInt ≤ 1400) (p_ob_token : (0 : Int) ≤ ob_token.toInt ∧ ob_token.toInt ≤ 4) (p_ob_value : (0 : Int) ≤ ob_value.toInt ∧ ob_value.toInt ≤ 9999) (p_ob_faultKind : (0 : Int) ≤ ob_faultKind.toInt ∧ ob_faultKind.toInt ≤ 3) (p_ob_houseMany : (0 : Int) ≤ ob_houseMany.toInt ∧ ob_houseMany.toInt ≤ 10) (p_ob_bestSet : (0 : Int) ≤ ob_bestSet.toInt ∧ ob_bestSet.toInt ≤ 1023) (p_ob_bestOver : (-1 : Int) ≤ ob_bestOver.toInt ∧ ob_bestOver.toInt ≤ 180) (p_ob_tenMany : (0 : Int) ≤ ob_tenMany.toInt ∧ ob_tenMany.toInt ≤ 10) (p_ob_callMany : (0 : Int) ≤ ob_callMany.toInt ∧ ob_callMany.toInt ≤ 16) (p_a1 : (0 : Int) ≤ a1.toInt ∧ a1.toInt ≤ 15) (p_a2 : (0 : Int) ≤ a2.toInt ∧ a2.toInt ≤ 15) : Met l yX10_minutes (Cond.code yX10_minutes cX10_minutes 3 (some .int) :: wAll) ({ frames := 1, cells := 0, slots := 0, locals := 22 }) (va_Pc [.ref ob, .int a1, .int a2] (kp G y sz [(ce_X10 ob ob_thrown ob_world ob_images ob_hasImage ob_tape ob_taped ob_five ob_size ob_at ob_from ob_token ob_value ob_faultKind ob_faultPlace ob_fresh ob_parts ob_houses ob_houseMany ob_worthOf ob_byCall ob_over ob_bestSet ob_bestOver ob_bestWorth ob_row ob_tenDebts ob_tenMany ob_fewestBy ob_covered ob_queue ob_cameBy ob_parent ob_met ob_calls ob_callMany ob_calledOn ob_saved ob_many ob_width ob_numbers ob_moving), (ce_i9080 y ob_world fob_world)])) (va_Qi (fun (r : Int32) (w : va_W) => (∃ (v_35 : Int32), ((0 : Int) ≤ v_35.toInt ∧ v_35.toInt ≤ 198) ∧ ((v_35 : Int32).toInt = mnF fob_world a1.toInt a2.toInt) ∧ r = v_35 ∧ w = [(ce_X10 ob ob_thrown ob_world ob_images ob_hasImage ob_tape ob_taped ob_five ob_size ob_at ob_from ob_token ob_value ob_faultKind ob_faultPlace ob_fresh ob_parts ob_houses ob_houseMany ob_worthOf ob_byCall ob_over ob_bestSet ob_bestOver ob_bestWorth ob_row ob_tenDebts ob_tenMany ob_fewestBy ob_covered ob_queue ob_cameBy ob_parent ob_met ob_calls ob_callMany ob_calledOn ob_saved ob_many ob_width ob_numbers ob_moving), (ce_i9080 y ob_world fob_world)])) (kq G (va_A [(ce_X10 ob ob_thrown ob_world ob_images ob_hasImage ob_tape ob_taped ob_five ob_size ob_at ob_from ob_token ob_value ob_faultKind ob_faultPlace ob_fresh ob_parts ob_houses ob_houseMany ob_worthOf ob_byCall ob_over ob_bestSet ob_bestOver ob_bestWorth ob_row ob_tenDebts ob_tenMany ob_fewestBy ob_covered ob_queue ob_cameBy ob_parent ob_met ob_calls ob_callMany ob_calledOn ob_saved ob_many ob_width ob_numbers ob_moving), (ce_i9080 y ob_world fob_world)] sz)) (va_A [(ce_X10 ob ob_thrown ob_world ob_images ob_hasImage ob_tape ob_taped ob_five ob_size ob_at ob_from ob_token ob_value ob_faultKind ob_faultPlace ob_fresh ob_parts ob_houses ob_houseMany ob_worthOf ob_byCall ob_over ob_bestSet ob_bestOver ob_bestWorth ob_row ob_tenDebts ob_tenMany ob_fewestBy ob_covered ob_queue ob_cameBy ob_parent ob_met ob_calls ob_callMany ob_calledOn ob_saved ob_many ob_width ob_numbers ob_moving), (ce_i9080 y ob_world fob_world)] sz)) 0 0 (va_A [(ce_X10 ob ob_thrown ob_world ob_images ob_hasImage ob_tape ob_taped ob_five ob_size ob_at ob_from ob_token ob_value ob_faultKind ob_faultPlace ob_fresh ob_parts ob_houses ob_houseMany ob_worthOf ob_byCall ob_over ob_bestSet ob_bestOver ob_bestWorth ob_row ob_tenDebts ob_tenMany ob_fewestBy ob_covered ob_queue ob_cameBy ob_parent ob_met ob_calls ob_callMany ob_calledOn ob_saved ob_many ob_width ob_numbers ob_moving), (ce_i9080 y ob_world fob_world)] sz) := by
  refine Met.ofW (cc := cX10_minutes) (maxL := 3) (ret := (some .int)) (by decide) rfl ?_
  intro p e s m args below meth c s₁ B hml hv
  obtain ⟨rfl, hsz, hP, hK, hD0⟩ := hv
  have hx := B.exec
  have hb := B.bytes
  have hr := B.returns
  have hw0 : ∀ w ∈ wAll, w.before _ s = true := fun w h => atoms_spec (ws := Cond.code yX10_minutes cX10_minutes 3 (some .int) :: wAll) B.pre w (List.mem_cons_of_mem _ h)
  have hown : s.vm.findClass RX10 = some m.cls := findClass_of_methodNamed B.named
  subst hsz
  have hD := hD0.self (sz := s.heap.size)
  generalize hAe : va_A [(ce_X10 ob ob_thrown ob_world ob_images ob_hasImage ob_tape ob_taped ob_five ob_size ob_at ob_from ob_token ob_value ob_faultKind ob_faultPlace ob_fresh ob_parts ob_houses ob_houseMany ob_worthOf ob_byCall ob_over ob_bestSet ob_bestOver ob_bestWorth ob_row ob_tenDebts ob_tenMany ob_fewestBy ob_covered ob_queue ob_cameBy ob_parent ob_met ob_calls ob_callMany ob_calledOn ob_saved ob_many ob_width ob_numbers ob_moving), (ce_i9080 y ob_world fob_world)] s.heap.size = A at hD ⊢
  have hA : ∀ q : Nat, s.heap.size ≤ q → A q := fun q h => by rw [← hAe]; exact Or.inr h
  have hS : va_S A s.heap s.heap [] := va_S.rf
  have hP : va_P G vwCl [(ce_X10 ob ob_thrown ob_world ob_images ob_hasImage ob_tape ob_taped ob_five ob_size ob_at ob_from ob_token ob_value ob_faultKind ob_faultPlace ob_fresh ob_parts ob_houses ob_houseMany ob_worthOf ob_byCall ob_over ob_bestSet ob_bestOver ob_bestWorth ob_row ob_tenDebts ob_tenMany ob_fewestBy ob_covered ob_queue ob_cameBy ob_parent ob_met ob_calls ob_callMany ob_calledOn ob_saved ob_many ob_width ob_numbers ob_moving), (ce_i9080 y ob_world fob_world)] s.heap := hP
  have hl := lv_entry ([.ref ob, .int a1, .int a2]) (n := 3) (Nat.le_of_ble_eq_true rfl)
  rw [lg_entry_eq]
  generalize (lg_sl ([.ref ob, .int a1, .int a2]) ++ List.replicate (3 - (lg_sl ([.ref ob, .int a1, .int a2])).length) Slot.unset).toArray = ls at hl ⊢
  have hl : lv_has ls 3 [(0, .ref ob), (1, .int a1), (2, .int a2)] := hl
  refine lv_aload_n hx hb dX10_minutes_0 rfl (lv_at hl 0 rfl) ?_
  refine lv_iload_n hx hb dX10_minutes_1 rfl (lv_at hl 1 rfl) ?_
  refine lv_iconst (v := 0) hx hb dX10_minutes_2 (by decide) ?_
  refine cVim (As := [.int a1, .int 0]) (rest := []) ⟨hx, hb, hml, hown, hw0⟩ hA hK hP hD hS [true, true] (fofHouse0 l G y _ ob a1 ob_thrown ob_world ob_images ob_hasImage ob_tape ob_taped ob_five ob_size ob_at ob_from ob_token ob_value ob_faultKind ob_faultPlace ob_fresh ob_parts ob_houses ob_houseMany ob_worthOf ob_byCall ob_over ob_bestSet ob_bestOver ob_bestWorth ob_row ob_tenDebts ob_tenMany ob_fewestBy ob_covered ob_queue ob_cameBy ob_parent ob_met ob_calls ob_callMany ob_calledOn ob_saved ob_many ob_width ob_numbers ob_moving fob_world p_fob_world p_ob_taped p_ob_size p_ob_at p_ob_from p_ob_token p_ob_value p_ob_faultKind p_ob_houseMany p_ob_bestSet p_ob_bestOver p_ob_tenMany p_ob_callMany p_a1) rfl ⟨(callB_of 2 hw0 (gA m_577) rfl rfl rfl (hw0 _ m_41) (hw0 _ m_388) cb_X10_ofHouse ⟨Nat.le_of_ble_eq_true rfl, Nat.le_of_ble_eq_true rfl⟩), (hw0 _ m_389), (hw0 _ m_390)⟩ (ci := 10) (q := (RX10, TX10, 41)) rfl rfl rfl hl.1 (Nat.le_of_ble_eq_true rfl) dX10_minutes_3 ⟨Nat.le_of_ble_eq_true rfl, Nat.le_of_ble_eq_true rfl⟩ (fun r_1001 w_1001 H locs hw_1001 hP hD hS => ?_)
  obtain ⟨v_1002, bv_1002, h_1003, er_1001, rfl⟩ := hw_1001
  subst r_1001
  obtain ⟨hP, hD⟩ : vPD G A H [(ce_X10 ob ob_thrown ob_world ob_images ob_hasImage ob_tape ob_taped ob_five ob_size ob_at ob_from ob_token ob_value ob_faultKind ob_faultPlace ob_fresh ob_parts ob_houses ob_houseMany ob_worthOf ob_byCall ob_over ob_bestSet ob_bestOver ob_bestWorth ob_row ob_tenDebts ob_tenMany ob_fewestBy ob_covered ob_queue ob_cameBy ob_parent ob_met ob_calls ob_callMany ob_calledOn ob_saved ob_many ob_width ob_numbers ob_moving), (ce_i9080 y ob_world fob_world)] := ⟨hP, hD⟩
  refine lv_aload_n hx hb dX10_minutes_6 rfl (lv_at hl 0 rfl) ?_
  refine lv_iload_n hx hb dX10_minutes_7 rfl (lv_at hl 2 rfl) ?_
  refine lv_iconst (v := 0) hx hb dX10_minutes_8 (by decide) ?_
  refine cVim (As := [.int a2, .int 0]) (rest := [.int v_1002]) ⟨hx, hb, hml, hown, hw0⟩ hA hK hP hD hS [true, true] (fofHouse0 l G y _ ob a2 ob_thrown ob_world ob_images ob_hasImage ob_tape ob_taped ob_five ob_size ob_at ob_from ob_token ob_value ob_faultKind ob_faultPlace ob_fresh ob_parts ob_houses ob_houseMany ob_worthOf ob_byCall ob_over ob_bestSet ob_bestOver ob_bestWorth ob_row ob_tenDebts ob_tenMany ob_fewestBy ob_covered ob_queue ob_cameBy ob_parent ob_met ob_calls ob_callMany ob_calledOn ob_saved ob_many ob_width ob_numbers ob_moving fob_world p_fob_world p_ob_taped p_ob_size p_ob_at p_ob_from p_ob_token p_ob_value p_ob_faultKind p_ob_houseMany p_ob_bestSet p_ob_bestOver p_ob_tenMany p_ob_callMany p_a2) rfl ⟨(callB_of 2 hw0 (gA m_577) rfl rfl rfl (hw0 _ m_41) (hw0 _ m_388) cb_X10_ofHouse ⟨Nat.le_of_ble_eq_true rfl, Nat.le_of_ble_eq_true rfl⟩), (hw0 _ m_389), (hw0 _ m_390)⟩ (ci := 10) (q := (RX10, TX10, 41)) rfl rfl rfl hl.1 (Nat.le_of_ble_eq_true rfl) dX10_minutes_9 ⟨Nat.le_of_ble_eq_true rfl, Nat.le_of_ble_eq_true rfl⟩ (fun r_1004 w_1004 H locs hw_1004 hP hD hS => ?_)
  obtain ⟨v_1005, bv_1005, h_1006, er_1004, rfl⟩ := hw_1004
  subst r_1004
  obtain ⟨hP, hD⟩ : vPD G A H [(ce_X10 ob ob_thrown ob_world ob_images ob_hasImage ob_tape ob_taped ob_five ob_size ob_at ob_from ob_token ob_value ob_faultKind ob_faultPlace ob_fresh ob_parts ob_houses ob_houseMany ob_worthOf ob_byCall ob_over ob_bestSet ob_bestOver ob_bestWorth ob_row ob_tenDebts ob_tenMany ob_fewestBy ob_covered ob_queue ob_cameBy ob_parent ob_met ob_calls ob_callMany ob_calledOn ob_saved ob_many ob_width ob_numbers ob_moving), (ce_i9080 y ob_world fob_world)] := ⟨hP, hD⟩
  refine lv_isub hx hb dX10_minutes_12 ?_
  refine lv_topi (fun v_1007 ev_1007 => ?_)
  have qv_1007 := ba_sub ev_1007 bv_1002 bv_1005 (by decide)
  have bv_1007 : (-99 : Int) ≤ v_1007.toInt ∧ v_1007.toInt ≤ 99 := bq_sub qv_1007 bv_1002 bv_1005 _ _ (by decide)
  refine va_mabs (own := RX10) hx hb (by rw [hml]; exact hl.1.symm) hown (hw0 _ m_561) (hw0 _ m_562) (hw0 _ m_283) (hw0 _ m_563) (Nat.le_of_ble_eq_true rfl) (Nat.le_of_ble_eq_true rfl) (Nat.zero_le _) (Nat.zero_le _) dX10_minutes_13 ?_
  refine lv_topi (fun v_1008 ev_1008 => ?_)
  have aqv_1008 := mab_q ev_1008 bv_1007 (by decide)
  have bv_1008 : (0 : Int) ≤ v_1008.toInt ∧ v_1008.toInt ≤ 99 := mab ev_1008 bv_1007 (by decide)
  refine lv_aload_n hx hb dX10_minutes_16 rfl (lv_at hl 0 rfl) ?_
  refine lv_iload_n hx hb dX10_minutes_17 rfl (lv_at hl 1 rfl) ?_
  refine lv_iconst (v := 1) hx hb dX10_minutes_18 (by decide) ?_
  refine cVim (As := [.int a1, .int 1]) (rest := [.int v_1008]) ⟨hx, hb, hml, hown, hw0⟩ hA hK hP hD hS [true, true] (fofHouse1 l G y _ ob a1 ob_thrown ob_world ob_images ob_hasImage ob_tape ob_taped ob_five ob_size ob_at ob_from ob_token ob_value ob_faultKind ob_faultPlace ob_fresh ob_parts ob_houses ob_houseMany ob_worthOf ob_byCall ob_over ob_bestSet ob_bestOver ob_bestWorth ob_row ob_tenDebts ob_tenMany ob_fewestBy ob_covered ob_queue ob_cameBy ob_parent ob_met ob_calls ob_callMany ob_calledOn ob_saved ob_many ob_width ob_numbers ob_moving fob_world p_fob_world p_ob_taped p_ob_size p_ob_at p_ob_from p_ob_token p_ob_value p_ob_faultKind p_ob_houseMany p_ob_bestSet p_ob_bestOver p_ob_tenMany p_ob_callMany p_a1) rfl ⟨(callB_of 2 hw0 (gA m_577) rfl rfl rfl (hw0 _ m_41) (hw0 _ m_388) cb_X10_ofHouse ⟨Nat.le_of_ble_eq_true rfl, Nat.le_of_ble_eq_true rfl⟩), (hw0 _ m_389), (hw0 _ m_390)⟩ (ci := 10) (q := (RX10, TX10, 41)) rfl rfl rfl hl.1 (Nat.le_of_ble_eq_true rfl) dX10_minutes_19 ⟨Nat.le_of_ble_eq_true rfl, Nat.le_of_ble_eq_true rfl⟩ (fun r_1009 w_1009 H locs hw_1009 hP hD hS => ?_)
  obtain ⟨v_1010, bv_1010, h_1011, er_1009, rfl⟩ := hw_1009
  subst r_1009
  obtain ⟨hP, hD⟩ : vPD G A H [(ce_X10 ob ob_thrown ob_world ob_images ob_hasImage ob_tape ob_taped ob_five ob_size ob_at ob_from ob_token ob_value ob_faultKind ob_faultPlace ob_fresh ob_parts ob_houses ob_houseMany ob_worthOf ob_byCall ob_over ob_bestSet ob_bestOver ob_bestWorth ob_row ob_tenDebts ob_tenMany ob_fewestBy ob_covered ob_queue ob_cameBy ob_parent ob_met ob_calls ob_callMany ob_calledOn ob_saved ob_many ob_width ob_numbers ob_moving), (ce_i9080 y ob_world fob_world)] := ⟨hP, hD⟩
  refine lv_aload_n hx hb dX10_minutes_22 rfl (lv_at hl 0 rfl) ?_
  refine lv_iload_n hx hb dX10_minutes_23 rfl (lv_at hl 2 rfl) ?_
  refine lv_iconst (v := 1) hx hb dX10_minutes_24 (by decide) ?_
  refine cVim (As := [.int a2, .int 1]) (rest := [.int v_1010, .int v_1008]) ⟨hx, hb, hml, hown, hw0⟩ hA hK hP hD hS [true, true] (fofHouse1 l G y _ ob a2 ob_thrown ob_world ob_images ob_hasImage ob_tape ob_taped ob_five ob_size ob_at ob_from ob_token ob_value ob_faultKind ob_faultPlace ob_fresh ob_parts ob_houses ob_houseMany ob_worthOf ob_byCall ob_over ob_bestSet ob_bestOver ob_bestWorth ob_row ob_tenDebts ob_tenMany ob_fewestBy ob_covered ob_queue ob_cameBy ob_parent ob_met ob_calls ob_callMany ob_calledOn ob_saved ob_many ob_width ob_numbers ob_moving fob_world p_fob_world p_ob_taped p_ob_size p_ob_at p_ob_from p_ob_token p_ob_value p_ob_faultKind p_ob_houseMany p_ob_bestSet p_ob_bestOver p_ob_tenMany p_ob_callMany p_a2) rfl ⟨(callB_of 2 hw0 (gA m_577) rfl rfl rfl (hw0 _ m_41) (hw0 _ m_388) cb_X10_ofHouse ⟨Nat.le_of_ble_eq_true rfl, Nat.le_of_ble_eq_true rfl⟩), (hw0 _ m_389), (hw0 _ m_390)⟩ (ci := 10) (q := (RX10, TX10, 41)) rfl rfl rfl hl.1 (Nat.le_of_ble_eq_true rfl) dX10_minutes_25 ⟨Nat.le_of_ble_eq_true rfl, Nat.le_of_ble_eq_true rfl⟩ (fun r_1012 w_1012 H locs hw_1012 hP hD hS => ?_)
  obtain ⟨v_1013, bv_1013, h_1014, er_1012, rfl⟩ := hw_1012
  subst r_1012
  obtain ⟨hP, hD⟩ : vPD G A H [(ce_X10 ob ob_thrown ob_world ob_images ob_hasImage ob_tape ob_taped ob_five ob_size ob_at ob_from ob_token ob_value ob_faultKind ob_faultPlace ob_fresh ob_parts ob_houses ob_houseMany ob_worthOf ob_byCall ob_over ob_bestSet ob_bestOver ob_bestWorth ob_row ob_tenDebts ob_tenMany ob_fewestBy ob_covered ob_queue ob_cameBy ob_parent ob_met ob_calls ob_callMany ob_calledOn ob_saved ob_many ob_width ob_numbers ob_moving), (ce_i9080 y ob_world fob_world)] := ⟨hP, hD⟩
  refine lv_isub hx hb dX10_minutes_28 ?_
  refine lv_topi (fun v_1015 ev_1015 => ?_)
  have qv_1015 := ba_sub ev_1015 bv_1010 bv_1013 (by decide)
  have bv_1015 : (-99 : Int) ≤ v_1015.toInt ∧ v_1015.toInt ≤ 99 := bq_sub qv_1015 bv_1010 bv_1013 _ _ (by decide)
  refine va_mabs (own := RX10) hx hb (by rw [hml]; exact hl.1.symm) hown (hw0 _ m_561) (hw0 _ m_562) (hw0 _ m_283) (hw0 _ m_563) (Nat.le_of_ble_eq_true rfl) (Nat.le_of_ble_eq_true rfl) (Nat.zero_le _) (Nat.zero_le _) dX10_minutes_29 ?_
  refine lv_topi (fun v_1016 ev_1016 => ?_)
  have aqv_1016 := mab_q ev_1016 bv_1015 (by decide)
  have bv_1016 : (0 : Int) ≤ v_1016.toInt ∧ v_1016.toInt ≤ 99 := mab ev_1016 bv_1015 (by decide)
  refine lv_iadd hx hb dX10_minutes_32 ?_
  refine lv_topi (fun v_1017 ev_1017 => ?_)
  have qv_1017 := ba_add ev_1017 bv_1008 bv_1016 (by decide)
  have bv_1017 : (0 : Int) ≤ v_1017.toInt ∧ v_1017.toInt ≤ 198 := bq_add qv_1017 bv_1008 bv_1016 _ _ (by decide)
  exact W.iret (v := v_1017) hx hb hr (fun t ht hW => ⟨⟨v_1017, _, rfl, ⟨v_1017, bv_1017, by unfold mnF; omega, rfl, rfl⟩, by rw [ht]; exact hP, hD⟩, hS.F ht⟩) hS.2.2 dX10_minutes_33

set_option maxHeartbeats 4000000 in
set_option maxRecDepth 100000 in
theorem fseen (l : Launch) (G : va_G) (y : Nat → ClassId) (sz : Nat) (ob : Nat) (a1 : Int32) (a2 : Int32) (a3 : Int32) (a4 : Int32) (ob_thrown : Int32) (ob_world : Nat) (ob_images : Nat) (ob_hasImage : Nat) (ob_tape : Nat) (ob_taped : Int32) (ob_five : Nat) (ob_size : Int32) (ob_at : Int32) (ob_from : Int32) (ob_token : Int32) (ob_value : Int32) (ob_faultKind : Int32) (ob_faultPlace : Int32) (ob_fresh : Nat) (ob_parts : Nat) (ob_houses : Nat) (ob_houseMany : Int32) (ob_worthOf : Nat) (ob_byCall : Nat) (ob_over : Nat) (ob_bestSet : Int32) (ob_bestOver : Int32) (ob_bestWorth : Int32) (ob_row : Nat) (ob_tenDebts : Nat) (ob_tenMany : Int32) (ob_fewestBy : Nat) (ob_covered : Nat) (ob_queue : Nat) (ob_cameBy : Nat) (ob_parent : Nat) (ob_met : Nat) (ob_calls : Nat) (ob_callMany : Int32) (ob_calledOn : Nat) (ob_saved : Nat) (ob_many : Nat) (ob_width : Nat) (ob_numbers : Nat) (ob_moving : Nat) (fob_world : Nat → Int32) (fob_byCall : Nat → Int32) (p_fob_world : RWw fob_world) (p_ob_taped : (0 : Int) ≤ ob_taped.toInt ∧ ob_taped.toInt ≤ 1400) (p_ob_size : (0 : Int) ≤ ob_size.toInt ∧ ob_size.toInt ≤ 1400) (p_ob_at : (0 : Int) ≤ ob_at.toInt ∧ ob_at.toInt ≤ 1400) (p_ob_from : (0 : Int) ≤ ob_from.toInt ∧ ob_from.toInt ≤ 1400) (p_ob_token : (0 : Int) ≤ ob_token.toInt ∧ ob_token.toInt ≤ 4) (p_ob_value : (0 : Int) ≤ ob_value.toInt ∧ ob_value.toInt ≤ 9999) (p_ob_faultKind : (0 : Int) ≤ ob_faultKind.toInt ∧ ob_faultKind.toInt ≤ 3) (p_ob_houseMany : (0 : Int) ≤ ob_houseMany.toInt ∧ ob_houseMany.toInt ≤ 10) (p_fob_byCall : ∀ i, (0 : Int) ≤ (fob_byCall i).toInt ∧ (fob_byCall i).toInt ≤ 1) (p_ob_bestSet : (0 : Int) ≤ ob_bestSet.toInt ∧ ob_bestSet.toInt ≤ 1023) (p_ob_bestOver : (-1 : Int) ≤ ob_bestOver.toInt ∧ ob_bestOver.toInt ≤ 180) (p_ob_tenMany : (0 : Int) ≤ ob_tenMany.toInt ∧ ob_tenMany.toInt ≤ 10) (p_ob_callMany : (0 : Int) ≤ ob_callMany.toInt ∧ ob_callMany.toInt ≤ 16) (p_a1 : (0 : Int) ≤ a1.toInt ∧ a1.toInt ≤ 15) (p_a2 : (0 : Int) ≤ a2.toInt ∧ a2.toInt ≤ 180) (p_a3 : (0 : Int) ≤ a3.toInt ∧ a3.toInt ≤ 15) (p_a4 : (0 : Int) ≤ a4.toInt ∧ a4.toInt ≤ 405) : Met l yX10_seen (Cond.code yX10_seen cX10_seen 6 (some .int) :: wAll) ({ frames := 2, cells := 0, slots := 0, locals := 44 }) (va_Pc [.ref ob, .int a1, .int a2, .int a3, .int a4] (kp G y sz [(ce_X10 ob ob_thrown ob_world ob_images ob_hasImage ob_tape ob_taped ob_five ob_size ob_at ob_from ob_token ob_value ob_faultKind ob_faultPlace ob_fresh ob_parts ob_houses ob_houseMany ob_worthOf ob_byCall ob_over ob_bestSet ob_bestOver ob_bestWorth ob_row ob_tenDebts ob_tenMany ob_fewestBy ob_covered ob_queue ob_cameBy ob_parent ob_met ob_calls ob_callMany ob_calledOn ob_saved ob_many ob_width ob_numbers ob_moving), (ce_i9080 y ob_world fob_world), (ce_z16 y ob_byCall fob_byCall)])) (va_Qi (fun (r : Int32) (w : va_W) => (∃ (v_49 : Int32), ((-1 : Int) ≤ v_49.toInt ∧ v_49.toInt ≤ 180) ∧ ((v_49 : Int32).toInt = snF fob_world fob_byCall a4.toInt a1.toInt a2.toInt a3.toInt) ∧ r = v_49 ∧ w = [(ce_X10 ob ob_thrown ob_world ob_images ob_hasImage ob_tape ob_taped ob_five ob_size ob_at ob_from ob_token ob_value ob_faultKind ob_faultPlace ob_fresh ob_parts ob_houses ob_houseMany ob_worthOf ob_byCall ob_over ob_bestSet ob_bestOver ob_bestWorth ob_row ob_tenDebts ob_tenMany ob_fewestBy ob_covered ob_queue ob_cameBy ob_parent ob_met ob_calls ob_callMany ob_calledOn ob_saved ob_many ob_width ob_numbers ob_moving), (ce_i9080 y ob_world fob_world), (ce_z16 y ob_byCall fob_byCall)])) (kq G (va_A [(ce_X10 ob ob_thrown ob_world ob_images ob_hasImage ob_tape ob_taped ob_five ob_size ob_at ob_from ob_token ob_value ob_faultKind ob_faultPlace ob_fresh ob_parts ob_houses ob_houseMany ob_worthOf ob_byCall ob_over ob_bestSet ob_bestOver ob_bestWorth ob_row ob_tenDebts ob_tenMany ob_fewestBy ob_covered ob_queue ob_cameBy ob_parent ob_met ob_calls ob_callMany ob_calledOn ob_saved ob_many ob_width ob_numbers ob_moving), (ce_i9080 y ob_world fob_world), (ce_z16 y ob_byCall fob_byCall)] sz)) (va_A [(ce_X10 ob ob_thrown ob_world ob_images ob_hasImage ob_tape ob_taped ob_five ob_size ob_at ob_from ob_token ob_value ob_faultKind ob_faultPlace ob_fresh ob_parts ob_houses ob_houseMany ob_worthOf ob_byCall ob_over ob_bestSet ob_bestOver ob_bestWorth ob_row ob_tenDebts ob_tenMany ob_fewestBy ob_covered ob_queue ob_cameBy ob_parent ob_met ob_calls ob_callMany ob_calledOn ob_saved ob_many ob_width ob_numbers ob_moving), (ce_i9080 y ob_world fob_world), (ce_z16 y ob_byCall fob_byCall)] sz)) 0 0 (va_A [(ce_X10 ob ob_thrown ob_world ob_images ob_hasImage ob_tape ob_taped ob_five ob_size ob_at ob_from ob_token ob_value ob_faultKind ob_faultPlace ob_fresh ob_parts ob_houses ob_houseMany ob_worthOf ob_byCall ob_over ob_bestSet ob_bestOver ob_bestWorth ob_row ob_tenDebts ob_tenMany ob_fewestBy ob_covered ob_queue ob_cameBy ob_parent ob_met ob_calls ob_callMany ob_calledOn ob_saved ob_many ob_width ob_numbers ob_moving), (ce_i9080 y ob_world fob_world), (ce_z16 y ob_byCall fob_byCall)] sz) := by
  refine Met.ofW (cc := cX10_seen) (maxL := 6) (ret := (some .int)) (by decide) rfl ?_
  intro p e s m args below meth c s₁ B hml hv
  obtain ⟨rfl, hsz, hP, hK, hD0⟩ := hv
  have hx := B.exec
  have hb := B.bytes
  have hr := B.returns
  have hw0 : ∀ w ∈ wAll, w.before _ s = true := fun w h => atoms_spec (ws := Cond.code yX10_seen cX10_seen 6 (some .int) :: wAll) B.pre w (List.mem_cons_of_mem _ h)
  have hown : s.vm.findClass RX10 = some m.cls := findClass_of_methodNamed B.named
  subst hsz
  have hD := hD0.self (sz := s.heap.size)
  generalize hAe : va_A [(ce_X10 ob ob_thrown ob_world ob_images ob_hasImage ob_tape ob_taped ob_five ob_size ob_at ob_from ob_token ob_value ob_faultKind ob_faultPlace ob_fresh ob_parts ob_houses ob_houseMany ob_worthOf ob_byCall ob_over ob_bestSet ob_bestOver ob_bestWorth ob_row ob_tenDebts ob_tenMany ob_fewestBy ob_covered ob_queue ob_cameBy ob_parent ob_met ob_calls ob_callMany ob_calledOn ob_saved ob_many ob_width ob_numbers ob_moving), (ce_i9080 y ob_world fob_world), (ce_z16 y ob_byCall fob_byCall)] s.heap.size = A at hD ⊢
  have hA : ∀ q : Nat, s.heap.size ≤ q → A q := fun q h => by rw [← hAe]; exact Or.inr h
  have hS : va_S A s.heap s.heap [] := va_S.rf
  have hP : va_P G vwCl [(ce_X10 ob ob_thrown ob_world ob_images ob_hasImage ob_tape ob_taped ob_five ob_size ob_at ob_from ob_token ob_value ob_faultKind ob_faultPlace ob_fresh ob_parts ob_houses ob_houseMany ob_worthOf ob_byCall ob_over ob_bestSet ob_bestOver ob_bestWorth ob_row ob_tenDebts ob_tenMany ob_fewestBy ob_covered ob_queue ob_cameBy ob_parent ob_met ob_calls ob_callMany ob_calledOn ob_saved ob_many ob_width ob_numbers ob_moving), (ce_i9080 y ob_world fob_world), (ce_z16 y ob_byCall fob_byCall)] s.heap := hP
  have hl := lv_entry ([.ref ob, .int a1, .int a2, .int a3, .int a4]) (n := 6) (Nat.le_of_ble_eq_true rfl)
  rw [lg_entry_eq]
  generalize (lg_sl ([.ref ob, .int a1, .int a2, .int a3, .int a4]) ++ List.replicate (6 - (lg_sl ([.ref ob, .int a1, .int a2, .int a3, .int a4])).length) Slot.unset).toArray = ls at hl ⊢
  have hl : lv_has ls 6 [(0, .ref ob), (1, .int a1), (2, .int a2), (3, .int a3), (4, .int a4)] := hl
  refine lv_iload_n hx hb dX10_seen_0 rfl (lv_at hl 2 rfl) ?_
  refine lv_aload_n hx hb dX10_seen_1 rfl (lv_at hl 0 rfl) ?_
  refine lv_iload_n hx hb dX10_seen_2 rfl (lv_at hl 1 rfl) ?_
  refine lv_iload_n hx hb dX10_seen_3 rfl (lv_at hl 3 rfl) ?_
  refine cVim (As := [.int a1, .int a3]) (rest := [.int a2]) ⟨hx, hb, hml, hown, hw0⟩ hA hK hP hD hS [true, true] (fminutes l G y _ ob a1 a3 ob_thrown ob_world ob_images ob_hasImage ob_tape ob_taped ob_five ob_size ob_at ob_from ob_token ob_value ob_faultKind ob_faultPlace ob_fresh ob_parts ob_houses ob_houseMany ob_worthOf ob_byCall ob_over ob_bestSet ob_bestOver ob_bestWorth ob_row ob_tenDebts ob_tenMany ob_fewestBy ob_covered ob_queue ob_cameBy ob_parent ob_met ob_calls ob_callMany ob_calledOn ob_saved ob_many ob_width ob_numbers ob_moving fob_world p_fob_world p_ob_taped p_ob_size p_ob_at p_ob_from p_ob_token p_ob_value p_ob_faultKind p_ob_houseMany p_ob_bestSet p_ob_bestOver p_ob_tenMany p_ob_callMany p_a1 p_a3) rfl ⟨(callB_of 2 hw0 (gA m_560) rfl rfl rfl (hw0 _ m_41) (hw0 _ m_671) cb_X10_minutes ⟨Nat.le_of_ble_eq_true rfl, Nat.le_of_ble_eq_true rfl⟩), (hw0 _ m_672), (hw0 _ m_673)⟩ (ci := 10) (q := (RX10, TX10, 41)) rfl rfl rfl hl.1 (Nat.le_of_ble_eq_true rfl) dX10_seen_4 ⟨Nat.le_of_ble_eq_true rfl, Nat.le_of_ble_eq_true rfl⟩ (fun r_1001 w_1001 H locs hw_1001 hP hD hS => ?_)
  obtain ⟨v_1002, bv_1002, h_1003, er_1001, rfl⟩ := hw_1001
  subst r_1001
  obtain ⟨hP, hD⟩ : vPD G A H [(ce_X10 ob ob_thrown ob_world ob_images ob_hasImage ob_tape ob_taped ob_five ob_size ob_at ob_from ob_token ob_value ob_faultKind ob_faultPlace ob_fresh ob_parts ob_houses ob_houseMany ob_worthOf ob_byCall ob_over ob_bestSet ob_bestOver ob_bestWorth ob_row ob_tenDebts ob_tenMany ob_fewestBy ob_covered ob_queue ob_cameBy ob_parent ob_met ob_calls ob_callMany ob_calledOn ob_saved ob_many ob_width ob_numbers ob_moving), (ce_i9080 y ob_world fob_world), (ce_z16 y ob_byCall fob_byCall)] := ⟨hP, hD⟩
  refine lv_iadd hx hb dX10_seen_7 ?_
  refine lv_topi (fun v_1004 ev_1004 => ?_)
  have qv_1004 := ba_add ev_1004 p_a2 bv_1002 (by decide)
  have bv_1004 : (0 : Int) ≤ v_1004.toInt ∧ v_1004.toInt ≤ 378 := bq_add qv_1004 p_a2 bv_1002 _ _ (by decide)
  refine lv_istore (lv' := [(5, .int v_1004), (0, .ref ob), (1, .int a1), (2, .int a2), (3, .int a3), (4, .int a4)]) hx hb dX10_seen_8 hl (by decide) rfl (fun ls hl => ?_)
  refine lv_aload_n hx hb dX10_seen_10 rfl (lv_at hl 1 rfl) ?_
  refine va_get (D := G) (ci := 10) (v := .ref ob_byCall) (C := RX10) (T := TX10) (N := 41) hx hb hw0 inA_wsX100 hown hK.1 hP 0 rfl rfl 19 (by decide) (hw0 _ m_523) (fun _ h9 => h9) rfl dX10_seen_11 ?_
  refine lv_iload_n hx hb dX10_seen_14 rfl (lv_at hl 4 rfl) ?_
  refine va_zald hx hb hK.1 hP 2 3 rfl rfl (vi p_a3 (by decide)) dX10_seen_15 ?_
  refine lv_topi (fun v_1005 ev_1005 => ?_)
  have bv_1005 : (0 : Int) ≤ v_1005.toInt ∧ v_1005.toInt ≤ 1 := rd_b ev_1005 p_fob_byCall
  have lbv_1005 := ld_n ev_1005 (by omega)
  refine lv_if_eq (tgt := 64) hx hb dX10_seen_16 (by decide) (fun c_1006 => ?_) (fun c_1006 => ?_)
  · skip
    have nc_1006 := nb_eq (0) (0) c_1006 bv_1005 (bkc (x := 0) (c := 0) (by decide)) (by decide)
    refine lv_iload hx hb dX10_seen_64 (lv_at hl 0 rfl) ?_
    refine lv_sipush (v := 180) hx hb dX10_seen_66 (by decide) ?_
    refine lv_icmp_le (tgt := 76) hx hb dX10_seen_69 (by decide) (fun c_1007 => ?_) (fun c_1007 => ?_)
    · skip
      have nc_1007 := nb_le (180) (180) c_1007 bv_1004 (bkc (x := 180) (c := 180) (by decide)) (by decide)
      have h_1008 : (0 : Int) ≤ v_1002.toInt ∧ v_1002.toInt ≤ 180 := bq_in2 qv_1004 nc_1007.1 bv_1002 p_a2 (by decide)
      refine lv_iload hx hb dX10_seen_76 (lv_at hl 0 rfl) ?_
      exact W.iret (v := v_1004) hx hb hr (fun t ht hW => ⟨⟨v_1004, _, rfl, ⟨v_1004, (bw (-1) (180) nc_1007.1 (by decide)), by unfold snF; (repeat' split) <;> omega, rfl, rfl⟩, by rw [ht]; exact hP, hD⟩, hS.F ht⟩) hS.2.2 dX10_seen_78
    · skip
      have nc_1007 := nb_nle (180) (181) c_1007 (bkc (x := 180) (c := 180) (by decide)) bv_1004 (by decide)
      have h_1009 : (1 : Int) ≤ v_1002.toInt ∧ v_1002.toInt ≤ 198 := bq_in2 qv_1004 nc_1007.2.1 bv_1002 p_a2 (by decide)
      refine lv_iconst (v := (-1)) hx hb dX10_seen_72 (by decide) ?_
      refine lv_goto (tgt := 78) hx hb dX10_seen_73 (by decide) ?_
      exact W.iret (v := (-1)) hx hb hr (fun t ht hW => ⟨⟨(-1), _, rfl, ⟨(-1), (bw (-1) (180) (bkc (x := (-1)) (c := -1) (by decide)) (by decide)), by have h90 : Int32.toInt (-1) = -1 := (by decide); unfold snF; (repeat' split) <;> omega, rfl, rfl⟩, by rw [ht]; exact hP, hD⟩, hS.F ht⟩) hS.2.2 dX10_seen_78
  · skip
    have nc_1006 := nb_ne (1) (1) c_1006 bv_1005 (k := 0) (by decide) (by decide)
    refine lv_iload hx hb dX10_seen_19 (lv_at hl 5 rfl) ?_
    refine lv_bipush (v := 7) hx hb dX10_seen_21 (by decide) ?_
    refine lv_irem hx hb dX10_seen_23 (by decide) ?_
    refine lv_topi (fun v_1010 ev_1010 => ?_)
    have bv_1010 : (0 : Int) ≤ v_1010.toInt ∧ v_1010.toInt ≤ 6 := ba_rem 7 ev_1010 p_a4 (by decide) (by decide) (by decide)
    have rqv_1010 := rem_q ev_1010 (by omega) (by decide)
    refine lv_aload_n hx hb dX10_seen_24 rfl (lv_at hl 1 rfl) ?_
    refine lv_iload_n hx hb dX10_seen_25 rfl (lv_at hl 4 rfl) ?_
    refine lv_iconst (v := 3) hx hb dX10_seen_26 (by decide) ?_
    refine cVim (As := [.int a3, .int 3]) (rest := [.int v_1010]) ⟨hx, hb, hml, hown, hw0⟩ hA hK hP hD hS [true, true] (fofHouse3 l G y _ ob a3 ob_thrown ob_world ob_images ob_hasImage ob_tape ob_taped ob_five ob_size ob_at ob_from ob_token ob_value ob_faultKind ob_faultPlace ob_fresh ob_parts ob_houses ob_houseMany ob_worthOf ob_byCall ob_over ob_bestSet ob_bestOver ob_bestWorth ob_row ob_tenDebts ob_tenMany ob_fewestBy ob_covered ob_queue ob_cameBy ob_parent ob_met ob_calls ob_callMany ob_calledOn ob_saved ob_many ob_width ob_numbers ob_moving fob_world p_fob_world p_ob_taped p_ob_size p_ob_at p_ob_from p_ob_token p_ob_value p_ob_faultKind p_ob_houseMany p_ob_bestSet p_ob_bestOver p_ob_tenMany p_ob_callMany p_a3) rfl ⟨(callB_of 2 hw0 (gA m_577) rfl rfl rfl (hw0 _ m_41) (hw0 _ m_388) cb_X10_ofHouse ⟨Nat.le_of_ble_eq_true rfl, Nat.le_of_ble_eq_true rfl⟩), (hw0 _ m_389), (hw0 _ m_390)⟩ (ci := 10) (q := (RX10, TX10, 41)) rfl rfl rfl hl.1 (Nat.le_of_ble_eq_true rfl) dX10_seen_27 ⟨Nat.le_of_ble_eq_true rfl, Nat.le_of_ble_eq_true rfl⟩ (fun r_1011 w_1011 H locs hw_1011 hP hD hS => ?_)
    obtain ⟨v_1012, bv_1012, h_1013, er_1011, rfl⟩ := hw_1011
    subst r_1011
    obtain ⟨hP, hD⟩ : vPD G A H [(ce_X10 ob ob_thrown ob_world ob_images ob_hasImage ob_tape ob_taped ob_five ob_size ob_at ob_from ob_token ob_value ob_faultKind ob_faultPlace ob_fresh ob_parts ob_houses ob_houseMany ob_worthOf ob_byCall ob_over ob_bestSet ob_bestOver ob_bestWorth ob_row ob_tenDebts ob_tenMany ob_fewestBy ob_covered ob_queue ob_cameBy ob_parent ob_met ob_calls ob_callMany ob_calledOn ob_saved ob_many ob_width ob_numbers ob_moving), (ce_i9080 y ob_world fob_world), (ce_z16 y ob_byCall fob_byCall)] := ⟨hP, hD⟩
    refine lv_icmp_eq (tgt := 35) hx hb dX10_seen_30 (by decide) (fun c_1014 => ?_) (fun c_1014 => ?_)
    · skip
      have nc_1014 := nb_eq (0) (6) c_1014 bv_1010 bv_1012 (by decide)
      refine lv_iload hx hb dX10_seen_35 (lv_at hl 0 rfl) ?_
      refine lv_aload_n hx hb dX10_seen_37 rfl (lv_at hl 1 rfl) ?_
      refine lv_iload_n hx hb dX10_seen_38 rfl (lv_at hl 4 rfl) ?_
      refine lv_iconst (v := 4) hx hb dX10_seen_39 (by decide) ?_
      refine cVim (As := [.int a3, .int 4]) (rest := [.int v_1004]) ⟨hx, hb, hml, hown, hw0⟩ hA hK hP hD hS [true, true] (fofHouse4 l G y _ ob a3 ob_thrown ob_world ob_images ob_hasImage ob_tape ob_taped ob_five ob_size ob_at ob_from ob_token ob_value ob_faultKind ob_faultPlace ob_fresh ob_parts ob_houses ob_houseMany ob_worthOf ob_byCall ob_over ob_bestSet ob_bestOver ob_bestWorth ob_row ob_tenDebts ob_tenMany ob_fewestBy ob_covered ob_queue ob_cameBy ob_parent ob_met ob_calls ob_callMany ob_calledOn ob_saved ob_many ob_width ob_numbers ob_moving fob_world p_fob_world p_ob_taped p_ob_size p_ob_at p_ob_from p_ob_token p_ob_value p_ob_faultKind p_ob_houseMany p_ob_bestSet p_ob_bestOver p_ob_tenMany p_ob_callMany p_a3) rfl ⟨(callB_of 2 hw0 (gA m_577) rfl rfl rfl (hw0 _ m_41) (hw0 _ m_388) cb_X10_ofHouse ⟨Nat.le_of_ble_eq_true rfl, Nat.le_of_ble_eq_true rfl⟩), (hw0 _ m_389), (hw0 _ m_390)⟩ (ci := 10) (q := (RX10, TX10, 41)) rfl rfl rfl hl.1 (Nat.le_of_ble_eq_true rfl) dX10_seen_40 ⟨Nat.le_of_ble_eq_true rfl, Nat.le_of_ble_eq_true rfl⟩ (fun r_1015 w_1015 H locs hw_1015 hP hD hS => ?_)
      obtain ⟨v_1016, bv_1016, h_1017, er_1015, rfl⟩ := hw_1015
      subst r_1015
      obtain ⟨hP, hD⟩ : vPD G A H [(ce_X10 ob ob_thrown ob_world ob_images ob_hasImage ob_tape ob_taped ob_five ob_size ob_at ob_from ob_token ob_value ob_faultKind ob_faultPlace ob_fresh ob_parts ob_houses ob_houseMany ob_worthOf ob_byCall ob_over ob_bestSet ob_bestOver ob_bestWorth ob_row ob_tenDebts ob_tenMany ob_fewestBy ob_covered ob_queue ob_cameBy ob_parent ob_met ob_calls ob_callMany ob_calledOn ob_saved ob_many ob_width ob_numbers ob_moving), (ce_i9080 y ob_world fob_world), (ce_z16 y ob_byCall fob_byCall)] := ⟨hP, hD⟩
      refine va_mmax (own := RX10) hx hb (by rw [hml]; exact hl.1.symm) hown (hw0 _ m_674) (hw0 _ m_675) (hw0 _ m_283) (hw0 _ m_676) (Nat.le_of_ble_eq_true rfl) (Nat.le_of_ble_eq_true rfl) (Nat.zero_le _) (Nat.zero_le _) dX10_seen_43 ?_
      refine lv_topi (fun v_1018 ev_1018 => ?_)
      have bv_1018 : (0 : Int) ≤ v_1018.toInt ∧ v_1018.toInt ≤ 378 := bm_max ev_1018 bv_1004 bv_1016 _ _ (by decide)
      have mqv_1018 := mx_q ev_1018
      refine lv_bipush (v := 15) hx hb dX10_seen_46 (by decide) ?_
      refine lv_iadd hx hb dX10_seen_48 ?_
      refine lv_topi (fun v_1019 ev_1019 => ?_)
      have qv_1019 := ba_add ev_1019 bv_1018 (bkc (x := 15) (c := 15) (by decide)) (by decide)
      have bv_1019 : (15 : Int) ≤ v_1019.toInt ∧ v_1019.toInt ≤ 393 := bq_add qv_1019 bv_1018 (bkc (x := 15) (c := 15) (by decide)) _ _ (by decide)
      have qv_1019 : v_1019.toInt = v_1018.toInt + (15) := qv_1019
      refine lv_istore (lv' := [(5, .int v_1019), (0, .ref ob), (1, .int a1), (2, .int a2), (3, .int a3), (4, .int a4)]) hx hb dX10_seen_49 hl (by decide) rfl (fun ls hl => ?_)
      refine lv_iload hx hb dX10_seen_51 (lv_at hl 0 rfl) ?_
      refine lv_aload_n hx hb dX10_seen_53 rfl (lv_at hl 1 rfl) ?_
      refine lv_iload_n hx hb dX10_seen_54 rfl (lv_at hl 4 rfl) ?_
      refine lv_iconst (v := 5) hx hb dX10_seen_55 (by decide) ?_
      refine cVim (As := [.int a3, .int 5]) (rest := [.int v_1019]) ⟨hx, hb, hml, hown, hw0⟩ hA hK hP hD hS [true, true] (fofHouse5 l G y _ ob a3 ob_thrown ob_world ob_images ob_hasImage ob_tape ob_taped ob_five ob_size ob_at ob_from ob_token ob_value ob_faultKind ob_faultPlace ob_fresh ob_parts ob_houses ob_houseMany ob_worthOf ob_byCall ob_over ob_bestSet ob_bestOver ob_bestWorth ob_row ob_tenDebts ob_tenMany ob_fewestBy ob_covered ob_queue ob_cameBy ob_parent ob_met ob_calls ob_callMany ob_calledOn ob_saved ob_many ob_width ob_numbers ob_moving fob_world p_fob_world p_ob_taped p_ob_size p_ob_at p_ob_from p_ob_token p_ob_value p_ob_faultKind p_ob_houseMany p_ob_bestSet p_ob_bestOver p_ob_tenMany p_ob_callMany p_a3) rfl ⟨(callB_of 2 hw0 (gA m_577) rfl rfl rfl (hw0 _ m_41) (hw0 _ m_388) cb_X10_ofHouse ⟨Nat.le_of_ble_eq_true rfl, Nat.le_of_ble_eq_true rfl⟩), (hw0 _ m_389), (hw0 _ m_390)⟩ (ci := 10) (q := (RX10, TX10, 41)) rfl rfl rfl hl.1 (Nat.le_of_ble_eq_true rfl) dX10_seen_56 ⟨Nat.le_of_ble_eq_true rfl, Nat.le_of_ble_eq_true rfl⟩ (fun r_1020 w_1020 H locs hw_1020 hP hD hS => ?_)
      obtain ⟨v_1021, bv_1021, h_1022, er_1020, rfl⟩ := hw_1020
      subst r_1020
      obtain ⟨hP, hD⟩ : vPD G A H [(ce_X10 ob ob_thrown ob_world ob_images ob_hasImage ob_tape ob_taped ob_five ob_size ob_at ob_from ob_token ob_value ob_faultKind ob_faultPlace ob_fresh ob_parts ob_houses ob_houseMany ob_worthOf ob_byCall ob_over ob_bestSet ob_bestOver ob_bestWorth ob_row ob_tenDebts ob_tenMany ob_fewestBy ob_covered ob_queue ob_cameBy ob_parent ob_met ob_calls ob_callMany ob_calledOn ob_saved ob_many ob_width ob_numbers ob_moving), (ce_i9080 y ob_world fob_world), (ce_z16 y ob_byCall fob_byCall)] := ⟨hP, hD⟩
      refine lv_icmp_le (tgt := 64) hx hb dX10_seen_59 (by decide) (fun c_1023 => ?_) (fun c_1023 => ?_)
      · skip
        have nc_1023 := nb_le (180) (15) c_1023 bv_1019 bv_1021 (by decide)
        have h_1024 : (0 : Int) ≤ v_1018.toInt ∧ v_1018.toInt ≤ 165 := bq_in1 qv_1019 nc_1023.1 bv_1018 (bkc (x := 15) (c := 15) (by decide)) (by decide)
        refine lv_iload hx hb dX10_seen_64 (lv_at hl 0 rfl) ?_
        refine lv_sipush (v := 180) hx hb dX10_seen_66 (by decide) ?_
        refine lv_icmp_le (tgt := 76) hx hb dX10_seen_69 (by decide) (fun _ => ?_) (fun c9 => absurd (dc_le nc_1023.1 (bkc (x := 180) (c := 180) (by decide)) (by decide)) c9)
        refine lv_iload hx hb dX10_seen_76 (lv_at hl 0 rfl) ?_
        exact W.iret (v := v_1019) hx hb hr (fun t ht hW => ⟨⟨v_1019, _, rfl, ⟨v_1019, (bw (-1) (180) nc_1023.1 (by decide)), by unfold snF; (repeat' split) <;> omega, rfl, rfl⟩, by rw [ht]; exact hP, hD⟩, hS.F ht⟩) hS.2.2 dX10_seen_78
      · skip
        have nc_1023 := nb_nle (180) (15) c_1023 bv_1021 bv_1019 (by decide)
        refine lv_iconst (v := (-1)) hx hb dX10_seen_62 (by decide) ?_
        exact W.iret (v := (-1)) hx hb hr (fun t ht hW => ⟨⟨(-1), _, rfl, ⟨(-1), (bw (-1) (180) (bkc (x := (-1)) (c := -1) (by decide)) (by decide)), by have h90 : Int32.toInt (-1) = -1 := (by decide); unfold snF; (repeat' split) <;> omega, rfl, rfl⟩, by rw [ht]; exact hP, hD⟩, hS.F ht⟩) hS.2.2 dX10_seen_63
    · skip
      have nc_1014 : v_1010.toInt ≠ v_1012.toInt := fun h9 => c_1014 (Int32.toInt_inj.mp h9)
      refine lv_iconst (v := (-1)) hx hb dX10_seen_33 (by decide) ?_
      exact W.iret (v := (-1)) hx hb hr (fun t ht hW => ⟨⟨(-1), _, rfl, ⟨(-1), (bw (-1) (180) (bkc (x := (-1)) (c := -1) (by decide)) (by decide)), by have h90 : Int32.toInt (-1) = -1 := (by decide); unfold snF; (repeat' split) <;> omega, rfl, rfl⟩, by rw [ht]; exact hP, hD⟩, hS.F ht⟩) hS.2.2 dX10_seen_34

set_option maxHeartbeats 4000000 in
set_option maxRecDepth 100000 in
theorem fgoes (l : Launch) (G : va_G) (y : Nat → ClassId) (sz : Nat) (ob : Nat) (a1 : Int32) (a2 : Int32) (a3 : Int32) (a4 : Int32) (ob_thrown : Int32) (ob_world : Nat) (ob_images : Nat) (ob_hasImage : Nat) (ob_tape : Nat) (ob_taped : Int32) (ob_five : Nat) (ob_size : Int32) (ob_at : Int32) (ob_from : Int32) (ob_token : Int32) (ob_value : Int32) (ob_faultKind : Int32) (ob_faultPlace : Int32) (ob_fresh : Nat) (ob_parts : Nat) (ob_houses : Nat) (ob_houseMany : Int32) (ob_worthOf : Nat) (ob_byCall : Nat) (ob_over : Nat) (ob_bestSet : Int32) (ob_bestOver : Int32) (ob_bestWorth : Int32) (ob_row : Nat) (ob_tenDebts : Nat) (ob_tenMany : Int32) (ob_fewestBy : Nat) (ob_covered : Nat) (ob_queue : Nat) (ob_cameBy : Nat) (ob_parent : Nat) (ob_met : Nat) (ob_calls : Nat) (ob_callMany : Int32) (ob_calledOn : Nat) (ob_saved : Nat) (ob_many : Nat) (ob_width : Nat) (ob_numbers : Nat) (ob_moving : Nat) (fob_world : Nat → Int32) (fob_houses : Nat → Int32) (fob_byCall : Nat → Int32) (fob_over : Nat → Int32) (p_fob_world : RWw fob_world) (p_ob_taped : (0 : Int) ≤ ob_taped.toInt ∧ ob_taped.toInt ≤ 1400) (p_ob_size : (0 : Int) ≤ ob_size.toInt ∧ ob_size.toInt ≤ 1400) (p_ob_at : (0 : Int) ≤ ob_at.toInt ∧ ob_at.toInt ≤ 1400) (p_ob_from : (0 : Int) ≤ ob_from.toInt ∧ ob_from.toInt ≤ 1400) (p_ob_token : (0 : Int) ≤ ob_token.toInt ∧ ob_token.toInt ≤ 4) (p_ob_value : (0 : Int) ≤ ob_value.toInt ∧ ob_value.toInt ≤ 9999) (p_ob_faultKind : (0 : Int) ≤ ob_faultKind.toInt ∧ ob_faultKind.toInt ≤ 3) (p_fob_houses : ∀ i, (0 : Int) ≤ (fob_houses i).toInt ∧ (fob_houses i).toInt ≤ 15) (p_ob_houseMany : (0 : Int) ≤ ob_houseMany.toInt ∧ ob_houseMany.toInt ≤ 10) (p_fob_byCall : ∀ i, (0 : Int) ≤ (fob_byCall i).toInt ∧ (fob_byCall i).toInt ≤ 1) (p_fob_over : ∀ i, (-1 : Int) ≤ (fob_over i).toInt ∧ (fob_over i).toInt ≤ 180) (p_ob_bestSet : (0 : Int) ≤ ob_bestSet.toInt ∧ ob_bestSet.toInt ≤ 1023) (p_ob_bestOver : (-1 : Int) ≤ ob_bestOver.toInt ∧ ob_bestOver.toInt ≤ 180) (p_ob_tenMany : (0 : Int) ≤ ob_tenMany.toInt ∧ ob_tenMany.toInt ≤ 10) (p_ob_callMany : (0 : Int) ≤ ob_callMany.toInt ∧ ob_callMany.toInt ≤ 16) (p_a1 : (0 : Int) ≤ a1.toInt ∧ a1.toInt ≤ 15) (p_a2 : (0 : Int) ≤ a2.toInt ∧ a2.toInt ≤ 180) (p_a3 : (0 : Int) ≤ a3.toInt ∧ a3.toInt ≤ 1023) (p_a4 : (0 : Int) ≤ a4.toInt ∧ a4.toInt ≤ 405) : Met l yX10_goesThrough (Cond.code yX10_goesThrough cX10_goesThrough 11 none :: wAll) ({ frames := 3, cells := 0, slots := 0, locals := 69 }) (va_Pc [.ref ob, .int a1, .int a2, .int a3, .int a4] (kp G y sz [(ce_X10 ob ob_thrown ob_world ob_images ob_hasImage ob_tape ob_taped ob_five ob_size ob_at ob_from ob_token ob_value ob_faultKind ob_faultPlace ob_fresh ob_parts ob_houses ob_houseMany ob_worthOf ob_byCall ob_over ob_bestSet ob_bestOver ob_bestWorth ob_row ob_tenDebts ob_tenMany ob_fewestBy ob_covered ob_queue ob_cameBy ob_parent ob_met ob_calls ob_callMany ob_calledOn ob_saved ob_many ob_width ob_numbers ob_moving), (ce_i9080 y ob_world fob_world), (ce_i16 y ob_houses fob_houses), (ce_z16 y ob_byCall fob_byCall), (ce_i10240 y ob_over fob_over)])) (va_Qv (fun (w : va_W) => (∃ (f_5191 : Nat → Int32), (∀ i, (-1 : Int) ≤ (f_5191 i).toInt ∧ (f_5191 i).toInt ≤ 180) ∧ (dpI (snF fob_world fob_byCall a4.toInt) (hsF fob_houses) a1.toInt a2.toInt a3.toInt.toNat ob_houseMany.toInt.toNat f_5191 (2 ^ ob_houseMany.toInt.toNat) 0) ∧ w = [(ce_X10 ob ob_thrown ob_world ob_images ob_hasImage ob_tape ob_taped ob_five ob_size ob_at ob_from ob_token ob_value ob_faultKind ob_faultPlace ob_fresh ob_parts ob_houses ob_houseMany ob_worthOf ob_byCall ob_over ob_bestSet ob_bestOver ob_bestWorth ob_row ob_tenDebts ob_tenMany ob_fewestBy ob_covered ob_queue ob_cameBy ob_parent ob_met ob_calls ob_callMany ob_calledOn ob_saved ob_many ob_width ob_numbers ob_moving), (ce_i9080 y ob_world fob_world), (ce_i16 y ob_houses fob_houses), (ce_z16 y ob_byCall fob_byCall), (ce_i10240 y ob_over f_5191)])) (kq G (va_A [(ce_X10 ob ob_thrown ob_world ob_images ob_hasImage ob_tape ob_taped ob_five ob_size ob_at ob_from ob_token ob_value ob_faultKind ob_faultPlace ob_fresh ob_parts ob_houses ob_houseMany ob_worthOf ob_byCall ob_over ob_bestSet ob_bestOver ob_bestWorth ob_row ob_tenDebts ob_tenMany ob_fewestBy ob_covered ob_queue ob_cameBy ob_parent ob_met ob_calls ob_callMany ob_calledOn ob_saved ob_many ob_width ob_numbers ob_moving), (ce_i9080 y ob_world fob_world), (ce_i16 y ob_houses fob_houses), (ce_z16 y ob_byCall fob_byCall), (ce_i10240 y ob_over fob_over)] sz)) (va_A [(ce_X10 ob ob_thrown ob_world ob_images ob_hasImage ob_tape ob_taped ob_five ob_size ob_at ob_from ob_token ob_value ob_faultKind ob_faultPlace ob_fresh ob_parts ob_houses ob_houseMany ob_worthOf ob_byCall ob_over ob_bestSet ob_bestOver ob_bestWorth ob_row ob_tenDebts ob_tenMany ob_fewestBy ob_covered ob_queue ob_cameBy ob_parent ob_met ob_calls ob_callMany ob_calledOn ob_saved ob_many ob_width ob_numbers ob_moving), (ce_i9080 y ob_world fob_world), (ce_i16 y ob_houses fob_houses), (ce_z16 y ob_byCall fob_byCall), (ce_i10240 y ob_over fob_over)] sz)) 0 0 (va_A [(ce_X10 ob ob_thrown ob_world ob_images ob_hasImage ob_tape ob_taped ob_five ob_size ob_at ob_from ob_token ob_value ob_faultKind ob_faultPlace ob_fresh ob_parts ob_houses ob_houseMany ob_worthOf ob_byCall ob_over ob_bestSet ob_bestOver ob_bestWorth ob_row ob_tenDebts ob_tenMany ob_fewestBy ob_covered ob_queue ob_cameBy ob_parent ob_met ob_calls ob_callMany ob_calledOn ob_saved ob_many ob_width ob_numbers ob_moving), (ce_i9080 y ob_world fob_world), (ce_i16 y ob_houses fob_houses), (ce_z16 y ob_byCall fob_byCall), (ce_i10240 y ob_over fob_over)] sz) := by
  refine Met.ofW (cc := cX10_goesThrough) (maxL := 11) (ret := none) (by decide) rfl ?_
  intro p e s m args below meth c s₁ B hml hv
  obtain ⟨rfl, hsz, hP, hK, hD0⟩ := hv
  have hx := B.exec
  have hb := B.bytes
  have hr := B.returns
  have hw0 : ∀ w ∈ wAll, w.before _ s = true := fun w h => atoms_spec (ws := Cond.code yX10_goesThrough cX10_goesThrough 11 none :: wAll) B.pre w (List.mem_cons_of_mem _ h)
  have hown : s.vm.findClass RX10 = some m.cls := findClass_of_methodNamed B.named
  subst hsz
  have hD := hD0.self (sz := s.heap.size)
  generalize hAe : va_A [(ce_X10 ob ob_thrown ob_world ob_images ob_hasImage ob_tape ob_taped ob_five ob_size ob_at ob_from ob_token ob_value ob_faultKind ob_faultPlace ob_fresh ob_parts ob_houses ob_houseMany ob_worthOf ob_byCall ob_over ob_bestSet ob_bestOver ob_bestWorth ob_row ob_tenDebts ob_tenMany ob_fewestBy ob_covered ob_queue ob_cameBy ob_parent ob_met ob_calls ob_callMany ob_calledOn ob_saved ob_many ob_width ob_numbers ob_moving), (ce_i9080 y ob_world fob_world), (ce_i16 y ob_houses fob_houses), (ce_z16 y ob_byCall fob_byCall), (ce_i10240 y ob_over fob_over)] s.heap.size = A at hD ⊢
  have hA : ∀ q : Nat, s.heap.size ≤ q → A q := fun q h => by rw [← hAe]; exact Or.inr h
  have hS : va_S A s.heap s.heap [] := va_S.rf
  have hP : va_P G vwCl [(ce_X10 ob ob_thrown ob_world ob_images ob_hasImage ob_tape ob_taped ob_five ob_size ob_at ob_from ob_token ob_value ob_faultKind ob_faultPlace ob_fresh ob_parts ob_houses ob_houseMany ob_worthOf ob_byCall ob_over ob_bestSet ob_bestOver ob_bestWorth ob_row ob_tenDebts ob_tenMany ob_fewestBy ob_covered ob_queue ob_cameBy ob_parent ob_met ob_calls ob_callMany ob_calledOn ob_saved ob_many ob_width ob_numbers ob_moving), (ce_i9080 y ob_world fob_world), (ce_i16 y ob_houses fob_houses), (ce_z16 y ob_byCall fob_byCall), (ce_i10240 y ob_over fob_over)] s.heap := hP
  have hl := lv_entry ([.ref ob, .int a1, .int a2, .int a3, .int a4]) (n := 11) (Nat.le_of_ble_eq_true rfl)
  rw [lg_entry_eq]
  generalize (lg_sl ([.ref ob, .int a1, .int a2, .int a3, .int a4]) ++ List.replicate (11 - (lg_sl ([.ref ob, .int a1, .int a2, .int a3, .int a4])).length) Slot.unset).toArray = ls at hl ⊢
  have hl : lv_has ls 11 [(0, .ref ob), (1, .int a1), (2, .int a2), (3, .int a3), (4, .int a4)] := hl
  refine lv_iconst (v := 1) hx hb dX10_goesThrough_0 (by decide) ?_
  refine lv_istore (lv' := [(5, .int 1), (0, .ref ob), (1, .int a1), (2, .int a2), (3, .int a3), (4, .int a4)]) hx hb dX10_goesThrough_1 hl (by decide) rfl (fun ls hl => ?_)
  refine loopX (fun n H locs ls st => ∃ (v_1674 : Int32) (f_1675 : Nat → Int32), (1024 - v_1674.toInt).toNat = n ∧ ((1 : Int) ≤ v_1674.toInt ∧ v_1674.toInt ≤ 1024) ∧ (∀ i, (-1 : Int) ≤ (f_1675 i).toInt ∧ (f_1675 i).toInt ≤ 180) ∧ (dpI (snF fob_world fob_byCall a4.toInt) (hsF fob_houses) a1.toInt a2.toInt a3.toInt.toNat ob_houseMany.toInt.toNat f_1675 v_1674.toInt.toNat 0) ∧ st = [] ∧ vPD G A H [(ce_X10 ob ob_thrown ob_world ob_images ob_hasImage ob_tape ob_taped ob_five ob_size ob_at ob_from ob_token ob_value ob_faultKind ob_faultPlace ob_fresh ob_parts ob_houses ob_houseMany ob_worthOf ob_byCall ob_over ob_bestSet ob_bestOver ob_bestWorth ob_row ob_tenDebts ob_tenMany ob_fewestBy ob_covered ob_queue ob_cameBy ob_parent ob_met ob_calls ob_callMany ob_calledOn ob_saved ob_many ob_width ob_numbers ob_moving), (ce_i9080 y ob_world fob_world), (ce_i16 y ob_houses fob_houses), (ce_z16 y ob_byCall fob_byCall), (ce_i10240 y ob_over f_1675)] ∧ va_S A s.heap H locs ∧ lv_has ls 11 [(5, .int v_1674), (0, .ref ob), (1, .int a1), (2, .int a2), (3, .int a3), (4, .int a4)]) ?_ (n := (1024 - (1 : Int32).toInt).toNat) ⟨1, fob_over, rfl, (bw (1) (1024) (bkc (x := 1) (c := 1) (by decide)) (by decide)), p_fob_over, (dp_0 (by decide) rfl), rfl, ⟨hP, hD⟩, hS, lv_sub hl [0, 1, 2, 3, 4, 5] rfl⟩
  rintro n ih_2635 H locs ls st ⟨v_1674, f_1675, hn_2635, bv_1674, bf_1675, rl1675_0, rfl, ⟨hP, hD⟩, hS, hl⟩
  refine lv_iload hx hb dX10_goesThrough_3 (lv_at hl 0 rfl) ?_
  refine lv_iconst (v := 1) hx hb dX10_goesThrough_5 (by decide) ?_
  refine lv_aload_n hx hb dX10_goesThrough_6 rfl (lv_at hl 1 rfl) ?_
  refine va_get (D := G) (ci := 10) (v := .int ob_houseMany) (C := RX10) (T := TX10) (N := 41) hx hb hw0 inA_wsX100 hown hK.1 hP 0 rfl rfl 17 (by decide) (hw0 _ m_409) (fun _ h9 => h9) rfl dX10_goesThrough_7 ?_
  refine lv_ishl hx hb dX10_goesThrough_10 ?_
  refine lv_topi (fun v_2636 ev_2636 => ?_)
  have bv_2636 : (1 : Int) ≤ v_2636.toInt ∧ v_2636.toInt ≤ 1024 := ba_shl 0 10 ev_2636 p_ob_houseMany (by decide)
  refine lv_icmp_ge (tgt := 240) hx hb dX10_goesThrough_11 (by decide) (fun c_2637 => ?_) (fun c_2637 => ?_)
  · skip
    have nc_2637 := nb_le (1024) (1) c_2637 bv_2636 bv_1674 (by decide)
    exact W.vret hx hb hr (fun t ht hW => ⟨⟨_, rfl, ⟨f_1675, bf_1675, dp_w rl1675_0 (by rw [← (shl_nat ev_2636 (by omega)).1]; omega) rfl, rfl⟩, by rw [ht]; exact hP, hD⟩, hS.F ht⟩) hS.2.2 dX10_goesThrough_240
  · skip
    have nc_2637 := nb_nle (1023) (2) c_2637 bv_1674 bv_2636 (by decide)
    refine lv_iconst (v := 0) hx hb dX10_goesThrough_14 (by decide) ?_
    refine lv_istore (lv' := [(6, .int 0), (5, .int v_1674), (0, .ref ob), (1, .int a1), (2, .int a2), (3, .int a3), (4, .int a4)]) hx hb dX10_goesThrough_15 hl (by decide) rfl (fun ls hl => ?_)
    refine loopX (fun n H locs ls st => ∃ (v_2956 : Int32) (f_2957 : Nat → Int32), (10 - v_2956.toInt).toNat = n ∧ ((0 : Int) ≤ v_2956.toInt ∧ v_2956.toInt ≤ 10) ∧ (∀ i, (-1 : Int) ≤ (f_2957 i).toInt ∧ (f_2957 i).toInt ≤ 180) ∧ (dpI (snF fob_world fob_byCall a4.toInt) (hsF fob_houses) a1.toInt a2.toInt a3.toInt.toNat ob_houseMany.toInt.toNat f_2957 v_1674.toInt.toNat v_2956.toInt.toNat) ∧ st = [] ∧ vPD G A H [(ce_X10 ob ob_thrown ob_world ob_images ob_hasImage ob_tape ob_taped ob_five ob_size ob_at ob_from ob_token ob_value ob_faultKind ob_faultPlace ob_fresh ob_parts ob_houses ob_houseMany ob_worthOf ob_byCall ob_over ob_bestSet ob_bestOver ob_bestWorth ob_row ob_tenDebts ob_tenMany ob_fewestBy ob_covered ob_queue ob_cameBy ob_parent ob_met ob_calls ob_callMany ob_calledOn ob_saved ob_many ob_width ob_numbers ob_moving), (ce_i9080 y ob_world fob_world), (ce_i16 y ob_houses fob_houses), (ce_z16 y ob_byCall fob_byCall), (ce_i10240 y ob_over f_2957)] ∧ va_S A s.heap H locs ∧ lv_has ls 11 [(6, .int v_2956), (5, .int v_1674), (0, .ref ob), (1, .int a1), (2, .int a2), (3, .int a3), (4, .int a4)]) ?_ (n := (10 - (0 : Int32).toInt).toNat) ⟨0, f_1675, rfl, (bw (0) (10) (bkc (x := 0) (c := 0) (by decide)) (by decide)), bf_1675, (dp_eq rl1675_0 rfl (by decide)), rfl, ⟨hP, hD⟩, hS, lv_sub hl [0, 1, 2, 3, 4, 5, 6] rfl⟩
    rintro n ih_3276 H locs ls st ⟨v_2956, f_2957, hn_3276, bv_2956, bf_2957, rl2957_0, rfl, ⟨hP, hD⟩, hS, hl⟩
    refine lv_iload hx hb dX10_goesThrough_17 (lv_at hl 0 rfl) ?_
    refine lv_aload_n hx hb dX10_goesThrough_19 rfl (lv_at hl 2 rfl) ?_
    refine va_get (D := G) (ci := 10) (v := .int ob_houseMany) (C := RX10) (T := TX10) (N := 41) hx hb hw0 inA_wsX100 hown hK.1 hP 0 rfl rfl 17 (by decide) (hw0 _ m_409) (fun _ h9 => h9) rfl dX10_goesThrough_20 ?_
    refine lv_icmp_ge (tgt := 234) hx hb dX10_goesThrough_23 (by decide) (fun c_3277 => ?_) (fun c_3277 => ?_)
    · skip
      have nc_3277 := nb_le (10) (0) c_3277 p_ob_houseMany bv_2956 (by decide)
      obtain ⟨v_3278, ev_3278⟩ : ∃ z : Int32, z = v_1674 + 1 := ⟨_, rfl⟩
      have qv_3278 := ba_add ev_3278 nc_2637.1 (bkc (x := 1) (c := 1) (by decide)) (by decide)
      have bv_3278 : (2 : Int) ≤ v_3278.toInt ∧ v_3278.toInt ≤ 1024 := bq_add qv_3278 nc_2637.1 (bkc (x := 1) (c := 1) (by decide)) _ _ (by decide)
      have qv_3278 : v_3278.toInt = v_1674.toInt + (1) := qv_3278
      refine lv_iinc (v := v_3278) (lv' := [(5, .int v_3278), (6, .int v_2956), (0, .ref ob), (1, .int a1), (2, .int a2), (3, .int a3), (4, .int a4)]) hx hb dX10_goesThrough_234 hl (k := 1) rfl (ev_3278.symm) (by decide) rfl (fun ls hl => ?_)
      refine lv_goto (tgt := 3) hx hb dX10_goesThrough_237 (by decide) ?_
      exact ih_2635 _ (ml_inc (hi := 1024) hn_2635 qv_3278 (by decide) ((bw (1) (1024) bv_3278 (by decide))).2) _ _ _ _ ⟨v_3278, f_2957, rfl, (bw (1) (1024) bv_3278 (by decide)), bf_2957, (dp_row rl2957_0 (by omega) (by omega) rfl), rfl, ⟨hP, hD⟩, hS, lv_sub hl [0, 2, 3, 4, 5, 6] rfl⟩
    · skip
      have nc_3277 := nb_nle (9) (1) c_3277 bv_2956 p_ob_houseMany (by decide)
      refine lv_bipush (v := 10) hx hb dX10_goesThrough_26 (by decide) ?_
      refine lv_iload hx hb dX10_goesThrough_28 (lv_at hl 1 rfl) ?_
      refine lv_imul hx hb dX10_goesThrough_30 ?_
      refine lv_topi (fun v_3279 ev_3279 => ?_)
      have qv_3279 := ba_mul 10 (ev_3279.trans (Int32.mul_comm _ _)) nc_2637.1 (by decide) (by decide) (by decide)
      have bv_3279 : (10 : Int) ≤ v_3279.toInt ∧ v_3279.toInt ≤ 10230 := qv_3279.2
      refine lv_iload hx hb dX10_goesThrough_31 (lv_at hl 0 rfl) ?_
      refine lv_iadd hx hb dX10_goesThrough_33 ?_
      refine lv_topi (fun v_3280 ev_3280 => ?_)
      have qv_3280 := ba_add ev_3280 bv_3279 nc_3277.1 (by decide)
      have bv_3280 : (10 : Int) ≤ v_3280.toInt ∧ v_3280.toInt ≤ 10239 := bq_add qv_3280 bv_3279 nc_3277.1 _ _ (by decide)
      refine lv_istore (lv' := [(7, .int v_3280), (6, .int v_2956), (5, .int v_1674), (0, .ref ob), (1, .int a1), (2, .int a2), (3, .int a3), (4, .int a4)]) hx hb dX10_goesThrough_34 hl (by decide) rfl (fun ls hl => ?_)
      refine lv_aload_n hx hb dX10_goesThrough_36 rfl (lv_at hl 3 rfl) ?_
      refine va_get (D := G) (ci := 10) (v := .ref ob_over) (C := RX10) (T := TX10) (N := 41) hx hb hw0 inA_wsX100 hown hK.1 hP 0 rfl rfl 20 (by decide) (hw0 _ m_506) (fun _ h9 => h9) rfl dX10_goesThrough_37 ?_
      refine lv_iload hx hb dX10_goesThrough_40 (lv_at hl 0 rfl) ?_
      refine lv_iconst (v := (-1)) hx hb dX10_goesThrough_42 (by decide) ?_
      refine va_iast hx hb hK.1 hP hD hS 4 1 rfl rfl (vi bv_3280 (by decide)) dX10_goesThrough_43 (fun H locs hP hD hS => ?_)
      generalize hf_3281 : (upd f_2957 (v_3280 : Int32).toNatClampNeg (-1)) = f_3281 at hP hD
      have bf_3281 : ∀ i, (-1 : Int) ≤ (f_3281 i).toInt ∧ (f_3281 i).toInt ≤ 180 := hf_3281 ▸ up_b bf_2957 (bw (-1) (180) (bkc (x := (-1)) (c := -1) (by decide)) (by decide))
      obtain ⟨hP, hD⟩ : vPD G A H [(ce_X10 ob ob_thrown ob_world ob_images ob_hasImage ob_tape ob_taped ob_five ob_size ob_at ob_from ob_token ob_value ob_faultKind ob_faultPlace ob_fresh ob_parts ob_houses ob_houseMany ob_worthOf ob_byCall ob_over ob_bestSet ob_bestOver ob_bestWorth ob_row ob_tenDebts ob_tenMany ob_fewestBy ob_covered ob_queue ob_cameBy ob_parent ob_met ob_calls ob_callMany ob_calledOn ob_saved ob_many ob_width ob_numbers ob_moving), (ce_i9080 y ob_world fob_world), (ce_i16 y ob_houses fob_houses), (ce_z16 y ob_byCall fob_byCall), (ce_i10240 y ob_over f_3281)] := ⟨hP, hD⟩
      refine lv_iload hx hb dX10_goesThrough_44 (lv_at hl 2 rfl) ?_
      refine lv_iload hx hb dX10_goesThrough_46 (lv_at hl 1 rfl) ?_
      refine cutW 228 (fun H locs ls st => ∃ (f_3438 : Nat → Int32), (∀ i, (-1 : Int) ≤ (f_3438 i).toInt ∧ (f_3438 i).toInt ≤ 180) ∧ (dpI (snF fob_world fob_byCall a4.toInt) (hsF fob_houses) a1.toInt a2.toInt a3.toInt.toNat ob_houseMany.toInt.toNat f_3438 v_1674.toInt.toNat (v_2956.toInt.toNat + 1)) ∧ st = [] ∧ vPD G A H [(ce_X10 ob ob_thrown ob_world ob_images ob_hasImage ob_tape ob_taped ob_five ob_size ob_at ob_from ob_token ob_value ob_faultKind ob_faultPlace ob_fresh ob_parts ob_houses ob_houseMany ob_worthOf ob_byCall ob_over ob_bestSet ob_bestOver ob_bestWorth ob_row ob_tenDebts ob_tenMany ob_fewestBy ob_covered ob_queue ob_cameBy ob_parent ob_met ob_calls ob_callMany ob_calledOn ob_saved ob_many ob_width ob_numbers ob_moving), (ce_i9080 y ob_world fob_world), (ce_i16 y ob_houses fob_houses), (ce_z16 y ob_byCall fob_byCall), (ce_i10240 y ob_over f_3438)] ∧ va_S A s.heap H locs ∧ lv_has ls 11 [(6, .int v_2956), (5, .int v_1674), (0, .ref ob), (1, .int a1), (2, .int a2), (3, .int a3), (4, .int a4)]) ?_ (fun J_228_3438 => ?_)
      · rintro H locs ls st ⟨f_3438, bf_3438, rl3438_0, rfl, ⟨hP, hD⟩, hS, hl⟩
        obtain ⟨v_3439, ev_3439⟩ : ∃ z : Int32, z = v_2956 + 1 := ⟨_, rfl⟩
        have qv_3439 := ba_add ev_3439 nc_3277.1 (bkc (x := 1) (c := 1) (by decide)) (by decide)
        have bv_3439 : (1 : Int) ≤ v_3439.toInt ∧ v_3439.toInt ≤ 10 := bq_add qv_3439 nc_3277.1 (bkc (x := 1) (c := 1) (by decide)) _ _ (by decide)
        have qv_3439 : v_3439.toInt = v_2956.toInt + (1) := qv_3439
        refine lv_iinc (v := v_3439) (lv' := [(6, .int v_3439), (5, .int v_1674), (0, .ref ob), (1, .int a1), (2, .int a2), (3, .int a3), (4, .int a4)]) hx hb dX10_goesThrough_228 hl (k := 0) rfl (ev_3439.symm) (by decide) rfl (fun ls hl => ?_)
        refine lv_goto (tgt := 17) hx hb dX10_goesThrough_231 (by decide) ?_
        exact ih_3276 _ (ml_inc (hi := 10) hn_3276 qv_3439 (by decide) ((bw (0) (10) bv_3439 (by decide))).2) _ _ _ _ ⟨v_3439, f_3438, rfl, (bw (0) (10) bv_3439 (by decide)), bf_3438, (dp_eq rl3438_0 rfl (by omega)), rfl, ⟨hP, hD⟩, hS, lv_sub hl [0, 1, 2, 3, 4, 5, 6] rfl⟩
      · skip
        refine cSim (As := [.int v_1674, .int v_2956]) (rest := []) ⟨hx, hb, hml, hown, hw0⟩ hA hK hP hD hS [] (sholdB l G y _ v_1674 v_2956 (bw (0) (65535) nc_2637.1 (by decide)) (bw (0) (15) nc_3277.1 (by decide))) rfl ⟨(callB_of 2 hw0 (gA m_512) rfl rfl rfl (hw0 _ m_41) (hw0 _ m_353) cb_X10_holds ⟨Nat.le_of_ble_eq_true rfl, Nat.le_of_ble_eq_true rfl⟩), (hw0 _ m_354)⟩ rfl hl.1 (Nat.le_of_ble_eq_true rfl) dX10_goesThrough_48 ⟨Nat.le_of_ble_eq_true rfl, Nat.le_of_ble_eq_true rfl⟩ (fun r_3440 w_3440 H locs hw_3440 hP hD hS => ?_)
        rcases hw_3440 with ⟨h_3441, rfl, rfl⟩ | ⟨h_3442, rfl, rfl⟩
        · skip
          obtain ⟨hP, hD⟩ : vPD G A H [(ce_X10 ob ob_thrown ob_world ob_images ob_hasImage ob_tape ob_taped ob_five ob_size ob_at ob_from ob_token ob_value ob_faultKind ob_faultPlace ob_fresh ob_parts ob_houses ob_houseMany ob_worthOf ob_byCall ob_over ob_bestSet ob_bestOver ob_bestWorth ob_row ob_tenDebts ob_tenMany ob_fewestBy ob_covered ob_queue ob_cameBy ob_parent ob_met ob_calls ob_callMany ob_calledOn ob_saved ob_many ob_width ob_numbers ob_moving), (ce_i9080 y ob_world fob_world), (ce_i16 y ob_houses fob_houses), (ce_z16 y ob_byCall fob_byCall), (ce_i10240 y ob_over f_3281)] := ⟨hP, hD⟩
          refine lv_if_eq (tgt := 228) hx hb dX10_goesThrough_51 (by decide) (fun _ => ?_) (fun c9 => absurd (by decide) c9)
          exact J_228_3438 _ _ _ _ ⟨f_3281, bf_3281, (dp_skip (dp_fr hf_3281 (by have h9 := cl_to (x := v_3280) (by omega); omega) (by omega) (by omega) rl2957_0) rfl ((vv_at hf_3281 (by have h9 := cl_to (x := v_3280) (by omega); omega)).trans (by decide)) (fun w => by rw [bq_f h_3441] at w; exact absurd w.1 (by decide))), rfl, ⟨hP, hD⟩, hS, lv_sub hl [1, 2, 3, 4, 5, 6, 7] rfl⟩
        · skip
          obtain ⟨hP, hD⟩ : vPD G A H [(ce_X10 ob ob_thrown ob_world ob_images ob_hasImage ob_tape ob_taped ob_five ob_size ob_at ob_from ob_token ob_value ob_faultKind ob_faultPlace ob_fresh ob_parts ob_houses ob_houseMany ob_worthOf ob_byCall ob_over ob_bestSet ob_bestOver ob_bestWorth ob_row ob_tenDebts ob_tenMany ob_fewestBy ob_covered ob_queue ob_cameBy ob_parent ob_met ob_calls ob_callMany ob_calledOn ob_saved ob_many ob_width ob_numbers ob_moving), (ce_i9080 y ob_world fob_world), (ce_i16 y ob_houses fob_houses), (ce_z16 y ob_byCall fob_byCall), (ce_i10240 y ob_over f_3281)] := ⟨hP, hD⟩
          refine lv_if_eq (tgt := 228) hx hb dX10_goesThrough_51 (by decide) (fun c9 => absurd c9 (by decide)) (fun _ => ?_)
          have hTB : v_1674.toInt.toNat.testBit v_2956.toInt.toNat = true := bq_t h_3442
          refine lv_iload hx hb dX10_goesThrough_54 (lv_at hl 2 rfl) ?_
          refine lv_iload_n hx hb dX10_goesThrough_56 rfl (lv_at hl 6 rfl) ?_
          refine lv_iconst (v := (-1)) hx hb dX10_goesThrough_57 (by decide) ?_
          refine lv_ixor hx hb dX10_goesThrough_58 ?_
          refine lv_topi (fun v_3443 ev_3443 => ?_)
          refine lv_iand hx hb dX10_goesThrough_59 ?_
          refine lv_topi (fun v_3444 ev_3444 => ?_)
          have bv_3444 : (0 : Int) ≤ v_3444.toInt ∧ v_3444.toInt ≤ 1023 := ba_andl ev_3444 nc_2637.1 (by decide)
          refine lv_if_eq (tgt := 66) hx hb dX10_goesThrough_60 (by decide) (fun c_3445 => ?_) (fun c_3445 => ?_)
          · skip
            have nc_3445 := nb_eq (0) (0) c_3445 bv_3444 (bkc (x := 0) (c := 0) (by decide)) (by decide)
            have hSB : sub v_1674.toInt.toNat a3.toInt.toNat := sub_1 ev_3444 ev_3443 (by omega) (by omega) c_3445
            refine lv_iload hx hb dX10_goesThrough_66 (lv_at hl 2 rfl) ?_
            refine lv_iconst (v := 1) hx hb dX10_goesThrough_68 (by decide) ?_
            refine lv_iload hx hb dX10_goesThrough_69 (lv_at hl 1 rfl) ?_
            refine lv_ishl hx hb dX10_goesThrough_71 ?_
            refine lv_topi (fun v_3446 ev_3446 => ?_)
            have bv_3446 : (1 : Int) ≤ v_3446.toInt ∧ v_3446.toInt ≤ 512 := ba_shl 0 9 ev_3446 nc_3277.1 (by decide)
            refine lv_iconst (v := (-1)) hx hb dX10_goesThrough_72 (by decide) ?_
            refine lv_ixor hx hb dX10_goesThrough_73 ?_
            refine lv_topi (fun v_3447 ev_3447 => ?_)
            refine lv_iand hx hb dX10_goesThrough_74 ?_
            refine lv_topi (fun v_3448 ev_3448 => ?_)
            have bv_3448 : (0 : Int) ≤ v_3448.toInt ∧ v_3448.toInt ≤ 1023 := ba_andl ev_3448 nc_2637.1 (by decide)
            refine lv_istore (lv' := [(8, .int v_3448), (7, .int v_3280), (6, .int v_2956), (5, .int v_1674), (0, .ref ob), (1, .int a1), (2, .int a2), (3, .int a3), (4, .int a4)]) hx hb dX10_goesThrough_75 hl (by decide) rfl (fun ls hl => ?_)
            have hCL : v_3448.toInt.toNat = clr v_1674.toInt.toNat v_2956.toInt.toNat := clr_nat ev_3448 ev_3447 ev_3446 (by omega) (by omega)
            refine lv_iload hx hb dX10_goesThrough_77 (lv_at hl 0 rfl) ?_
            refine lv_if_ne (tgt := 107) hx hb dX10_goesThrough_79 (by decide) (fun c_3449 => ?_) (fun c_3449 => ?_)
            · skip
              have nc_3449 := nb_ne (1) (1023) c_3449 bv_3448 (k := 0) (by decide) (by decide)
              have hNZ : clr v_1674.toInt.toNat v_2956.toInt.toNat ≠ 0 := fun w => c_3449 (nz_of (hCL.trans w) (by omega))
              refine lv_iconst (v := 0) hx hb dX10_goesThrough_107 (by decide) ?_
              refine lv_istore (lv' := [(9, .int 0), (8, .int v_3448), (7, .int v_3280), (6, .int v_2956), (5, .int v_1674), (0, .ref ob), (1, .int a1), (2, .int a2), (3, .int a3), (4, .int a4)]) hx hb dX10_goesThrough_108 hl (by decide) rfl (fun ls hl => ?_)
              refine loopX (fun n H locs ls st => ∃ (v_3495 : Int32) (f_3496 : Nat → Int32), (10 - v_3495.toInt).toNat = n ∧ ((0 : Int) ≤ v_3495.toInt ∧ v_3495.toInt ≤ 10) ∧ (∀ i, (-1 : Int) ≤ (f_3496 i).toInt ∧ (f_3496 i).toInt ≤ 180) ∧ (dpI (snF fob_world fob_byCall a4.toInt) (hsF fob_houses) a1.toInt a2.toInt a3.toInt.toNat ob_houseMany.toInt.toNat f_3496 v_1674.toInt.toNat v_2956.toInt.toNat) ∧ (dpA (snF fob_world fob_byCall a4.toInt) (hsF fob_houses) ob_houseMany.toInt.toNat f_3496 v_1674.toInt.toNat v_2956.toInt.toNat v_3495.toInt.toNat) ∧ st = [] ∧ vPD G A H [(ce_X10 ob ob_thrown ob_world ob_images ob_hasImage ob_tape ob_taped ob_five ob_size ob_at ob_from ob_token ob_value ob_faultKind ob_faultPlace ob_fresh ob_parts ob_houses ob_houseMany ob_worthOf ob_byCall ob_over ob_bestSet ob_bestOver ob_bestWorth ob_row ob_tenDebts ob_tenMany ob_fewestBy ob_covered ob_queue ob_cameBy ob_parent ob_met ob_calls ob_callMany ob_calledOn ob_saved ob_many ob_width ob_numbers ob_moving), (ce_i9080 y ob_world fob_world), (ce_i16 y ob_houses fob_houses), (ce_z16 y ob_byCall fob_byCall), (ce_i10240 y ob_over f_3496)] ∧ va_S A s.heap H locs ∧ lv_has ls 11 [(9, .int v_3495), (8, .int v_3448), (7, .int v_3280), (6, .int v_2956), (5, .int v_1674), (0, .ref ob), (1, .int a1), (2, .int a2), (3, .int a3), (4, .int a4)]) ?_ (n := (10 - (0 : Int32).toInt).toNat) ⟨0, f_3281, rfl, (bw (0) (10) (bkc (x := 0) (c := 0) (by decide)) (by decide)), bf_3281, (dp_fr hf_3281 (by have h9 := cl_to (x := v_3280) (by omega); omega) (by omega) (by omega) rl2957_0), (dpA_0 ((vv_at hf_3281 (by have h9 := cl_to (x := v_3280) (by omega); omega)).trans (by decide)) (by decide)), rfl, ⟨hP, hD⟩, hS, lv_sub hl [0, 1, 2, 3, 4, 5, 6, 7, 8, 9] rfl⟩
              rintro n ih_3543 H locs ls st ⟨v_3495, f_3496, hn_3543, bv_3495, bf_3496, rl3496_0, rl3496_1, rfl, ⟨hP, hD⟩, hS, hl⟩
              refine lv_iload hx hb dX10_goesThrough_110 (lv_at hl 0 rfl) ?_
              refine lv_aload_n hx hb dX10_goesThrough_112 rfl (lv_at hl 5 rfl) ?_
              refine va_get (D := G) (ci := 10) (v := .int ob_houseMany) (C := RX10) (T := TX10) (N := 41) hx hb hw0 inA_wsX100 hown hK.1 hP 0 rfl rfl 17 (by decide) (hw0 _ m_409) (fun _ h9 => h9) rfl dX10_goesThrough_113 ?_
              refine lv_icmp_ge (tgt := 228) hx hb dX10_goesThrough_116 (by decide) (fun c_3544 => ?_) (fun c_3544 => ?_)
              · skip
                have nc_3544 := nb_le (10) (1) c_3544 nc_3277.2.1 bv_3495 (by decide)
                exact J_228_3438 _ _ _ _ ⟨f_3496, bf_3496, (dp_end rl3496_0 rfl rl3496_1 (by omega) hNZ ⟨hTB, hSB⟩), rfl, ⟨hP, hD⟩, hS, lv_sub hl [3, 4, 5, 6, 7, 8, 9] rfl⟩
              · skip
                have nc_3544 := nb_nle (9) (1) c_3544 bv_3495 nc_3277.2.1 (by decide)
                refine lv_iload hx hb dX10_goesThrough_119 (lv_at hl 1 rfl) ?_
                refine lv_iload hx hb dX10_goesThrough_121 (lv_at hl 0 rfl) ?_
                refine cutW 222 (fun H locs ls st => ∃ (f_3567 : Nat → Int32), (∀ i, (-1 : Int) ≤ (f_3567 i).toInt ∧ (f_3567 i).toInt ≤ 180) ∧ (dpI (snF fob_world fob_byCall a4.toInt) (hsF fob_houses) a1.toInt a2.toInt a3.toInt.toNat ob_houseMany.toInt.toNat f_3567 v_1674.toInt.toNat v_2956.toInt.toNat) ∧ (dpA (snF fob_world fob_byCall a4.toInt) (hsF fob_houses) ob_houseMany.toInt.toNat f_3567 v_1674.toInt.toNat v_2956.toInt.toNat (v_3495.toInt.toNat + 1)) ∧ st = [] ∧ vPD G A H [(ce_X10 ob ob_thrown ob_world ob_images ob_hasImage ob_tape ob_taped ob_five ob_size ob_at ob_from ob_token ob_value ob_faultKind ob_faultPlace ob_fresh ob_parts ob_houses ob_houseMany ob_worthOf ob_byCall ob_over ob_bestSet ob_bestOver ob_bestWorth ob_row ob_tenDebts ob_tenMany ob_fewestBy ob_covered ob_queue ob_cameBy ob_parent ob_met ob_calls ob_callMany ob_calledOn ob_saved ob_many ob_width ob_numbers ob_moving), (ce_i9080 y ob_world fob_world), (ce_i16 y ob_houses fob_houses), (ce_z16 y ob_byCall fob_byCall), (ce_i10240 y ob_over f_3567)] ∧ va_S A s.heap H locs ∧ lv_has ls 11 [(9, .int v_3495), (8, .int v_3448), (7, .int v_3280), (6, .int v_2956), (5, .int v_1674), (0, .ref ob), (1, .int a1), (2, .int a2), (3, .int a3), (4, .int a4)]) ?_ (fun J_222_3567 => ?_)
                · rintro H locs ls st ⟨f_3567, bf_3567, rl3567_0, rl3567_1, rfl, ⟨hP, hD⟩, hS, hl⟩
                  obtain ⟨v_3568, ev_3568⟩ : ∃ z : Int32, z = v_3495 + 1 := ⟨_, rfl⟩
                  have qv_3568 := ba_add ev_3568 nc_3544.1 (bkc (x := 1) (c := 1) (by decide)) (by decide)
                  have bv_3568 : (1 : Int) ≤ v_3568.toInt ∧ v_3568.toInt ≤ 10 := bq_add qv_3568 nc_3544.1 (bkc (x := 1) (c := 1) (by decide)) _ _ (by decide)
                  have qv_3568 : v_3568.toInt = v_3495.toInt + (1) := qv_3568
                  refine lv_iinc (v := v_3568) (lv' := [(9, .int v_3568), (8, .int v_3448), (7, .int v_3280), (6, .int v_2956), (5, .int v_1674), (0, .ref ob), (1, .int a1), (2, .int a2), (3, .int a3), (4, .int a4)]) hx hb dX10_goesThrough_222 hl (k := 0) rfl (ev_3568.symm) (by decide) rfl (fun ls hl => ?_)
                  refine lv_goto (tgt := 110) hx hb dX10_goesThrough_225 (by decide) ?_
                  exact ih_3543 _ (ml_inc (hi := 10) hn_3543 qv_3568 (by decide) ((bw (0) (10) bv_3568 (by decide))).2) _ _ _ _ ⟨v_3568, f_3567, rfl, (bw (0) (10) bv_3568 (by decide)), bf_3567, rl3567_0, (dpA_eq rl3567_1 (by omega)), rfl, ⟨hP, hD⟩, hS, lv_sub hl [0, 1, 2, 3, 4, 5, 6, 7, 8, 9] rfl⟩
                · skip
                  refine cSim (As := [.int v_3448, .int v_3495]) (rest := []) ⟨hx, hb, hml, hown, hw0⟩ hA hK hP hD hS [] (sholdB l G y _ v_3448 v_3495 (bw (0) (65535) nc_3449.1 (by decide)) (bw (0) (15) nc_3544.1 (by decide))) rfl ⟨(callB_of 2 hw0 (gA m_512) rfl rfl rfl (hw0 _ m_41) (hw0 _ m_353) cb_X10_holds ⟨Nat.le_of_ble_eq_true rfl, Nat.le_of_ble_eq_true rfl⟩), (hw0 _ m_354)⟩ rfl hl.1 (Nat.le_of_ble_eq_true rfl) dX10_goesThrough_123 ⟨Nat.le_of_ble_eq_true rfl, Nat.le_of_ble_eq_true rfl⟩ (fun r_3569 w_3569 H locs hw_3569 hP hD hS => ?_)
                  rcases hw_3569 with ⟨h_3570, rfl, rfl⟩ | ⟨h_3571, rfl, rfl⟩
                  · skip
                    obtain ⟨hP, hD⟩ : vPD G A H [(ce_X10 ob ob_thrown ob_world ob_images ob_hasImage ob_tape ob_taped ob_five ob_size ob_at ob_from ob_token ob_value ob_faultKind ob_faultPlace ob_fresh ob_parts ob_houses ob_houseMany ob_worthOf ob_byCall ob_over ob_bestSet ob_bestOver ob_bestWorth ob_row ob_tenDebts ob_tenMany ob_fewestBy ob_covered ob_queue ob_cameBy ob_parent ob_met ob_calls ob_callMany ob_calledOn ob_saved ob_many ob_width ob_numbers ob_moving), (ce_i9080 y ob_world fob_world), (ce_i16 y ob_houses fob_houses), (ce_z16 y ob_byCall fob_byCall), (ce_i10240 y ob_over f_3496)] := ⟨hP, hD⟩
                    refine lv_if_eq (tgt := 222) hx hb dX10_goesThrough_126 (by decide) (fun _ => ?_) (fun c9 => absurd (by decide) c9)
                    exact J_222_3567 _ _ _ _ ⟨f_3496, bf_3496, rl3496_0, (dpA_skip rl3496_1 rfl (Or.inl (by rw [← hCL, bq_f h_3570]; decide))), rfl, ⟨hP, hD⟩, hS, lv_sub hl [0, 1, 2, 3, 4, 5, 6, 7, 8, 9] rfl⟩
                  · skip
                    obtain ⟨hP, hD⟩ : vPD G A H [(ce_X10 ob ob_thrown ob_world ob_images ob_hasImage ob_tape ob_taped ob_five ob_size ob_at ob_from ob_token ob_value ob_faultKind ob_faultPlace ob_fresh ob_parts ob_houses ob_houseMany ob_worthOf ob_byCall ob_over ob_bestSet ob_bestOver ob_bestWorth ob_row ob_tenDebts ob_tenMany ob_fewestBy ob_covered ob_queue ob_cameBy ob_parent ob_met ob_calls ob_callMany ob_calledOn ob_saved ob_many ob_width ob_numbers ob_moving), (ce_i9080 y ob_world fob_world), (ce_i16 y ob_houses fob_houses), (ce_z16 y ob_byCall fob_byCall), (ce_i10240 y ob_over f_3496)] := ⟨hP, hD⟩
                    refine lv_if_eq (tgt := 222) hx hb dX10_goesThrough_126 (by decide) (fun c9 => absurd c9 (by decide)) (fun _ => ?_)
                    refine lv_aload_n hx hb dX10_goesThrough_129 rfl (lv_at hl 5 rfl) ?_
                    refine va_get (D := G) (ci := 10) (v := .ref ob_over) (C := RX10) (T := TX10) (N := 41) hx hb hw0 inA_wsX100 hown hK.1 hP 0 rfl rfl 20 (by decide) (hw0 _ m_506) (fun _ h9 => h9) rfl dX10_goesThrough_130 ?_
                    refine lv_bipush (v := 10) hx hb dX10_goesThrough_133 (by decide) ?_
                    refine lv_iload hx hb dX10_goesThrough_135 (lv_at hl 1 rfl) ?_
                    refine lv_imul hx hb dX10_goesThrough_137 ?_
                    refine lv_topi (fun v_3572 ev_3572 => ?_)
                    have qv_3572 := ba_mul 10 (ev_3572.trans (Int32.mul_comm _ _)) nc_3449.1 (by decide) (by decide) (by decide)
                    have bv_3572 : (10 : Int) ≤ v_3572.toInt ∧ v_3572.toInt ≤ 10230 := qv_3572.2
                    refine lv_iload hx hb dX10_goesThrough_138 (lv_at hl 0 rfl) ?_
                    refine lv_iadd hx hb dX10_goesThrough_140 ?_
                    refine lv_topi (fun v_3573 ev_3573 => ?_)
                    have qv_3573 := ba_add ev_3573 bv_3572 nc_3544.1 (by decide)
                    have bv_3573 : (10 : Int) ≤ v_3573.toInt ∧ v_3573.toInt ≤ 10239 := bq_add qv_3573 bv_3572 nc_3544.1 _ _ (by decide)
                    refine va_iald hx hb hK.1 hP 4 1 rfl rfl (vi bv_3573 (by decide)) dX10_goesThrough_141 ?_
                    refine lv_topi (fun v_3574 ev_3574 => ?_)
                    have bv_3574 : (-1 : Int) ≤ v_3574.toInt ∧ v_3574.toInt ≤ 180 := rd_b ev_3574 bf_3496
                    refine lv_iconst (v := (-1)) hx hb dX10_goesThrough_142 (by decide) ?_
                    refine lv_icmp_ne (tgt := 149) hx hb dX10_goesThrough_143 (by decide) (fun c_3575 => ?_) (fun c_3575 => ?_)
                    · skip
                      have nc_3575 := nb_ne (0) (180) c_3575 bv_3574 (k := -1) (by decide) (by decide)
                      refine lv_aload_n hx hb dX10_goesThrough_149 rfl (lv_at hl 5 rfl) ?_
                      refine lv_aload_n hx hb dX10_goesThrough_150 rfl (lv_at hl 5 rfl) ?_
                      refine va_get (D := G) (ci := 10) (v := .ref ob_houses) (C := RX10) (T := TX10) (N := 41) hx hb hw0 inA_wsX100 hown hK.1 hP 0 rfl rfl 16 (by decide) (hw0 _ m_410) (fun _ h9 => h9) rfl dX10_goesThrough_151 ?_
                      refine lv_iload hx hb dX10_goesThrough_154 (lv_at hl 0 rfl) ?_
                      refine va_iald hx hb hK.1 hP 2 1 rfl rfl (vi nc_3544.1 (by decide)) dX10_goesThrough_156 ?_
                      refine lv_topi (fun v_3576 ev_3576 => ?_)
                      have bv_3576 : (0 : Int) ≤ v_3576.toInt ∧ v_3576.toInt ≤ 15 := rd_b ev_3576 p_fob_houses
                      refine lv_aload_n hx hb dX10_goesThrough_157 rfl (lv_at hl 5 rfl) ?_
                      refine va_get (D := G) (ci := 10) (v := .ref ob_over) (C := RX10) (T := TX10) (N := 41) hx hb hw0 inA_wsX100 hown hK.1 hP 0 rfl rfl 20 (by decide) (hw0 _ m_506) (fun _ h9 => h9) rfl dX10_goesThrough_158 ?_
                      refine lv_bipush (v := 10) hx hb dX10_goesThrough_161 (by decide) ?_
                      refine lv_iload hx hb dX10_goesThrough_163 (lv_at hl 1 rfl) ?_
                      refine lv_imul hx hb dX10_goesThrough_165 ?_
                      refine lv_topi (fun v_3577 ev_3577 => ?_)
                      obtain rfl : v_3572 = v_3577 := (ev_3577.trans (ev_3572.symm)).symm
                      refine lv_iload hx hb dX10_goesThrough_166 (lv_at hl 0 rfl) ?_
                      refine lv_iadd hx hb dX10_goesThrough_168 ?_
                      refine lv_topi (fun v_3578 ev_3578 => ?_)
                      obtain rfl : v_3573 = v_3578 := (ev_3578.trans (ev_3573.symm)).symm
                      refine va_iald hx hb hK.1 hP 4 1 rfl rfl (vi bv_3573 (by decide)) dX10_goesThrough_169 ?_
                      refine lv_topi (fun v_3579 ev_3579 => ?_)
                      obtain rfl : v_3574 = v_3579 := (ev_3579.trans (ev_3574.symm)).symm
                      refine lv_aload_n hx hb dX10_goesThrough_170 rfl (lv_at hl 5 rfl) ?_
                      refine va_get (D := G) (ci := 10) (v := .ref ob_houses) (C := RX10) (T := TX10) (N := 41) hx hb hw0 inA_wsX100 hown hK.1 hP 0 rfl rfl 16 (by decide) (hw0 _ m_410) (fun _ h9 => h9) rfl dX10_goesThrough_171 ?_
                      refine lv_iload hx hb dX10_goesThrough_174 (lv_at hl 3 rfl) ?_
                      refine va_iald hx hb hK.1 hP 2 1 rfl rfl (vi nc_3277.1 (by decide)) dX10_goesThrough_176 ?_
                      refine lv_topi (fun v_3580 ev_3580 => ?_)
                      have bv_3580 : (0 : Int) ≤ v_3580.toInt ∧ v_3580.toInt ≤ 15 := rd_b ev_3580 p_fob_houses
                      refine lv_iload hx hb dX10_goesThrough_177 (lv_at hl 9 rfl) ?_
                      refine cVim (As := [.int v_3576, .int v_3574, .int v_3580, .int a4]) (rest := []) ⟨hx, hb, hml, hown, hw0⟩ hA hK hP hD hS [true, true, false, true] (fseen l G y _ ob v_3576 v_3574 v_3580 a4 ob_thrown ob_world ob_images ob_hasImage ob_tape ob_taped ob_five ob_size ob_at ob_from ob_token ob_value ob_faultKind ob_faultPlace ob_fresh ob_parts ob_houses ob_houseMany ob_worthOf ob_byCall ob_over ob_bestSet ob_bestOver ob_bestWorth ob_row ob_tenDebts ob_tenMany ob_fewestBy ob_covered ob_queue ob_cameBy ob_parent ob_met ob_calls ob_callMany ob_calledOn ob_saved ob_many ob_width ob_numbers ob_moving fob_world fob_byCall p_fob_world p_ob_taped p_ob_size p_ob_at p_ob_from p_ob_token p_ob_value p_ob_faultKind (bw (0) (10) nc_3544.2.1 (by decide)) p_fob_byCall p_ob_bestSet p_ob_bestOver p_ob_tenMany p_ob_callMany bv_3576 nc_3575.1 bv_3580 p_a4) rfl ⟨(callB_of 4 hw0 (gA m_670) rfl rfl rfl (hw0 _ m_41) (hw0 _ m_507) cb_X10_seen ⟨Nat.le_of_ble_eq_true rfl, Nat.le_of_ble_eq_true rfl⟩), (hw0 _ m_508), (hw0 _ m_509)⟩ (ci := 10) (q := (RX10, TX10, 41)) rfl rfl rfl hl.1 (Nat.le_of_ble_eq_true rfl) dX10_goesThrough_179 ⟨Nat.le_of_ble_eq_true rfl, Nat.le_of_ble_eq_true rfl⟩ (fun r_3581 w_3581 H locs hw_3581 hP hD hS => ?_)
                      obtain ⟨v_3582, bv_3582, h_3583, er_3581, rfl⟩ := hw_3581
                      subst r_3581
                      obtain ⟨hP, hD⟩ : vPD G A H [(ce_X10 ob ob_thrown ob_world ob_images ob_hasImage ob_tape ob_taped ob_five ob_size ob_at ob_from ob_token ob_value ob_faultKind ob_faultPlace ob_fresh ob_parts ob_houses ob_houseMany ob_worthOf ob_byCall ob_over ob_bestSet ob_bestOver ob_bestWorth ob_row ob_tenDebts ob_tenMany ob_fewestBy ob_covered ob_queue ob_cameBy ob_parent ob_met ob_calls ob_callMany ob_calledOn ob_saved ob_many ob_width ob_numbers ob_moving), (ce_i9080 y ob_world fob_world), (ce_i16 y ob_houses fob_houses), (ce_z16 y ob_byCall fob_byCall), (ce_i10240 y ob_over f_3496)] := ⟨hP, hD⟩
                      refine lv_istore (lv' := [(10, .int v_3582), (9, .int v_3495), (8, .int v_3448), (7, .int v_3280), (6, .int v_2956), (5, .int v_1674), (0, .ref ob), (1, .int a1), (2, .int a2), (3, .int a3), (4, .int a4)]) hx hb dX10_goesThrough_182 hl (by decide) rfl (fun ls hl => ?_)
                      refine lv_iload hx hb dX10_goesThrough_184 (lv_at hl 0 rfl) ?_
                      refine lv_iconst (v := (-1)) hx hb dX10_goesThrough_186 (by decide) ?_
                      refine lv_icmp_eq (tgt := 222) hx hb dX10_goesThrough_187 (by decide) (fun c_3584 => ?_) (fun c_3584 => ?_)
                      · skip
                        have nc_3584 := nb_eq (-1) (-1) c_3584 bv_3582 (bkc (x := (-1)) (c := -1) (by decide)) (by decide)
                        exact J_222_3567 _ _ _ _ ⟨f_3496, bf_3496, rl3496_0, (dpA_skip rl3496_1 rfl (Or.inr (Or.inr (Or.inl (by rw [← (show v_3582.toInt = snF fob_world fob_byCall a4.toInt (hsF fob_houses v_3495.toInt.toNat) (vv f_3496 (clr v_1674.toInt.toNat v_2956.toInt.toNat) v_3495.toInt.toNat) (hsF fob_houses v_2956.toInt.toNat) from by rw [show hsF fob_houses v_3495.toInt.toNat = v_3576.toInt from ld_n ev_3576 (by omega), show hsF fob_houses v_2956.toInt.toNat = v_3580.toInt from ld_n ev_3580 (by omega), (show vv f_3496 (clr v_1674.toInt.toNat v_2956.toInt.toNat) v_3495.toInt.toNat = v_3574.toInt from hCL ▸ vv_ld ev_3574 (by have h9 := cl_to (x := v_3573) (by omega); omega))]; exact h_3583)]; omega))))), rfl, ⟨hP, hD⟩, hS, lv_sub hl [1, 2, 3, 4, 5, 6, 7, 8, 9, 10] rfl⟩
                      · skip
                        have nc_3584 := nb_ne (0) (180) c_3584 bv_3582 (k := -1) (by decide) (by decide)
                        refine lv_aload_n hx hb dX10_goesThrough_190 rfl (lv_at hl 6 rfl) ?_
                        refine va_get (D := G) (ci := 10) (v := .ref ob_over) (C := RX10) (T := TX10) (N := 41) hx hb hw0 inA_wsX100 hown hK.1 hP 0 rfl rfl 20 (by decide) (hw0 _ m_506) (fun _ h9 => h9) rfl dX10_goesThrough_191 ?_
                        refine lv_iload hx hb dX10_goesThrough_194 (lv_at hl 3 rfl) ?_
                        refine va_iald hx hb hK.1 hP 4 1 rfl rfl (vi bv_3280 (by decide)) dX10_goesThrough_196 ?_
                        refine lv_topi (fun v_3585 ev_3585 => ?_)
                        have bv_3585 : (-1 : Int) ≤ v_3585.toInt ∧ v_3585.toInt ≤ 180 := rd_b ev_3585 bf_3496
                        refine lv_iconst (v := (-1)) hx hb dX10_goesThrough_197 (by decide) ?_
                        refine lv_icmp_eq (tgt := 213) hx hb dX10_goesThrough_198 (by decide) (fun c_3586 => ?_) (fun c_3586 => ?_)
                        · skip
                          have nc_3586 := nb_eq (-1) (-1) c_3586 bv_3585 (bkc (x := (-1)) (c := -1) (by decide)) (by decide)
                          refine lv_aload_n hx hb dX10_goesThrough_213 rfl (lv_at hl 6 rfl) ?_
                          refine va_get (D := G) (ci := 10) (v := .ref ob_over) (C := RX10) (T := TX10) (N := 41) hx hb hw0 inA_wsX100 hown hK.1 hP 0 rfl rfl 20 (by decide) (hw0 _ m_506) (fun _ h9 => h9) rfl dX10_goesThrough_214 ?_
                          refine lv_iload hx hb dX10_goesThrough_217 (lv_at hl 3 rfl) ?_
                          refine lv_iload hx hb dX10_goesThrough_219 (lv_at hl 0 rfl) ?_
                          refine va_iast hx hb hK.1 hP hD hS 4 1 rfl rfl (vi bv_3280 (by decide)) dX10_goesThrough_221 (fun H locs hP hD hS => ?_)
                          generalize hf_3587 : (upd f_3496 (v_3280 : Int32).toNatClampNeg v_3582) = f_3587 at hP hD
                          have bf_3587 : ∀ i, (-1 : Int) ≤ (f_3587 i).toInt ∧ (f_3587 i).toInt ≤ 180 := hf_3587 ▸ up_b bf_3496 (bw (-1) (180) nc_3584.1 (by decide))
                          obtain ⟨hP, hD⟩ : vPD G A H [(ce_X10 ob ob_thrown ob_world ob_images ob_hasImage ob_tape ob_taped ob_five ob_size ob_at ob_from ob_token ob_value ob_faultKind ob_faultPlace ob_fresh ob_parts ob_houses ob_houseMany ob_worthOf ob_byCall ob_over ob_bestSet ob_bestOver ob_bestWorth ob_row ob_tenDebts ob_tenMany ob_fewestBy ob_covered ob_queue ob_cameBy ob_parent ob_met ob_calls ob_callMany ob_calledOn ob_saved ob_many ob_width ob_numbers ob_moving), (ce_i9080 y ob_world fob_world), (ce_i16 y ob_houses fob_houses), (ce_z16 y ob_byCall fob_byCall), (ce_i10240 y ob_over f_3587)] := ⟨hP, hD⟩
                          exact J_222_3567 _ _ _ _ ⟨f_3587, bf_3587, (dp_fr hf_3587 (by have h9 := cl_to (x := v_3280) (by omega); omega) (by omega) (by omega) rl3496_0), (dpA_upd rl3496_1 rfl hf_3587 (by have h9 := cl_to (x := v_3280) (by omega); omega) (by omega) (by omega) hTB (by omega) (by rw [← hCL]; exact bq_t h_3571) (by rw [(show vv f_3496 (clr v_1674.toInt.toNat v_2956.toInt.toNat) v_3495.toInt.toNat = v_3574.toInt from hCL ▸ vv_ld ev_3574 (by have h9 := cl_to (x := v_3573) (by omega); omega))]; omega) (show v_3582.toInt = snF fob_world fob_byCall a4.toInt (hsF fob_houses v_3495.toInt.toNat) (vv f_3496 (clr v_1674.toInt.toNat v_2956.toInt.toNat) v_3495.toInt.toNat) (hsF fob_houses v_2956.toInt.toNat) from by rw [show hsF fob_houses v_3495.toInt.toNat = v_3576.toInt from ld_n ev_3576 (by omega), show hsF fob_houses v_2956.toInt.toNat = v_3580.toInt from ld_n ev_3580 (by omega), (show vv f_3496 (clr v_1674.toInt.toNat v_2956.toInt.toNat) v_3495.toInt.toNat = v_3574.toInt from hCL ▸ vv_ld ev_3574 (by have h9 := cl_to (x := v_3573) (by omega); omega))]; exact h_3583) (by omega) (by rw [(show vv f_3496 v_1674.toInt.toNat v_2956.toInt.toNat = v_3585.toInt from vv_ld ev_3585 (by have h9 := cl_to (x := v_3280) (by omega); omega))]; omega)), rfl, ⟨hP, hD⟩, hS, lv_sub hl [1, 2, 3, 4, 5, 6, 7, 8, 9, 10] rfl⟩
                        · skip
                          have nc_3586 := nb_ne (0) (180) c_3586 bv_3585 (k := -1) (by decide) (by decide)
                          refine lv_iload hx hb dX10_goesThrough_201 (lv_at hl 0 rfl) ?_
                          refine lv_aload_n hx hb dX10_goesThrough_203 rfl (lv_at hl 6 rfl) ?_
                          refine va_get (D := G) (ci := 10) (v := .ref ob_over) (C := RX10) (T := TX10) (N := 41) hx hb hw0 inA_wsX100 hown hK.1 hP 0 rfl rfl 20 (by decide) (hw0 _ m_506) (fun _ h9 => h9) rfl dX10_goesThrough_204 ?_
                          refine lv_iload hx hb dX10_goesThrough_207 (lv_at hl 3 rfl) ?_
                          refine va_iald hx hb hK.1 hP 4 1 rfl rfl (vi bv_3280 (by decide)) dX10_goesThrough_209 ?_
                          refine lv_topi (fun v_3588 ev_3588 => ?_)
                          obtain rfl : v_3585 = v_3588 := (ev_3588.trans (ev_3585.symm)).symm
                          refine lv_icmp_ge (tgt := 222) hx hb dX10_goesThrough_210 (by decide) (fun c_3589 => ?_) (fun c_3589 => ?_)
                          · skip
                            have nc_3589 := nb_le (180) (0) c_3589 nc_3586.1 nc_3584.1 (by decide)
                            exact J_222_3567 _ _ _ _ ⟨f_3496, bf_3496, rl3496_0, (dpA_skip rl3496_1 rfl (Or.inr (Or.inr (Or.inr (by rw [← (show v_3582.toInt = snF fob_world fob_byCall a4.toInt (hsF fob_houses v_3495.toInt.toNat) (vv f_3496 (clr v_1674.toInt.toNat v_2956.toInt.toNat) v_3495.toInt.toNat) (hsF fob_houses v_2956.toInt.toNat) from by rw [show hsF fob_houses v_3495.toInt.toNat = v_3576.toInt from ld_n ev_3576 (by omega), show hsF fob_houses v_2956.toInt.toNat = v_3580.toInt from ld_n ev_3580 (by omega), (show vv f_3496 (clr v_1674.toInt.toNat v_2956.toInt.toNat) v_3495.toInt.toNat = v_3574.toInt from hCL ▸ vv_ld ev_3574 (by have h9 := cl_to (x := v_3573) (by omega); omega))]; exact h_3583), (show vv f_3496 v_1674.toInt.toNat v_2956.toInt.toNat = v_3585.toInt from vv_ld ev_3585 (by have h9 := cl_to (x := v_3280) (by omega); omega))]; omega))))), rfl, ⟨hP, hD⟩, hS, lv_sub hl [1, 2, 3, 4, 5, 6, 7, 8, 9, 10] rfl⟩
                          · skip
                            have nc_3589 := nb_nle (179) (1) c_3589 nc_3584.1 nc_3586.1 (by decide)
                            refine lv_aload_n hx hb dX10_goesThrough_213 rfl (lv_at hl 6 rfl) ?_
                            refine va_get (D := G) (ci := 10) (v := .ref ob_over) (C := RX10) (T := TX10) (N := 41) hx hb hw0 inA_wsX100 hown hK.1 hP 0 rfl rfl 20 (by decide) (hw0 _ m_506) (fun _ h9 => h9) rfl dX10_goesThrough_214 ?_
                            refine lv_iload hx hb dX10_goesThrough_217 (lv_at hl 3 rfl) ?_
                            refine lv_iload hx hb dX10_goesThrough_219 (lv_at hl 0 rfl) ?_
                            refine va_iast hx hb hK.1 hP hD hS 4 1 rfl rfl (vi bv_3280 (by decide)) dX10_goesThrough_221 (fun H locs hP hD hS => ?_)
                            generalize hf_3590 : (upd f_3496 (v_3280 : Int32).toNatClampNeg v_3582) = f_3590 at hP hD
                            have bf_3590 : ∀ i, (-1 : Int) ≤ (f_3590 i).toInt ∧ (f_3590 i).toInt ≤ 180 := hf_3590 ▸ up_b bf_3496 (bw (-1) (180) nc_3589.1 (by decide))
                            obtain ⟨hP, hD⟩ : vPD G A H [(ce_X10 ob ob_thrown ob_world ob_images ob_hasImage ob_tape ob_taped ob_five ob_size ob_at ob_from ob_token ob_value ob_faultKind ob_faultPlace ob_fresh ob_parts ob_houses ob_houseMany ob_worthOf ob_byCall ob_over ob_bestSet ob_bestOver ob_bestWorth ob_row ob_tenDebts ob_tenMany ob_fewestBy ob_covered ob_queue ob_cameBy ob_parent ob_met ob_calls ob_callMany ob_calledOn ob_saved ob_many ob_width ob_numbers ob_moving), (ce_i9080 y ob_world fob_world), (ce_i16 y ob_houses fob_houses), (ce_z16 y ob_byCall fob_byCall), (ce_i10240 y ob_over f_3590)] := ⟨hP, hD⟩
                            exact J_222_3567 _ _ _ _ ⟨f_3590, bf_3590, (dp_fr hf_3590 (by have h9 := cl_to (x := v_3280) (by omega); omega) (by omega) (by omega) rl3496_0), (dpA_upd rl3496_1 rfl hf_3590 (by have h9 := cl_to (x := v_3280) (by omega); omega) (by omega) (by omega) hTB (by omega) (by rw [← hCL]; exact bq_t h_3571) (by rw [(show vv f_3496 (clr v_1674.toInt.toNat v_2956.toInt.toNat) v_3495.toInt.toNat = v_3574.toInt from hCL ▸ vv_ld ev_3574 (by have h9 := cl_to (x := v_3573) (by omega); omega))]; omega) (show v_3582.toInt = snF fob_world fob_byCall a4.toInt (hsF fob_houses v_3495.toInt.toNat) (vv f_3496 (clr v_1674.toInt.toNat v_2956.toInt.toNat) v_3495.toInt.toNat) (hsF fob_houses v_2956.toInt.toNat) from by rw [show hsF fob_houses v_3495.toInt.toNat = v_3576.toInt from ld_n ev_3576 (by omega), show hsF fob_houses v_2956.toInt.toNat = v_3580.toInt from ld_n ev_3580 (by omega), (show vv f_3496 (clr v_1674.toInt.toNat v_2956.toInt.toNat) v_3495.toInt.toNat = v_3574.toInt from hCL ▸ vv_ld ev_3574 (by have h9 := cl_to (x := v_3573) (by omega); omega))]; exact h_3583) (by omega) (by rw [(show vv f_3496 v_1674.toInt.toNat v_2956.toInt.toNat = v_3585.toInt from vv_ld ev_3585 (by have h9 := cl_to (x := v_3280) (by omega); omega))]; omega)), rfl, ⟨hP, hD⟩, hS, lv_sub hl [1, 2, 3, 4, 5, 6, 7, 8, 9, 10] rfl⟩
                    · skip
                      have nc_3575 := nb_eq (-1) (-1) c_3575 bv_3574 (bkc (x := (-1)) (c := -1) (by decide)) (by decide)
                      refine lv_goto (tgt := 222) hx hb dX10_goesThrough_146 (by decide) ?_
                      exact J_222_3567 _ _ _ _ ⟨f_3496, bf_3496, rl3496_0, (dpA_skip rl3496_1 rfl (Or.inr (Or.inl (by rw [(show vv f_3496 (clr v_1674.toInt.toNat v_2956.toInt.toNat) v_3495.toInt.toNat = v_3574.toInt from hCL ▸ vv_ld ev_3574 (by have h9 := cl_to (x := v_3573) (by omega); omega))]; omega)))), rfl, ⟨hP, hD⟩, hS, lv_sub hl [0, 1, 2, 3, 4, 5, 6, 7, 8, 9] rfl⟩
            · skip
              have nc_3449 := nb_eq (0) (0) c_3449 bv_3448 (bkc (x := 0) (c := 0) (by decide)) (by decide)
              refine lv_aload_n hx hb dX10_goesThrough_82 rfl (lv_at hl 4 rfl) ?_
              refine va_get (D := G) (ci := 10) (v := .ref ob_over) (C := RX10) (T := TX10) (N := 41) hx hb hw0 inA_wsX100 hown hK.1 hP 0 rfl rfl 20 (by decide) (hw0 _ m_506) (fun _ h9 => h9) rfl dX10_goesThrough_83 ?_
              refine lv_iload hx hb dX10_goesThrough_86 (lv_at hl 1 rfl) ?_
              refine lv_aload_n hx hb dX10_goesThrough_88 rfl (lv_at hl 4 rfl) ?_
              refine lv_iload_n hx hb dX10_goesThrough_89 rfl (lv_at hl 5 rfl) ?_
              refine lv_iload_n hx hb dX10_goesThrough_90 rfl (lv_at hl 6 rfl) ?_
              refine lv_aload_n hx hb dX10_goesThrough_91 rfl (lv_at hl 4 rfl) ?_
              refine va_get (D := G) (ci := 10) (v := .ref ob_houses) (C := RX10) (T := TX10) (N := 41) hx hb hw0 inA_wsX100 hown hK.1 hP 0 rfl rfl 16 (by decide) (hw0 _ m_410) (fun _ h9 => h9) rfl dX10_goesThrough_92 ?_
              refine lv_iload hx hb dX10_goesThrough_95 (lv_at hl 2 rfl) ?_
              refine va_iald hx hb hK.1 hP 2 1 rfl rfl (vi nc_3277.1 (by decide)) dX10_goesThrough_97 ?_
              refine lv_topi (fun v_3591 ev_3591 => ?_)
              have bv_3591 : (0 : Int) ≤ v_3591.toInt ∧ v_3591.toInt ≤ 15 := rd_b ev_3591 p_fob_houses
              refine lv_iload hx hb dX10_goesThrough_98 (lv_at hl 8 rfl) ?_
              refine cVim (As := [.int a1, .int a2, .int v_3591, .int a4]) (rest := [.int v_3280, .ref ob_over]) ⟨hx, hb, hml, hown, hw0⟩ hA hK hP hD hS [true, true, false, true] (fseen l G y _ ob a1 a2 v_3591 a4 ob_thrown ob_world ob_images ob_hasImage ob_tape ob_taped ob_five ob_size ob_at ob_from ob_token ob_value ob_faultKind ob_faultPlace ob_fresh ob_parts ob_houses ob_houseMany ob_worthOf ob_byCall ob_over ob_bestSet ob_bestOver ob_bestWorth ob_row ob_tenDebts ob_tenMany ob_fewestBy ob_covered ob_queue ob_cameBy ob_parent ob_met ob_calls ob_callMany ob_calledOn ob_saved ob_many ob_width ob_numbers ob_moving fob_world fob_byCall p_fob_world p_ob_taped p_ob_size p_ob_at p_ob_from p_ob_token p_ob_value p_ob_faultKind (bw (0) (10) nc_3277.2.1 (by decide)) p_fob_byCall p_ob_bestSet p_ob_bestOver p_ob_tenMany p_ob_callMany p_a1 p_a2 bv_3591 p_a4) rfl ⟨(callB_of 4 hw0 (gA m_670) rfl rfl rfl (hw0 _ m_41) (hw0 _ m_507) cb_X10_seen ⟨Nat.le_of_ble_eq_true rfl, Nat.le_of_ble_eq_true rfl⟩), (hw0 _ m_508), (hw0 _ m_509)⟩ (ci := 10) (q := (RX10, TX10, 41)) rfl rfl rfl hl.1 (Nat.le_of_ble_eq_true rfl) dX10_goesThrough_100 ⟨Nat.le_of_ble_eq_true rfl, Nat.le_of_ble_eq_true rfl⟩ (fun r_3592 w_3592 H locs hw_3592 hP hD hS => ?_)
              obtain ⟨v_3593, bv_3593, h_3594, er_3592, rfl⟩ := hw_3592
              subst r_3592
              obtain ⟨hP, hD⟩ : vPD G A H [(ce_X10 ob ob_thrown ob_world ob_images ob_hasImage ob_tape ob_taped ob_five ob_size ob_at ob_from ob_token ob_value ob_faultKind ob_faultPlace ob_fresh ob_parts ob_houses ob_houseMany ob_worthOf ob_byCall ob_over ob_bestSet ob_bestOver ob_bestWorth ob_row ob_tenDebts ob_tenMany ob_fewestBy ob_covered ob_queue ob_cameBy ob_parent ob_met ob_calls ob_callMany ob_calledOn ob_saved ob_many ob_width ob_numbers ob_moving), (ce_i9080 y ob_world fob_world), (ce_i16 y ob_houses fob_houses), (ce_z16 y ob_byCall fob_byCall), (ce_i10240 y ob_over f_3281)] := ⟨hP, hD⟩
              refine va_iast hx hb hK.1 hP hD hS 4 1 rfl rfl (vi bv_3280 (by decide)) dX10_goesThrough_103 (fun H locs hP hD hS => ?_)
              generalize hf_3595 : (upd f_3281 (v_3280 : Int32).toNatClampNeg v_3593) = f_3595 at hP hD
              have bf_3595 : ∀ i, (-1 : Int) ≤ (f_3595 i).toInt ∧ (f_3595 i).toInt ≤ 180 := hf_3595 ▸ up_b bf_3281 bv_3593
              obtain ⟨hP, hD⟩ : vPD G A H [(ce_X10 ob ob_thrown ob_world ob_images ob_hasImage ob_tape ob_taped ob_five ob_size ob_at ob_from ob_token ob_value ob_faultKind ob_faultPlace ob_fresh ob_parts ob_houses ob_houseMany ob_worthOf ob_byCall ob_over ob_bestSet ob_bestOver ob_bestWorth ob_row ob_tenDebts ob_tenMany ob_fewestBy ob_covered ob_queue ob_cameBy ob_parent ob_met ob_calls ob_callMany ob_calledOn ob_saved ob_many ob_width ob_numbers ob_moving), (ce_i9080 y ob_world fob_world), (ce_i16 y ob_houses fob_houses), (ce_z16 y ob_byCall fob_byCall), (ce_i10240 y ob_over f_3595)] := ⟨hP, hD⟩
              refine lv_goto (tgt := 228) hx hb dX10_goesThrough_104 (by decide) ?_
              exact J_228_3438 _ _ _ _ ⟨f_3595, bf_3595, (dp_one (dp_fr hf_3595 (by have h9 := cl_to (x := v_3280) (by omega); omega) (by omega) (by omega) (dp_fr hf_3281 (by have h9 := cl_to (x := v_3280) (by omega); omega) (by omega) (by omega) rl2957_0)) rfl ((vv_at hf_3595 (by have h9 := cl_to (x := v_3280) (by omega); omega)).trans (by rw [show hsF fob_houses v_2956.toInt.toNat = v_3591.toInt from ld_n ev_3591 (by omega)]; exact h_3594)) (by rw [← hCL, c_3449]; decide) ⟨hTB, hSB⟩), rfl, ⟨hP, hD⟩, hS, lv_sub hl [2, 3, 4, 5, 6, 7, 8] rfl⟩
          · skip
            have nc_3445 := nb_ne (1) (1023) c_3445 bv_3444 (k := 0) (by decide) (by decide)
            have hSB : ¬ sub v_1674.toInt.toNat a3.toInt.toNat := sub_0 ev_3444 ev_3443 (by omega) (by omega) c_3445
            refine lv_goto (tgt := 228) hx hb dX10_goesThrough_63 (by decide) ?_
            exact J_228_3438 _ _ _ _ ⟨f_3281, bf_3281, (dp_skip (dp_fr hf_3281 (by have h9 := cl_to (x := v_3280) (by omega); omega) (by omega) (by omega) rl2957_0) rfl ((vv_at hf_3281 (by have h9 := cl_to (x := v_3280) (by omega); omega)).trans (by decide)) (fun w => hSB w.2)), rfl, ⟨hP, hD⟩, hS, lv_sub hl [1, 2, 3, 4, 5, 6, 7] rfl⟩

set_option maxHeartbeats 4000000 in
set_option maxRecDepth 100000 in
theorem foverOf (l : Launch) (G : va_G) (y : Nat → ClassId) (sz : Nat) (ob : Nat) (a1 : Int32) (ob_thrown : Int32) (ob_world : Nat) (ob_images : Nat) (ob_hasImage : Nat) (ob_tape : Nat) (ob_taped : Int32) (ob_five : Nat) (ob_size : Int32) (ob_at : Int32) (ob_from : Int32) (ob_token : Int32) (ob_value : Int32) (ob_faultKind : Int32) (ob_faultPlace : Int32) (ob_fresh : Nat) (ob_parts : Nat) (ob_houses : Nat) (ob_houseMany : Int32) (ob_worthOf : Nat) (ob_byCall : Nat) (ob_over : Nat) (ob_bestSet : Int32) (ob_bestOver : Int32) (ob_bestWorth : Int32) (ob_row : Nat) (ob_tenDebts : Nat) (ob_tenMany : Int32) (ob_fewestBy : Nat) (ob_covered : Nat) (ob_queue : Nat) (ob_cameBy : Nat) (ob_parent : Nat) (ob_met : Nat) (ob_calls : Nat) (ob_callMany : Int32) (ob_calledOn : Nat) (ob_saved : Nat) (ob_many : Nat) (ob_width : Nat) (ob_numbers : Nat) (ob_moving : Nat) (fob_over : Nat → Int32) (p_ob_taped : (0 : Int) ≤ ob_taped.toInt ∧ ob_taped.toInt ≤ 1400) (p_ob_size : (0 : Int) ≤ ob_size.toInt ∧ ob_size.toInt ≤ 1400) (p_ob_at : (0 : Int) ≤ ob_at.toInt ∧ ob_at.toInt ≤ 1400) (p_ob_from : (0 : Int) ≤ ob_from.toInt ∧ ob_from.toInt ≤ 1400) (p_ob_token : (0 : Int) ≤ ob_token.toInt ∧ ob_token.toInt ≤ 4) (p_ob_value : (0 : Int) ≤ ob_value.toInt ∧ ob_value.toInt ≤ 9999) (p_ob_faultKind : (0 : Int) ≤ ob_faultKind.toInt ∧ ob_faultKind.toInt ≤ 3) (p_ob_houseMany : (0 : Int) ≤ ob_houseMany.toInt ∧ ob_houseMany.toInt ≤ 10) (p_fob_over : ∀ i, (-1 : Int) ≤ (fob_over i).toInt ∧ (fob_over i).toInt ≤ 180) (p_ob_bestSet : (0 : Int) ≤ ob_bestSet.toInt ∧ ob_bestSet.toInt ≤ 1023) (p_ob_bestOver : (-1 : Int) ≤ ob_bestOver.toInt ∧ ob_bestOver.toInt ≤ 180) (p_ob_tenMany : (0 : Int) ≤ ob_tenMany.toInt ∧ ob_tenMany.toInt ≤ 10) (p_ob_callMany : (0 : Int) ≤ ob_callMany.toInt ∧ ob_callMany.toInt ≤ 16) (p_a1 : (0 : Int) ≤ a1.toInt ∧ a1.toInt ≤ 1023) : Met l yX10_overOf (Cond.code yX10_overOf cX10_overOf 5 (some .int) :: wAll) ({ frames := 0, cells := 0, slots := 0, locals := 0 }) (va_Pc [.ref ob, .int a1] (kp G y sz [(ce_X10 ob ob_thrown ob_world ob_images ob_hasImage ob_tape ob_taped ob_five ob_size ob_at ob_from ob_token ob_value ob_faultKind ob_faultPlace ob_fresh ob_parts ob_houses ob_houseMany ob_worthOf ob_byCall ob_over ob_bestSet ob_bestOver ob_bestWorth ob_row ob_tenDebts ob_tenMany ob_fewestBy ob_covered ob_queue ob_cameBy ob_parent ob_met ob_calls ob_callMany ob_calledOn ob_saved ob_many ob_width ob_numbers ob_moving), (ce_i10240 y ob_over fob_over)])) (va_Qi (fun (r : Int32) (w : va_W) => (∃ (v_319 : Int32), ((-1 : Int) ≤ v_319.toInt ∧ v_319.toInt ≤ 180) ∧ (mnO fob_over a1.toInt.toNat ob_houseMany.toInt.toNat (v_319 : Int32).toInt) ∧ r = v_319 ∧ w = [(ce_X10 ob ob_thrown ob_world ob_images ob_hasImage ob_tape ob_taped ob_five ob_size ob_at ob_from ob_token ob_value ob_faultKind ob_faultPlace ob_fresh ob_parts ob_houses ob_houseMany ob_worthOf ob_byCall ob_over ob_bestSet ob_bestOver ob_bestWorth ob_row ob_tenDebts ob_tenMany ob_fewestBy ob_covered ob_queue ob_cameBy ob_parent ob_met ob_calls ob_callMany ob_calledOn ob_saved ob_many ob_width ob_numbers ob_moving), (ce_i10240 y ob_over fob_over)])) (kq G (va_A [(ce_X10 ob ob_thrown ob_world ob_images ob_hasImage ob_tape ob_taped ob_five ob_size ob_at ob_from ob_token ob_value ob_faultKind ob_faultPlace ob_fresh ob_parts ob_houses ob_houseMany ob_worthOf ob_byCall ob_over ob_bestSet ob_bestOver ob_bestWorth ob_row ob_tenDebts ob_tenMany ob_fewestBy ob_covered ob_queue ob_cameBy ob_parent ob_met ob_calls ob_callMany ob_calledOn ob_saved ob_many ob_width ob_numbers ob_moving), (ce_i10240 y ob_over fob_over)] sz)) (va_A [(ce_X10 ob ob_thrown ob_world ob_images ob_hasImage ob_tape ob_taped ob_five ob_size ob_at ob_from ob_token ob_value ob_faultKind ob_faultPlace ob_fresh ob_parts ob_houses ob_houseMany ob_worthOf ob_byCall ob_over ob_bestSet ob_bestOver ob_bestWorth ob_row ob_tenDebts ob_tenMany ob_fewestBy ob_covered ob_queue ob_cameBy ob_parent ob_met ob_calls ob_callMany ob_calledOn ob_saved ob_many ob_width ob_numbers ob_moving), (ce_i10240 y ob_over fob_over)] sz)) 0 0 (va_A [(ce_X10 ob ob_thrown ob_world ob_images ob_hasImage ob_tape ob_taped ob_five ob_size ob_at ob_from ob_token ob_value ob_faultKind ob_faultPlace ob_fresh ob_parts ob_houses ob_houseMany ob_worthOf ob_byCall ob_over ob_bestSet ob_bestOver ob_bestWorth ob_row ob_tenDebts ob_tenMany ob_fewestBy ob_covered ob_queue ob_cameBy ob_parent ob_met ob_calls ob_callMany ob_calledOn ob_saved ob_many ob_width ob_numbers ob_moving), (ce_i10240 y ob_over fob_over)] sz) := by
  refine Met.ofW (cc := cX10_overOf) (maxL := 5) (ret := (some .int)) (by decide) rfl ?_
  intro p e s m args below meth c s₁ B hml hv
  obtain ⟨rfl, hsz, hP, hK, hD0⟩ := hv
  have hx := B.exec
  have hb := B.bytes
  have hr := B.returns
  have hw0 : ∀ w ∈ wAll, w.before _ s = true := fun w h => atoms_spec (ws := Cond.code yX10_overOf cX10_overOf 5 (some .int) :: wAll) B.pre w (List.mem_cons_of_mem _ h)
  have hown : s.vm.findClass RX10 = some m.cls := findClass_of_methodNamed B.named
  subst hsz
  have hD := hD0.self (sz := s.heap.size)
  generalize hAe : va_A [(ce_X10 ob ob_thrown ob_world ob_images ob_hasImage ob_tape ob_taped ob_five ob_size ob_at ob_from ob_token ob_value ob_faultKind ob_faultPlace ob_fresh ob_parts ob_houses ob_houseMany ob_worthOf ob_byCall ob_over ob_bestSet ob_bestOver ob_bestWorth ob_row ob_tenDebts ob_tenMany ob_fewestBy ob_covered ob_queue ob_cameBy ob_parent ob_met ob_calls ob_callMany ob_calledOn ob_saved ob_many ob_width ob_numbers ob_moving), (ce_i10240 y ob_over fob_over)] s.heap.size = A at hD ⊢
  have hA : ∀ q : Nat, s.heap.size ≤ q → A q := fun q h => by rw [← hAe]; exact Or.inr h
  have hS : va_S A s.heap s.heap [] := va_S.rf
  have hP : va_P G vwCl [(ce_X10 ob ob_thrown ob_world ob_images ob_hasImage ob_tape ob_taped ob_five ob_size ob_at ob_from ob_token ob_value ob_faultKind ob_faultPlace ob_fresh ob_parts ob_houses ob_houseMany ob_worthOf ob_byCall ob_over ob_bestSet ob_bestOver ob_bestWorth ob_row ob_tenDebts ob_tenMany ob_fewestBy ob_covered ob_queue ob_cameBy ob_parent ob_met ob_calls ob_callMany ob_calledOn ob_saved ob_many ob_width ob_numbers ob_moving), (ce_i10240 y ob_over fob_over)] s.heap := hP
  have hl := lv_entry ([.ref ob, .int a1]) (n := 5) (Nat.le_of_ble_eq_true rfl)
  rw [lg_entry_eq]
  generalize (lg_sl ([.ref ob, .int a1]) ++ List.replicate (5 - (lg_sl ([.ref ob, .int a1])).length) Slot.unset).toArray = ls at hl ⊢
  have hl : lv_has ls 5 [(0, .ref ob), (1, .int a1)] := hl
  refine lv_iconst (v := (-1)) hx hb dX10_overOf_0 (by decide) ?_
  refine lv_istore_n (lv' := [(2, .int (-1)), (0, .ref ob), (1, .int a1)]) hx hb dX10_overOf_1 rfl hl (by decide) rfl (fun ls hl => ?_)
  refine lv_iconst (v := 0) hx hb dX10_overOf_2 (by decide) ?_
  refine lv_istore_n (lv' := [(3, .int 0), (2, .int (-1)), (0, .ref ob), (1, .int a1)]) hx hb dX10_overOf_3 rfl hl (by decide) rfl (fun ls hl => ?_)
  refine loopX (fun n H locs ls st => ∃ (v_1134 : Int32) (v_1135 : Int32), (10 - v_1134.toInt).toNat = n ∧ ((0 : Int) ≤ v_1134.toInt ∧ v_1134.toInt ≤ 10) ∧ ((-1 : Int) ≤ v_1135.toInt ∧ v_1135.toInt ≤ 180) ∧ (mnO fob_over a1.toInt.toNat v_1134.toInt.toNat v_1135.toInt) ∧ (v_1134.toInt ≤ ob_houseMany.toInt) ∧ st = [] ∧ vPD G A H [(ce_X10 ob ob_thrown ob_world ob_images ob_hasImage ob_tape ob_taped ob_five ob_size ob_at ob_from ob_token ob_value ob_faultKind ob_faultPlace ob_fresh ob_parts ob_houses ob_houseMany ob_worthOf ob_byCall ob_over ob_bestSet ob_bestOver ob_bestWorth ob_row ob_tenDebts ob_tenMany ob_fewestBy ob_covered ob_queue ob_cameBy ob_parent ob_met ob_calls ob_callMany ob_calledOn ob_saved ob_many ob_width ob_numbers ob_moving), (ce_i10240 y ob_over fob_over)] ∧ va_S A s.heap H locs ∧ lv_has ls 5 [(3, .int v_1134), (2, .int v_1135), (0, .ref ob), (1, .int a1)]) ?_ (n := (10 - (0 : Int32).toInt).toNat) ⟨0, (-1), rfl, (bw (0) (10) (bkc (x := 0) (c := 0) (by decide)) (by decide)), (bw (-1) (180) (bkc (x := (-1)) (c := -1) (by decide)) (by decide)), (mn_0 (by decide) (by decide)), (by have h90 : Int32.toInt (-1) = -1 := (by decide); have h91 : Int32.toInt 0 = 0 := (by decide); omega), rfl, ⟨hP, hD⟩, hS, lv_sub hl [0, 1, 2, 3] rfl⟩
  rintro n ih_1147 H locs ls st ⟨v_1134, v_1135, hn_1147, bv_1134, bv_1135, rl1135_0, rl1135_1, rfl, ⟨hP, hD⟩, hS, hl⟩
  refine lv_iload_n hx hb dX10_overOf_4 rfl (lv_at hl 0 rfl) ?_
  refine lv_aload_n hx hb dX10_overOf_5 rfl (lv_at hl 2 rfl) ?_
  refine va_get (D := G) (ci := 10) (v := .int ob_houseMany) (C := RX10) (T := TX10) (N := 41) hx hb hw0 inA_wsX100 hown hK.1 hP 0 rfl rfl 17 (by decide) (hw0 _ m_409) (fun _ h9 => h9) rfl dX10_overOf_6 ?_
  refine lv_icmp_ge (tgt := 51) hx hb dX10_overOf_9 (by decide) (fun c_1148 => ?_) (fun c_1148 => ?_)
  · skip
    have nc_1148 := nb_le (10) (0) c_1148 p_ob_houseMany bv_1134 (by decide)
    refine lv_iload_n hx hb dX10_overOf_51 rfl (lv_at hl 1 rfl) ?_
    exact W.iret (v := v_1135) hx hb hr (fun t ht hW => ⟨⟨v_1135, _, rfl, ⟨v_1135, bv_1135, mn_eq rl1135_0 (by omega), rfl, rfl⟩, by rw [ht]; exact hP, hD⟩, hS.F ht⟩) hS.2.2 dX10_overOf_52
  · skip
    have nc_1148 := nb_nle (9) (1) c_1148 bv_1134 p_ob_houseMany (by decide)
    refine lv_aload_n hx hb dX10_overOf_12 rfl (lv_at hl 2 rfl) ?_
    refine va_get (D := G) (ci := 10) (v := .ref ob_over) (C := RX10) (T := TX10) (N := 41) hx hb hw0 inA_wsX100 hown hK.1 hP 0 rfl rfl 20 (by decide) (hw0 _ m_506) (fun _ h9 => h9) rfl dX10_overOf_13 ?_
    refine lv_bipush (v := 10) hx hb dX10_overOf_16 (by decide) ?_
    refine lv_iload_n hx hb dX10_overOf_18 rfl (lv_at hl 3 rfl) ?_
    refine lv_imul hx hb dX10_overOf_19 ?_
    refine lv_topi (fun v_1149 ev_1149 => ?_)
    have qv_1149 := ba_mul 10 (ev_1149.trans (Int32.mul_comm _ _)) p_a1 (by decide) (by decide) (by decide)
    have bv_1149 : (0 : Int) ≤ v_1149.toInt ∧ v_1149.toInt ≤ 10230 := qv_1149.2
    refine lv_iload_n hx hb dX10_overOf_20 rfl (lv_at hl 0 rfl) ?_
    refine lv_iadd hx hb dX10_overOf_21 ?_
    refine lv_topi (fun v_1150 ev_1150 => ?_)
    have qv_1150 := ba_add ev_1150 bv_1149 nc_1148.1 (by decide)
    have bv_1150 : (0 : Int) ≤ v_1150.toInt ∧ v_1150.toInt ≤ 10239 := bq_add qv_1150 bv_1149 nc_1148.1 _ _ (by decide)
    refine va_iald hx hb hK.1 hP 1 1 rfl rfl (vi bv_1150 (by decide)) dX10_overOf_22 ?_
    refine lv_topi (fun v_1151 ev_1151 => ?_)
    have bv_1151 : (-1 : Int) ≤ v_1151.toInt ∧ v_1151.toInt ≤ 180 := rd_b ev_1151 p_fob_over
    refine lv_istore (lv' := [(4, .int v_1151), (3, .int v_1134), (2, .int v_1135), (0, .ref ob), (1, .int a1)]) hx hb dX10_overOf_23 hl (by decide) rfl (fun ls hl => ?_)
    refine lv_iload hx hb dX10_overOf_25 (lv_at hl 0 rfl) ?_
    refine lv_iconst (v := (-1)) hx hb dX10_overOf_27 (by decide) ?_
    refine cutW 45 (fun H locs ls st => ∃ (v_1155 : Int32), ((-1 : Int) ≤ v_1155.toInt ∧ v_1155.toInt ≤ 180) ∧ (mnO fob_over a1.toInt.toNat (v_1134.toInt.toNat + 1) v_1155.toInt) ∧ st = [] ∧ vPD G A H [(ce_X10 ob ob_thrown ob_world ob_images ob_hasImage ob_tape ob_taped ob_five ob_size ob_at ob_from ob_token ob_value ob_faultKind ob_faultPlace ob_fresh ob_parts ob_houses ob_houseMany ob_worthOf ob_byCall ob_over ob_bestSet ob_bestOver ob_bestWorth ob_row ob_tenDebts ob_tenMany ob_fewestBy ob_covered ob_queue ob_cameBy ob_parent ob_met ob_calls ob_callMany ob_calledOn ob_saved ob_many ob_width ob_numbers ob_moving), (ce_i10240 y ob_over fob_over)] ∧ va_S A s.heap H locs ∧ lv_has ls 5 [(3, .int v_1134), (2, .int v_1155), (0, .ref ob), (1, .int a1)]) ?_ (fun J_45_1155 => ?_)
    · rintro H locs ls st ⟨v_1155, bv_1155, rl1155_0, rfl, ⟨hP, hD⟩, hS, hl⟩
      obtain ⟨v_1156, ev_1156⟩ : ∃ z : Int32, z = v_1134 + 1 := ⟨_, rfl⟩
      have qv_1156 := ba_add ev_1156 nc_1148.1 (bkc (x := 1) (c := 1) (by decide)) (by decide)
      have bv_1156 : (1 : Int) ≤ v_1156.toInt ∧ v_1156.toInt ≤ 10 := bq_add qv_1156 nc_1148.1 (bkc (x := 1) (c := 1) (by decide)) _ _ (by decide)
      have qv_1156 : v_1156.toInt = v_1134.toInt + (1) := qv_1156
      refine lv_iinc (v := v_1156) (lv' := [(3, .int v_1156), (2, .int v_1155), (0, .ref ob), (1, .int a1)]) hx hb dX10_overOf_45 hl (k := 0) rfl (ev_1156.symm) (by decide) rfl (fun ls hl => ?_)
      refine lv_goto (tgt := 4) hx hb dX10_overOf_48 (by decide) ?_
      exact ih_1147 _ (ml_inc (hi := 10) hn_1147 qv_1156 (by decide) ((bw (0) (10) bv_1156 (by decide))).2) _ _ _ _ ⟨v_1156, v_1155, rfl, (bw (0) (10) bv_1156 (by decide)), bv_1155, (mn_eq rl1155_0 (by omega)), (by omega), rfl, ⟨hP, hD⟩, hS, lv_sub hl [0, 1, 2, 3] rfl⟩
    · skip
      refine lv_icmp_eq (tgt := 45) hx hb dX10_overOf_28 (by decide) (fun c_1157 => ?_) (fun c_1157 => ?_)
      · skip
        have nc_1157 := nb_eq (-1) (-1) c_1157 bv_1151 (bkc (x := (-1)) (c := -1) (by decide)) (by decide)
        exact J_45_1155 _ _ _ _ ⟨v_1135, bv_1135, (mn_s rl1135_0 rfl (by rw [(show vv fob_over a1.toInt.toNat v_1134.toInt.toNat = v_1151.toInt from vv_ld ev_1151 (by have h9 := cl_to (x := v_1150) (by omega); omega))]; omega)), rfl, ⟨hP, hD⟩, hS, lv_sub hl [1, 2, 3, 4] rfl⟩
      · skip
        have nc_1157 := nb_ne (0) (180) c_1157 bv_1151 (k := -1) (by decide) (by decide)
        refine lv_iload_n hx hb dX10_overOf_31 rfl (lv_at hl 2 rfl) ?_
        refine lv_iconst (v := (-1)) hx hb dX10_overOf_32 (by decide) ?_
        refine lv_icmp_eq (tgt := 42) hx hb dX10_overOf_33 (by decide) (fun c_1158 => ?_) (fun c_1158 => ?_)
        · skip
          have nc_1158 := nb_eq (-1) (-1) c_1158 bv_1135 (bkc (x := (-1)) (c := -1) (by decide)) (by decide)
          refine lv_iload hx hb dX10_overOf_42 (lv_at hl 0 rfl) ?_
          refine lv_istore_n (lv' := [(2, .int v_1151), (4, .int v_1151), (3, .int v_1134), (0, .ref ob), (1, .int a1)]) hx hb dX10_overOf_44 rfl hl (by decide) rfl (fun ls hl => ?_)
          exact J_45_1155 _ _ _ _ ⟨v_1151, (bw (-1) (180) nc_1157.1 (by decide)), (mn_s rl1135_0 rfl (by rw [(show vv fob_over a1.toInt.toNat v_1134.toInt.toNat = v_1151.toInt from vv_ld ev_1151 (by have h9 := cl_to (x := v_1150) (by omega); omega))]; omega)), rfl, ⟨hP, hD⟩, hS, lv_sub hl [2, 0, 3, 4] rfl⟩
        · skip
          have nc_1158 := nb_ne (0) (180) c_1158 bv_1135 (k := -1) (by decide) (by decide)
          refine lv_iload hx hb dX10_overOf_36 (lv_at hl 0 rfl) ?_
          refine lv_iload_n hx hb dX10_overOf_38 rfl (lv_at hl 2 rfl) ?_
          refine lv_icmp_ge (tgt := 45) hx hb dX10_overOf_39 (by decide) (fun c_1159 => ?_) (fun c_1159 => ?_)
          · skip
            have nc_1159 := nb_le (180) (0) c_1159 nc_1158.1 nc_1157.1 (by decide)
            exact J_45_1155 _ _ _ _ ⟨v_1135, (bw (-1) (180) nc_1159.1 (by decide)), (mn_s rl1135_0 rfl (by rw [(show vv fob_over a1.toInt.toNat v_1134.toInt.toNat = v_1151.toInt from vv_ld ev_1151 (by have h9 := cl_to (x := v_1150) (by omega); omega))]; omega)), rfl, ⟨hP, hD⟩, hS, lv_sub hl [1, 2, 3, 4] rfl⟩
          · skip
            have nc_1159 := nb_nle (179) (1) c_1159 nc_1157.1 nc_1158.1 (by decide)
            refine lv_iload hx hb dX10_overOf_42 (lv_at hl 0 rfl) ?_
            refine lv_istore_n (lv' := [(2, .int v_1151), (4, .int v_1151), (3, .int v_1134), (0, .ref ob), (1, .int a1)]) hx hb dX10_overOf_44 rfl hl (by decide) rfl (fun ls hl => ?_)
            exact J_45_1155 _ _ _ _ ⟨v_1151, (bw (-1) (180) nc_1159.1 (by decide)), (mn_s rl1135_0 rfl (by rw [(show vv fob_over a1.toInt.toNat v_1134.toInt.toNat = v_1151.toInt from vv_ld ev_1151 (by have h9 := cl_to (x := v_1150) (by omega); omega))]; omega)), rfl, ⟨hP, hD⟩, hS, lv_sub hl [2, 0, 3, 4] rfl⟩

set_option maxHeartbeats 4000000 in
set_option maxRecDepth 100000 in
theorem frounds (l : Launch) (G : va_G) (y : Nat → ClassId) (sz : Nat) (ob : Nat) (a1 : Int32) (a2 : Int32) (ob_thrown : Int32) (ob_world : Nat) (ob_images : Nat) (ob_hasImage : Nat) (ob_tape : Nat) (ob_taped : Int32) (ob_five : Nat) (ob_size : Int32) (ob_at : Int32) (ob_from : Int32) (ob_token : Int32) (ob_value : Int32) (ob_faultKind : Int32) (ob_faultPlace : Int32) (ob_fresh : Nat) (ob_parts : Nat) (ob_houses : Nat) (ob_houseMany : Int32) (ob_worthOf : Nat) (ob_byCall : Nat) (ob_over : Nat) (ob_bestSet : Int32) (ob_bestOver : Int32) (ob_bestWorth : Int32) (ob_row : Nat) (ob_tenDebts : Nat) (ob_tenMany : Int32) (ob_fewestBy : Nat) (ob_covered : Nat) (ob_queue : Nat) (ob_cameBy : Nat) (ob_parent : Nat) (ob_met : Nat) (ob_calls : Nat) (ob_callMany : Int32) (ob_calledOn : Nat) (ob_saved : Nat) (ob_many : Nat) (ob_width : Nat) (ob_numbers : Nat) (ob_moving : Nat) (fob_world : Nat → Int32) (fob_houses : Nat → Int32) (fob_worthOf : Nat → Int32) (fob_byCall : Nat → Int32) (fob_over : Nat → Int32) (p_fob_world : RWw fob_world) (p_ob_taped : (0 : Int) ≤ ob_taped.toInt ∧ ob_taped.toInt ≤ 1400) (p_ob_size : (0 : Int) ≤ ob_size.toInt ∧ ob_size.toInt ≤ 1400) (p_ob_at : (0 : Int) ≤ ob_at.toInt ∧ ob_at.toInt ≤ 1400) (p_ob_from : (0 : Int) ≤ ob_from.toInt ∧ ob_from.toInt ≤ 1400) (p_ob_token : (0 : Int) ≤ ob_token.toInt ∧ ob_token.toInt ≤ 4) (p_ob_value : (0 : Int) ≤ ob_value.toInt ∧ ob_value.toInt ≤ 9999) (p_ob_faultKind : (0 : Int) ≤ ob_faultKind.toInt ∧ ob_faultKind.toInt ≤ 3) (p_fob_houses : ∀ i, (0 : Int) ≤ (fob_houses i).toInt ∧ (fob_houses i).toInt ≤ 15) (p_ob_houseMany : (0 : Int) ≤ ob_houseMany.toInt ∧ ob_houseMany.toInt ≤ 10) (p_fob_byCall : ∀ i, (0 : Int) ≤ (fob_byCall i).toInt ∧ (fob_byCall i).toInt ≤ 1) (p_fob_over : ∀ i, (-1 : Int) ≤ (fob_over i).toInt ∧ (fob_over i).toInt ≤ 180) (p_ob_bestSet : (0 : Int) ≤ ob_bestSet.toInt ∧ ob_bestSet.toInt ≤ 1023) (p_ob_bestOver : (-1 : Int) ≤ ob_bestOver.toInt ∧ ob_bestOver.toInt ≤ 180) (p_ob_tenMany : (0 : Int) ≤ ob_tenMany.toInt ∧ ob_tenMany.toInt ≤ 10) (p_ob_callMany : (0 : Int) ≤ ob_callMany.toInt ∧ ob_callMany.toInt ≤ 16) (p_a1 : (0 : Int) ≤ a1.toInt ∧ a1.toInt ≤ 15) (p_a2 : (0 : Int) ≤ a2.toInt ∧ a2.toInt ≤ 399) : Met l yX10_rounds (Cond.code yX10_rounds cX10_rounds 7 none :: wAll) ({ frames := 4, cells := 0, slots := 0, locals := 99 }) (va_Pc [.ref ob, .int a1, .int a2] (kp G y sz [(ce_X10 ob ob_thrown ob_world ob_images ob_hasImage ob_tape ob_taped ob_five ob_size ob_at ob_from ob_token ob_value ob_faultKind ob_faultPlace ob_fresh ob_parts ob_houses ob_houseMany ob_worthOf ob_byCall ob_over ob_bestSet ob_bestOver ob_bestWorth ob_row ob_tenDebts ob_tenMany ob_fewestBy ob_covered ob_queue ob_cameBy ob_parent ob_met ob_calls ob_callMany ob_calledOn ob_saved ob_many ob_width ob_numbers ob_moving), (ce_i9080 y ob_world fob_world), (ce_i16 y ob_houses fob_houses), (ce_i16 y ob_worthOf fob_worthOf), (ce_z16 y ob_byCall fob_byCall), (ce_i10240 y ob_over fob_over)])) (va_Qv (fun (w : va_W) => (∃ (v_14043 : Int32) (v_14044 : Int32) (v_14045 : Int32) (v_14046 : Int32) (f_14047 : Nat → Int32) (f_14048 : Nat → Int32) (f_14049 : Nat → Int32) (f_14050 : Nat → Int32), ((0 : Int) ≤ v_14043.toInt ∧ v_14043.toInt ≤ 10) ∧ ((0 : Int) ≤ v_14044.toInt ∧ v_14044.toInt ≤ 1023) ∧ ((0 : Int) ≤ v_14045.toInt ∧ v_14045.toInt ≤ 180) ∧ ((0 : Int) ≤ v_14046.toInt ∧ v_14046.toInt ≤ 2147483647) ∧ (∀ i, (0 : Int) ≤ (f_14047 i).toInt ∧ (f_14047 i).toInt ≤ 15) ∧ (∀ i, (0 : Int) ≤ (f_14049 i).toInt ∧ (f_14049 i).toInt ≤ 1) ∧ (∀ i, (-1 : Int) ≤ (f_14050 i).toInt ∧ (f_14050 i).toInt ≤ 180) ∧ ((v_14044.toInt).toNat = 0 ∨ FM (snF fob_world f_14049 a2.toInt) (hsF f_14047) a1.toInt (Int32.toInt 0) (v_14044.toInt).toNat (v_14045.toInt)) ∧ ((v_14044.toInt).toNat < 2 ^ v_14043.toInt.toNat) ∧ w = [(ce_X10 ob ob_thrown ob_world ob_images ob_hasImage ob_tape ob_taped ob_five ob_size ob_at ob_from ob_token ob_value ob_faultKind ob_faultPlace ob_fresh ob_parts ob_houses v_14043 ob_worthOf ob_byCall ob_over v_14044 v_14045 v_14046 ob_row ob_tenDebts ob_tenMany ob_fewestBy ob_covered ob_queue ob_cameBy ob_parent ob_met ob_calls ob_callMany ob_calledOn ob_saved ob_many ob_width ob_numbers ob_moving), (ce_i9080 y ob_world fob_world), (ce_i16 y ob_houses f_14047), (ce_i16 y ob_worthOf f_14048), (ce_z16 y ob_byCall f_14049), (ce_i10240 y ob_over f_14050)])) (kq G (va_A [(ce_X10 ob ob_thrown ob_world ob_images ob_hasImage ob_tape ob_taped ob_five ob_size ob_at ob_from ob_token ob_value ob_faultKind ob_faultPlace ob_fresh ob_parts ob_houses ob_houseMany ob_worthOf ob_byCall ob_over ob_bestSet ob_bestOver ob_bestWorth ob_row ob_tenDebts ob_tenMany ob_fewestBy ob_covered ob_queue ob_cameBy ob_parent ob_met ob_calls ob_callMany ob_calledOn ob_saved ob_many ob_width ob_numbers ob_moving), (ce_i9080 y ob_world fob_world), (ce_i16 y ob_houses fob_houses), (ce_i16 y ob_worthOf fob_worthOf), (ce_z16 y ob_byCall fob_byCall), (ce_i10240 y ob_over fob_over)] sz)) (va_A [(ce_X10 ob ob_thrown ob_world ob_images ob_hasImage ob_tape ob_taped ob_five ob_size ob_at ob_from ob_token ob_value ob_faultKind ob_faultPlace ob_fresh ob_parts ob_houses ob_houseMany ob_worthOf ob_byCall ob_over ob_bestSet ob_bestOver ob_bestWorth ob_row ob_tenDebts ob_tenMany ob_fewestBy ob_covered ob_queue ob_cameBy ob_parent ob_met ob_calls ob_callMany ob_calledOn ob_saved ob_many ob_width ob_numbers ob_moving), (ce_i9080 y ob_world fob_world), (ce_i16 y ob_houses fob_houses), (ce_i16 y ob_worthOf fob_worthOf), (ce_z16 y ob_byCall fob_byCall), (ce_i10240 y ob_over fob_over)] sz)) 0 0 (va_A [(ce_X10 ob ob_thrown ob_world ob_images ob_hasImage ob_tape ob_taped ob_five ob_size ob_at ob_from ob_token ob_value ob_faultKind ob_faultPlace ob_fresh ob_parts ob_houses ob_houseMany ob_worthOf ob_byCall ob_over ob_bestSet ob_bestOver ob_bestWorth ob_row ob_tenDebts ob_tenMany ob_fewestBy ob_covered ob_queue ob_cameBy ob_parent ob_met ob_calls ob_callMany ob_calledOn ob_saved ob_many ob_width ob_numbers ob_moving), (ce_i9080 y ob_world fob_world), (ce_i16 y ob_houses fob_houses), (ce_i16 y ob_worthOf fob_worthOf), (ce_z16 y ob_byCall fob_byCall), (ce_i10240 y ob_over fob_over)] sz) := by
  refine Met.ofW (cc := cX10_rounds) (maxL := 7) (ret := none) (by decide) rfl ?_
  intro p e s m args below meth c s₁ B hml hv
  obtain ⟨rfl, hsz, hP, hK, hD0⟩ := hv
  have hx := B.exec
  have hb := B.bytes
  have hr := B.returns
  have hw0 : ∀ w ∈ wAll, w.before _ s = true := fun w h => atoms_spec (ws := Cond.code yX10_rounds cX10_rounds 7 none :: wAll) B.pre w (List.mem_cons_of_mem _ h)
  have hown : s.vm.findClass RX10 = some m.cls := findClass_of_methodNamed B.named
  subst hsz
  have hD := hD0.self (sz := s.heap.size)
  generalize hAe : va_A [(ce_X10 ob ob_thrown ob_world ob_images ob_hasImage ob_tape ob_taped ob_five ob_size ob_at ob_from ob_token ob_value ob_faultKind ob_faultPlace ob_fresh ob_parts ob_houses ob_houseMany ob_worthOf ob_byCall ob_over ob_bestSet ob_bestOver ob_bestWorth ob_row ob_tenDebts ob_tenMany ob_fewestBy ob_covered ob_queue ob_cameBy ob_parent ob_met ob_calls ob_callMany ob_calledOn ob_saved ob_many ob_width ob_numbers ob_moving), (ce_i9080 y ob_world fob_world), (ce_i16 y ob_houses fob_houses), (ce_i16 y ob_worthOf fob_worthOf), (ce_z16 y ob_byCall fob_byCall), (ce_i10240 y ob_over fob_over)] s.heap.size = A at hD ⊢
  have hA : ∀ q : Nat, s.heap.size ≤ q → A q := fun q h => by rw [← hAe]; exact Or.inr h
  have hS : va_S A s.heap s.heap [] := va_S.rf
  have hP : va_P G vwCl [(ce_X10 ob ob_thrown ob_world ob_images ob_hasImage ob_tape ob_taped ob_five ob_size ob_at ob_from ob_token ob_value ob_faultKind ob_faultPlace ob_fresh ob_parts ob_houses ob_houseMany ob_worthOf ob_byCall ob_over ob_bestSet ob_bestOver ob_bestWorth ob_row ob_tenDebts ob_tenMany ob_fewestBy ob_covered ob_queue ob_cameBy ob_parent ob_met ob_calls ob_callMany ob_calledOn ob_saved ob_many ob_width ob_numbers ob_moving), (ce_i9080 y ob_world fob_world), (ce_i16 y ob_houses fob_houses), (ce_i16 y ob_worthOf fob_worthOf), (ce_z16 y ob_byCall fob_byCall), (ce_i10240 y ob_over fob_over)] s.heap := hP
  have hl := lv_entry ([.ref ob, .int a1, .int a2]) (n := 7) (Nat.le_of_ble_eq_true rfl)
  rw [lg_entry_eq]
  generalize (lg_sl ([.ref ob, .int a1, .int a2]) ++ List.replicate (7 - (lg_sl ([.ref ob, .int a1, .int a2])).length) Slot.unset).toArray = ls at hl ⊢
  have hl : lv_has ls 7 [(0, .ref ob), (1, .int a1), (2, .int a2)] := hl
  refine lv_aload_n hx hb dX10_rounds_0 rfl (lv_at hl 0 rfl) ?_
  refine lv_iload_n hx hb dX10_rounds_1 rfl (lv_at hl 1 rfl) ?_
  refine cVvm (As := [.int a1]) (rest := []) ⟨hx, hb, hml, hown, hw0⟩ hA hK hP hD hS [true, true, true, true, true] (sX10_lists l G y _ ob a1 ob_thrown ob_world ob_images ob_hasImage ob_tape ob_taped ob_five ob_size ob_at ob_from ob_token ob_value ob_faultKind ob_faultPlace ob_fresh ob_parts ob_houses ob_houseMany ob_worthOf ob_byCall ob_over ob_bestSet ob_bestOver ob_bestWorth ob_row ob_tenDebts ob_tenMany ob_fewestBy ob_covered ob_queue ob_cameBy ob_parent ob_met ob_calls ob_callMany ob_calledOn ob_saved ob_many ob_width ob_numbers ob_moving fob_world fob_houses fob_worthOf fob_byCall p_fob_world p_ob_taped p_ob_size p_ob_at p_ob_from p_ob_token p_ob_value p_ob_faultKind p_fob_houses p_ob_houseMany p_fob_byCall p_ob_bestSet p_ob_bestOver p_ob_tenMany p_ob_callMany) rfl ⟨(callB_of 1 hw0 (gA m_551) rfl rfl rfl (hw0 _ m_41) (hw0 _ m_662) cb_X10_lists ⟨Nat.le_of_ble_eq_true rfl, Nat.le_of_ble_eq_true rfl⟩), (hw0 _ m_663), (hw0 _ m_664)⟩ (ci := 10) (q := (RX10, TX10, 41)) rfl rfl rfl hl.1 (Nat.le_of_ble_eq_true rfl) dX10_rounds_2 ⟨Nat.le_of_ble_eq_true rfl, Nat.le_of_ble_eq_true rfl⟩ (fun w_1001 H locs hw_1001 hP hD hS => ?_)
  obtain ⟨v_1002, f_1003, f_1004, f_1005, bv_1002, bf_1003, bf_1005, rfl⟩ := hw_1001
  obtain ⟨hP, hD⟩ : vPD G A H [(ce_X10 ob ob_thrown ob_world ob_images ob_hasImage ob_tape ob_taped ob_five ob_size ob_at ob_from ob_token ob_value ob_faultKind ob_faultPlace ob_fresh ob_parts ob_houses v_1002 ob_worthOf ob_byCall ob_over ob_bestSet ob_bestOver ob_bestWorth ob_row ob_tenDebts ob_tenMany ob_fewestBy ob_covered ob_queue ob_cameBy ob_parent ob_met ob_calls ob_callMany ob_calledOn ob_saved ob_many ob_width ob_numbers ob_moving), (ce_i9080 y ob_world fob_world), (ce_i16 y ob_houses f_1003), (ce_i16 y ob_worthOf f_1004), (ce_z16 y ob_byCall f_1005), (ce_i10240 y ob_over fob_over)] := ⟨hP, hD⟩
  refine lv_aload_n hx hb dX10_rounds_5 rfl (lv_at hl 0 rfl) ?_
  refine lv_iload_n hx hb dX10_rounds_6 rfl (lv_at hl 1 rfl) ?_
  refine lv_iconst (v := 0) hx hb dX10_rounds_7 (by decide) ?_
  refine lv_iconst (v := 1) hx hb dX10_rounds_8 (by decide) ?_
  refine lv_aload_n hx hb dX10_rounds_9 rfl (lv_at hl 0 rfl) ?_
  refine va_get (D := G) (ci := 10) (v := .int v_1002) (C := RX10) (T := TX10) (N := 41) hx hb hw0 inA_wsX100 hown hK.1 hP 0 rfl rfl 17 (by decide) (hw0 _ m_409) (fun _ h9 => h9) rfl dX10_rounds_10 ?_
  refine lv_ishl hx hb dX10_rounds_13 ?_
  refine lv_topi (fun v_1006 ev_1006 => ?_)
  have bv_1006 : (1 : Int) ≤ v_1006.toInt ∧ v_1006.toInt ≤ 1024 := ba_shl 0 10 ev_1006 bv_1002 (by decide)
  refine lv_iconst (v := 1) hx hb dX10_rounds_14 (by decide) ?_
  refine lv_isub hx hb dX10_rounds_15 ?_
  refine lv_topi (fun v_1007 ev_1007 => ?_)
  have qv_1007 := ba_sub ev_1007 bv_1006 (bkc (x := 1) (c := 1) (by decide)) (by decide)
  have bv_1007 : (0 : Int) ≤ v_1007.toInt ∧ v_1007.toInt ≤ 1023 := bq_sub qv_1007 bv_1006 (bkc (x := 1) (c := 1) (by decide)) _ _ (by decide)
  have qv_1007 : v_1007.toInt = v_1006.toInt - (1) := qv_1007
  refine lv_iload_n hx hb dX10_rounds_16 rfl (lv_at hl 2 rfl) ?_
  refine cVvm (As := [.int a1, .int 0, .int v_1007, .int a2]) (rest := []) ⟨hx, hb, hml, hown, hw0⟩ hA hK hP hD hS [true, true, true, false, true, true] (fgoes l G y _ ob a1 0 v_1007 a2 ob_thrown ob_world ob_images ob_hasImage ob_tape ob_taped ob_five ob_size ob_at ob_from ob_token ob_value ob_faultKind ob_faultPlace ob_fresh ob_parts ob_houses v_1002 ob_worthOf ob_byCall ob_over ob_bestSet ob_bestOver ob_bestWorth ob_row ob_tenDebts ob_tenMany ob_fewestBy ob_covered ob_queue ob_cameBy ob_parent ob_met ob_calls ob_callMany ob_calledOn ob_saved ob_many ob_width ob_numbers ob_moving fob_world f_1003 f_1005 fob_over p_fob_world p_ob_taped p_ob_size p_ob_at p_ob_from p_ob_token p_ob_value p_ob_faultKind bf_1003 bv_1002 bf_1005 p_fob_over p_ob_bestSet p_ob_bestOver p_ob_tenMany p_ob_callMany p_a1 (bw (0) (180) (bkc (x := 0) (c := 0) (by decide)) (by decide)) bv_1007 (bw (0) (405) p_a2 (by decide))) rfl ⟨(callB_of 4 hw0 (gA m_505) rfl rfl rfl (hw0 _ m_41) (hw0 _ m_467) cb_X10_goesThrough ⟨Nat.le_of_ble_eq_true rfl, Nat.le_of_ble_eq_true rfl⟩), (hw0 _ m_468), (hw0 _ m_469)⟩ (ci := 10) (q := (RX10, TX10, 41)) rfl rfl rfl hl.1 (Nat.le_of_ble_eq_true rfl) dX10_rounds_17 ⟨Nat.le_of_ble_eq_true rfl, Nat.le_of_ble_eq_true rfl⟩ (fun w_1008 H locs hw_1008 hP hD hS => ?_)
  obtain ⟨f_1009, bf_1009, h_1010, rfl⟩ := hw_1008
  obtain ⟨hP, hD⟩ : vPD G A H [(ce_X10 ob ob_thrown ob_world ob_images ob_hasImage ob_tape ob_taped ob_five ob_size ob_at ob_from ob_token ob_value ob_faultKind ob_faultPlace ob_fresh ob_parts ob_houses v_1002 ob_worthOf ob_byCall ob_over ob_bestSet ob_bestOver ob_bestWorth ob_row ob_tenDebts ob_tenMany ob_fewestBy ob_covered ob_queue ob_cameBy ob_parent ob_met ob_calls ob_callMany ob_calledOn ob_saved ob_many ob_width ob_numbers ob_moving), (ce_i9080 y ob_world fob_world), (ce_i16 y ob_houses f_1003), (ce_i16 y ob_worthOf f_1004), (ce_z16 y ob_byCall f_1005), (ce_i10240 y ob_over f_1009)] := ⟨hP, hD⟩
  refine lv_aload_n hx hb dX10_rounds_20 rfl (lv_at hl 0 rfl) ?_
  refine lv_iconst (v := 0) hx hb dX10_rounds_21 (by decide) ?_
  refine va_put (D := G) (ci := 10) (v := .int 0) (ty := .int) (C := RX10) (T := TX10) (N := 41) hx hb hw0 inA_wsX100 tyX10 tyX10_ok nmX10 hown hK.1 hP hD hS 0 rfl rfl 21 (by decide) (hw0 _ m_657) (fun _ h9 => h9) rfl fd_X10_21 rfl rfl (Nat.le_of_ble_eq_true rfl) dX10_rounds_22 (fun H locs hP hD hS => ?_)
  obtain ⟨hP, hD⟩ : vPD G A H [(ce_X10 ob ob_thrown ob_world ob_images ob_hasImage ob_tape ob_taped ob_five ob_size ob_at ob_from ob_token ob_value ob_faultKind ob_faultPlace ob_fresh ob_parts ob_houses v_1002 ob_worthOf ob_byCall ob_over 0 ob_bestOver ob_bestWorth ob_row ob_tenDebts ob_tenMany ob_fewestBy ob_covered ob_queue ob_cameBy ob_parent ob_met ob_calls ob_callMany ob_calledOn ob_saved ob_many ob_width ob_numbers ob_moving), (ce_i9080 y ob_world fob_world), (ce_i16 y ob_houses f_1003), (ce_i16 y ob_worthOf f_1004), (ce_z16 y ob_byCall f_1005), (ce_i10240 y ob_over f_1009)] := ⟨hP, hD⟩
  refine lv_aload_n hx hb dX10_rounds_25 rfl (lv_at hl 0 rfl) ?_
  refine lv_iconst (v := 0) hx hb dX10_rounds_26 (by decide) ?_
  refine va_put (D := G) (ci := 10) (v := .int 0) (ty := .int) (C := RX10) (T := TX10) (N := 41) hx hb hw0 inA_wsX100 tyX10 tyX10_ok nmX10 hown hK.1 hP hD hS 0 rfl rfl 22 (by decide) (hw0 _ m_583) (fun _ h9 => h9) rfl fd_X10_22 rfl rfl (Nat.le_of_ble_eq_true rfl) dX10_rounds_27 (fun H locs hP hD hS => ?_)
  obtain ⟨hP, hD⟩ : vPD G A H [(ce_X10 ob ob_thrown ob_world ob_images ob_hasImage ob_tape ob_taped ob_five ob_size ob_at ob_from ob_token ob_value ob_faultKind ob_faultPlace ob_fresh ob_parts ob_houses v_1002 ob_worthOf ob_byCall ob_over 0 0 ob_bestWorth ob_row ob_tenDebts ob_tenMany ob_fewestBy ob_covered ob_queue ob_cameBy ob_parent ob_met ob_calls ob_callMany ob_calledOn ob_saved ob_many ob_width ob_numbers ob_moving), (ce_i9080 y ob_world fob_world), (ce_i16 y ob_houses f_1003), (ce_i16 y ob_worthOf f_1004), (ce_z16 y ob_byCall f_1005), (ce_i10240 y ob_over f_1009)] := ⟨hP, hD⟩
  refine lv_aload_n hx hb dX10_rounds_30 rfl (lv_at hl 0 rfl) ?_
  refine lv_iconst (v := 0) hx hb dX10_rounds_31 (by decide) ?_
  refine va_put (D := G) (ci := 10) (v := .int 0) (ty := .int) (C := RX10) (T := TX10) (N := 41) hx hb hw0 inA_wsX100 tyX10 tyX10_ok nmX10 hown hK.1 hP hD hS 0 rfl rfl 23 (by decide) (hw0 _ m_665) (fun _ h9 => h9) rfl fd_X10_23 rfl rfl (Nat.le_of_ble_eq_true rfl) dX10_rounds_32 (fun H locs hP hD hS => ?_)
  obtain ⟨hP, hD⟩ : vPD G A H [(ce_X10 ob ob_thrown ob_world ob_images ob_hasImage ob_tape ob_taped ob_five ob_size ob_at ob_from ob_token ob_value ob_faultKind ob_faultPlace ob_fresh ob_parts ob_houses v_1002 ob_worthOf ob_byCall ob_over 0 0 0 ob_row ob_tenDebts ob_tenMany ob_fewestBy ob_covered ob_queue ob_cameBy ob_parent ob_met ob_calls ob_callMany ob_calledOn ob_saved ob_many ob_width ob_numbers ob_moving), (ce_i9080 y ob_world fob_world), (ce_i16 y ob_houses f_1003), (ce_i16 y ob_worthOf f_1004), (ce_z16 y ob_byCall f_1005), (ce_i10240 y ob_over f_1009)] := ⟨hP, hD⟩
  refine lv_iconst (v := 1) hx hb dX10_rounds_35 (by decide) ?_
  refine lv_istore_n (lv' := [(3, .int 1), (0, .ref ob), (1, .int a1), (2, .int a2)]) hx hb dX10_rounds_36 rfl hl (by decide) rfl (fun ls hl => ?_)
  refine loopX (fun n H locs ls st => ∃ (v_7016 : Int32) (v_7017 : Int32) (v_7018 : Int32) (v_7019 : Int32), (1024 - v_7016.toInt).toNat = n ∧ ((1 : Int) ≤ v_7016.toInt ∧ v_7016.toInt ≤ 1024) ∧ ((0 : Int) ≤ v_7017.toInt ∧ v_7017.toInt ≤ 1023) ∧ ((0 : Int) ≤ v_7018.toInt ∧ v_7018.toInt ≤ 180) ∧ ((0 : Int) ≤ v_7019.toInt ∧ v_7019.toInt ≤ 2147483647) ∧ ((v_7017.toInt).toNat = 0 ∨ FM (snF fob_world f_1005 a2.toInt) (hsF f_1003) a1.toInt (Int32.toInt 0) (v_7017.toInt).toNat (v_7018.toInt)) ∧ ((v_7017.toInt).toNat < 2 ^ v_1002.toInt.toNat) ∧ st = [] ∧ vPD G A H [(ce_X10 ob ob_thrown ob_world ob_images ob_hasImage ob_tape ob_taped ob_five ob_size ob_at ob_from ob_token ob_value ob_faultKind ob_faultPlace ob_fresh ob_parts ob_houses v_1002 ob_worthOf ob_byCall ob_over v_7017 v_7018 v_7019 ob_row ob_tenDebts ob_tenMany ob_fewestBy ob_covered ob_queue ob_cameBy ob_parent ob_met ob_calls ob_callMany ob_calledOn ob_saved ob_many ob_width ob_numbers ob_moving), (ce_i9080 y ob_world fob_world), (ce_i16 y ob_houses f_1003), (ce_i16 y ob_worthOf f_1004), (ce_z16 y ob_byCall f_1005), (ce_i10240 y ob_over f_1009)] ∧ va_S A s.heap H locs ∧ lv_has ls 7 [(3, .int v_7016), (0, .ref ob)]) ?_ (n := (1024 - (1 : Int32).toInt).toNat) ⟨1, 0, 0, 0, rfl, (bw (1) (1024) (bkc (x := 1) (c := 1) (by decide)) (by decide)), (bw (0) (1023) (bkc (x := 0) (c := 0) (by decide)) (by decide)), (bw (0) (180) (bkc (x := 0) (c := 0) (by decide)) (by decide)), (bw (0) (2147483647) (bkc (x := 0) (c := 0) (by decide)) (by decide)), (Or.inl (by decide)), (Nat.two_pow_pos _), rfl, ⟨hP, hD⟩, hS, lv_sub hl [0, 1] rfl⟩
  rintro n ih_7520 H locs ls st ⟨v_7016, v_7017, v_7018, v_7019, hn_7520, bv_7016, bv_7017, bv_7018, bv_7019, rl7019_0, rl7019_1, rfl, ⟨hP, hD⟩, hS, hl⟩
  refine lv_iload_n hx hb dX10_rounds_37 rfl (lv_at hl 0 rfl) ?_
  refine lv_iconst (v := 1) hx hb dX10_rounds_38 (by decide) ?_
  refine lv_aload_n hx hb dX10_rounds_39 rfl (lv_at hl 1 rfl) ?_
  refine va_get (D := G) (ci := 10) (v := .int v_1002) (C := RX10) (T := TX10) (N := 41) hx hb hw0 inA_wsX100 hown hK.1 hP 0 rfl rfl 17 (by decide) (hw0 _ m_409) (fun _ h9 => h9) rfl dX10_rounds_40 ?_
  refine lv_ishl hx hb dX10_rounds_43 ?_
  refine lv_topi (fun v_7521 ev_7521 => ?_)
  obtain rfl : v_1006 = v_7521 := (ev_7521.trans (ev_1006.symm)).symm
  refine lv_icmp_ge (tgt := 167) hx hb dX10_rounds_44 (by decide) (fun c_7522 => ?_) (fun c_7522 => ?_)
  · skip
    have nc_7522 := nb_le (1024) (1) c_7522 bv_1006 bv_7016 (by decide)
    exact W.vret hx hb hr (fun t ht hW => ⟨⟨_, rfl, ⟨v_1002, v_7017, v_7018, v_7019, f_1003, f_1004, f_1005, f_1009, bv_1002, bv_7017, bv_7018, bv_7019, bf_1003, bf_1005, bf_1009, rl7019_0, rl7019_1, rfl⟩, by rw [ht]; exact hP, hD⟩, hS.F ht⟩) hS.2.2 dX10_rounds_167
  · skip
    have nc_7522 := nb_nle (1023) (2) c_7522 bv_7016 bv_1006 (by decide)
    refine lv_aload_n hx hb dX10_rounds_47 rfl (lv_at hl 1 rfl) ?_
    refine lv_iload_n hx hb dX10_rounds_48 rfl (lv_at hl 0 rfl) ?_
    refine cVim (As := [.int v_7016]) (rest := []) ⟨hx, hb, hml, hown, hw0⟩ hA hK hP hD hS [true, false, false, false, false, true] (foverOf l G y _ ob v_7016 ob_thrown ob_world ob_images ob_hasImage ob_tape ob_taped ob_five ob_size ob_at ob_from ob_token ob_value ob_faultKind ob_faultPlace ob_fresh ob_parts ob_houses v_1002 ob_worthOf ob_byCall ob_over v_7017 v_7018 v_7019 ob_row ob_tenDebts ob_tenMany ob_fewestBy ob_covered ob_queue ob_cameBy ob_parent ob_met ob_calls ob_callMany ob_calledOn ob_saved ob_many ob_width ob_numbers ob_moving f_1009 p_ob_taped p_ob_size p_ob_at p_ob_from p_ob_token p_ob_value p_ob_faultKind bv_1002 bf_1009 bv_7017 (bw (-1) (180) bv_7018 (by decide)) p_ob_tenMany p_ob_callMany (bw (0) (1023) nc_7522.1 (by decide))) rfl ⟨(callB_of 1 hw0 (gA m_584) rfl rfl rfl (hw0 _ m_41) (hw0 _ m_471) cb_X10_overOf ⟨Nat.le_of_ble_eq_true rfl, Nat.le_of_ble_eq_true rfl⟩), (hw0 _ m_472), (hw0 _ m_473)⟩ (ci := 10) (q := (RX10, TX10, 41)) rfl rfl rfl hl.1 (Nat.le_of_ble_eq_true rfl) dX10_rounds_49 ⟨Nat.le_of_ble_eq_true rfl, Nat.le_of_ble_eq_true rfl⟩ (fun r_7523 w_7523 H locs hw_7523 hP hD hS => ?_)
    obtain ⟨v_7524, bv_7524, h_7525, er_7523, rfl⟩ := hw_7523
    subst r_7523
    obtain ⟨hP, hD⟩ : vPD G A H [(ce_X10 ob ob_thrown ob_world ob_images ob_hasImage ob_tape ob_taped ob_five ob_size ob_at ob_from ob_token ob_value ob_faultKind ob_faultPlace ob_fresh ob_parts ob_houses v_1002 ob_worthOf ob_byCall ob_over v_7017 v_7018 v_7019 ob_row ob_tenDebts ob_tenMany ob_fewestBy ob_covered ob_queue ob_cameBy ob_parent ob_met ob_calls ob_callMany ob_calledOn ob_saved ob_many ob_width ob_numbers ob_moving), (ce_i9080 y ob_world fob_world), (ce_i16 y ob_houses f_1003), (ce_i16 y ob_worthOf f_1004), (ce_z16 y ob_byCall f_1005), (ce_i10240 y ob_over f_1009)] := ⟨hP, hD⟩
    refine lv_istore (lv' := [(4, .int v_7524), (3, .int v_7016), (0, .ref ob)]) hx hb dX10_rounds_52 hl (by decide) rfl (fun ls hl => ?_)
    refine lv_iload hx hb dX10_rounds_54 (lv_at hl 0 rfl) ?_
    refine lv_iconst (v := (-1)) hx hb dX10_rounds_56 (by decide) ?_
    refine cutW 161 (fun H locs ls st => ∃ (v_7772 : Int32) (v_7773 : Int32) (v_7774 : Int32), ((0 : Int) ≤ v_7772.toInt ∧ v_7772.toInt ≤ 1023) ∧ ((0 : Int) ≤ v_7773.toInt ∧ v_7773.toInt ≤ 180) ∧ ((0 : Int) ≤ v_7774.toInt ∧ v_7774.toInt ≤ 2147483647) ∧ ((v_7772.toInt).toNat = 0 ∨ FM (snF fob_world f_1005 a2.toInt) (hsF f_1003) a1.toInt (Int32.toInt 0) (v_7772.toInt).toNat (v_7773.toInt)) ∧ ((v_7772.toInt).toNat < 2 ^ v_1002.toInt.toNat) ∧ st = [] ∧ vPD G A H [(ce_X10 ob ob_thrown ob_world ob_images ob_hasImage ob_tape ob_taped ob_five ob_size ob_at ob_from ob_token ob_value ob_faultKind ob_faultPlace ob_fresh ob_parts ob_houses v_1002 ob_worthOf ob_byCall ob_over v_7772 v_7773 v_7774 ob_row ob_tenDebts ob_tenMany ob_fewestBy ob_covered ob_queue ob_cameBy ob_parent ob_met ob_calls ob_callMany ob_calledOn ob_saved ob_many ob_width ob_numbers ob_moving), (ce_i9080 y ob_world fob_world), (ce_i16 y ob_houses f_1003), (ce_i16 y ob_worthOf f_1004), (ce_z16 y ob_byCall f_1005), (ce_i10240 y ob_over f_1009)] ∧ va_S A s.heap H locs ∧ lv_has ls 7 [(3, .int v_7016), (0, .ref ob)]) ?_ (fun J_161_7774 => ?_)
    · rintro H locs ls st ⟨v_7772, v_7773, v_7774, bv_7772, bv_7773, bv_7774, rl7774_0, rl7774_1, rfl, ⟨hP, hD⟩, hS, hl⟩
      obtain ⟨v_7775, ev_7775⟩ : ∃ z : Int32, z = v_7016 + 1 := ⟨_, rfl⟩
      have qv_7775 := ba_add ev_7775 nc_7522.1 (bkc (x := 1) (c := 1) (by decide)) (by decide)
      have bv_7775 : (2 : Int) ≤ v_7775.toInt ∧ v_7775.toInt ≤ 1024 := bq_add qv_7775 nc_7522.1 (bkc (x := 1) (c := 1) (by decide)) _ _ (by decide)
      have qv_7775 : v_7775.toInt = v_7016.toInt + (1) := qv_7775
      refine lv_iinc (v := v_7775) (lv' := [(3, .int v_7775), (0, .ref ob)]) hx hb dX10_rounds_161 hl (k := 0) rfl (ev_7775.symm) (by decide) rfl (fun ls hl => ?_)
      refine lv_goto (tgt := 37) hx hb dX10_rounds_164 (by decide) ?_
      exact ih_7520 _ (ml_inc (hi := 1024) hn_7520 qv_7775 (by decide) ((bw (1) (1024) bv_7775 (by decide))).2) _ _ _ _ ⟨v_7775, v_7772, v_7773, v_7774, rfl, (bw (1) (1024) bv_7775 (by decide)), bv_7772, bv_7773, bv_7774, rl7774_0, rl7774_1, rfl, ⟨hP, hD⟩, hS, lv_sub hl [0, 1] rfl⟩
    · skip
      refine lv_icmp_ne (tgt := 63) hx hb dX10_rounds_57 (by decide) (fun c_7776 => ?_) (fun c_7776 => ?_)
      · skip
        have nc_7776 := nb_ne (0) (180) c_7776 bv_7524 (k := -1) (by decide) (by decide)
        refine lv_iconst (v := 0) hx hb dX10_rounds_63 (by decide) ?_
        refine lv_istore (lv' := [(5, .int 0), (4, .int v_7524), (3, .int v_7016), (0, .ref ob)]) hx hb dX10_rounds_64 hl (by decide) rfl (fun ls hl => ?_)
        refine lv_iconst (v := 0) hx hb dX10_rounds_66 (by decide) ?_
        refine lv_istore (lv' := [(6, .int 0), (5, .int 0), (4, .int v_7524), (3, .int v_7016), (0, .ref ob)]) hx hb dX10_rounds_67 hl (by decide) rfl (fun ls hl => ?_)
        refine loopX (fun n H locs ls st => ∃ (v_7982 : Int32) (v_7983 : Int32), (10 - v_7982.toInt).toNat = n ∧ ((0 : Int) ≤ v_7982.toInt ∧ v_7982.toInt ≤ 10) ∧ st = [] ∧ vPD G A H [(ce_X10 ob ob_thrown ob_world ob_images ob_hasImage ob_tape ob_taped ob_five ob_size ob_at ob_from ob_token ob_value ob_faultKind ob_faultPlace ob_fresh ob_parts ob_houses v_1002 ob_worthOf ob_byCall ob_over v_7017 v_7018 v_7019 ob_row ob_tenDebts ob_tenMany ob_fewestBy ob_covered ob_queue ob_cameBy ob_parent ob_met ob_calls ob_callMany ob_calledOn ob_saved ob_many ob_width ob_numbers ob_moving), (ce_i9080 y ob_world fob_world), (ce_i16 y ob_houses f_1003), (ce_i16 y ob_worthOf f_1004), (ce_z16 y ob_byCall f_1005), (ce_i10240 y ob_over f_1009)] ∧ va_S A s.heap H locs ∧ lv_has ls 7 [(6, .int v_7982), (5, .int v_7983), (4, .int v_7524), (3, .int v_7016), (0, .ref ob)]) ?_ (n := (10 - (0 : Int32).toInt).toNat) ⟨0, 0, rfl, (bw (0) (10) (bkc (x := 0) (c := 0) (by decide)) (by decide)), rfl, ⟨hP, hD⟩, hS, lv_sub hl [0, 1, 2, 3, 4] rfl⟩
        rintro n ih_8002 H locs ls st ⟨v_7982, v_7983, hn_8002, bv_7982, rfl, ⟨hP, hD⟩, hS, hl⟩
        refine lv_iload hx hb dX10_rounds_69 (lv_at hl 0 rfl) ?_
        refine lv_aload_n hx hb dX10_rounds_71 rfl (lv_at hl 4 rfl) ?_
        refine va_get (D := G) (ci := 10) (v := .int v_1002) (C := RX10) (T := TX10) (N := 41) hx hb hw0 inA_wsX100 hown hK.1 hP 0 rfl rfl 17 (by decide) (hw0 _ m_409) (fun _ h9 => h9) rfl dX10_rounds_72 ?_
        refine lv_icmp_ge (tgt := 114) hx hb dX10_rounds_75 (by decide) (fun c_8003 => ?_) (fun c_8003 => ?_)
        · skip
          have nc_8003 := nb_le (10) (0) c_8003 bv_1002 bv_7982 (by decide)
          refine lv_iload hx hb dX10_rounds_114 (lv_at hl 1 rfl) ?_
          refine lv_aload_n hx hb dX10_rounds_116 rfl (lv_at hl 4 rfl) ?_
          refine va_get (D := G) (ci := 10) (v := .int v_7019) (C := RX10) (T := TX10) (N := 41) hx hb hw0 inA_wsX100 hown hK.1 hP 0 rfl rfl 23 (by decide) (hw0 _ m_665) (fun _ h9 => h9) rfl dX10_rounds_117 ?_
          refine lv_icmp_lt (tgt := 161) hx hb dX10_rounds_120 (by decide) (fun c_8004 => ?_) (fun c_8004 => ?_)
          · skip
            have nc_8004 := nb_lt (2147483646) (0) c_8004 (btop v_7983) bv_7019 (by decide)
            exact J_161_7774 _ _ _ _ ⟨v_7017, v_7018, v_7019, bv_7017, bv_7018, nc_8004.2.1, rl7019_0, rl7019_1, rfl, ⟨hP, hD⟩, hS, lv_sub hl [3, 4] rfl⟩
          · skip
            have nc_8004 := nb_nlt (2147483647) (0) c_8004 bv_7019 (btop v_7983) (by decide)
            refine lv_iload hx hb dX10_rounds_123 (lv_at hl 1 rfl) ?_
            refine lv_aload_n hx hb dX10_rounds_125 rfl (lv_at hl 4 rfl) ?_
            refine va_get (D := G) (ci := 10) (v := .int v_7019) (C := RX10) (T := TX10) (N := 41) hx hb hw0 inA_wsX100 hown hK.1 hP 0 rfl rfl 23 (by decide) (hw0 _ m_665) (fun _ h9 => h9) rfl dX10_rounds_126 ?_
            refine cutW 144 (fun H locs ls st => st = [] ∧ vPD G A H [(ce_X10 ob ob_thrown ob_world ob_images ob_hasImage ob_tape ob_taped ob_five ob_size ob_at ob_from ob_token ob_value ob_faultKind ob_faultPlace ob_fresh ob_parts ob_houses v_1002 ob_worthOf ob_byCall ob_over v_7017 v_7018 v_7019 ob_row ob_tenDebts ob_tenMany ob_fewestBy ob_covered ob_queue ob_cameBy ob_parent ob_met ob_calls ob_callMany ob_calledOn ob_saved ob_many ob_width ob_numbers ob_moving), (ce_i9080 y ob_world fob_world), (ce_i16 y ob_houses f_1003), (ce_i16 y ob_worthOf f_1004), (ce_z16 y ob_byCall f_1005), (ce_i10240 y ob_over f_1009)] ∧ va_S A s.heap H locs ∧ lv_has ls 7 [(5, .int v_7983), (4, .int v_7524), (3, .int v_7016), (0, .ref ob)]) ?_ (fun J_144_8006 => ?_)
            · rintro H locs ls st ⟨rfl, ⟨hP, hD⟩, hS, hl⟩
              refine lv_aload_n hx hb dX10_rounds_144 rfl (lv_at hl 3 rfl) ?_
              refine lv_iload_n hx hb dX10_rounds_145 rfl (lv_at hl 2 rfl) ?_
              refine va_put (D := G) (ci := 10) (v := .int v_7016) (ty := .int) (C := RX10) (T := TX10) (N := 41) hx hb hw0 inA_wsX100 tyX10 tyX10_ok nmX10 hown hK.1 hP hD hS 0 rfl rfl 21 (by decide) (hw0 _ m_657) (fun _ h9 => h9) rfl fd_X10_21 rfl rfl (Nat.le_of_ble_eq_true rfl) dX10_rounds_146 (fun H locs hP hD hS => ?_)
              obtain ⟨hP, hD⟩ : vPD G A H [(ce_X10 ob ob_thrown ob_world ob_images ob_hasImage ob_tape ob_taped ob_five ob_size ob_at ob_from ob_token ob_value ob_faultKind ob_faultPlace ob_fresh ob_parts ob_houses v_1002 ob_worthOf ob_byCall ob_over v_7016 v_7018 v_7019 ob_row ob_tenDebts ob_tenMany ob_fewestBy ob_covered ob_queue ob_cameBy ob_parent ob_met ob_calls ob_callMany ob_calledOn ob_saved ob_many ob_width ob_numbers ob_moving), (ce_i9080 y ob_world fob_world), (ce_i16 y ob_houses f_1003), (ce_i16 y ob_worthOf f_1004), (ce_z16 y ob_byCall f_1005), (ce_i10240 y ob_over f_1009)] := ⟨hP, hD⟩
              refine lv_aload_n hx hb dX10_rounds_149 rfl (lv_at hl 3 rfl) ?_
              refine lv_iload hx hb dX10_rounds_150 (lv_at hl 1 rfl) ?_
              refine va_put (D := G) (ci := 10) (v := .int v_7524) (ty := .int) (C := RX10) (T := TX10) (N := 41) hx hb hw0 inA_wsX100 tyX10 tyX10_ok nmX10 hown hK.1 hP hD hS 0 rfl rfl 22 (by decide) (hw0 _ m_583) (fun _ h9 => h9) rfl fd_X10_22 rfl rfl (Nat.le_of_ble_eq_true rfl) dX10_rounds_152 (fun H locs hP hD hS => ?_)
              obtain ⟨hP, hD⟩ : vPD G A H [(ce_X10 ob ob_thrown ob_world ob_images ob_hasImage ob_tape ob_taped ob_five ob_size ob_at ob_from ob_token ob_value ob_faultKind ob_faultPlace ob_fresh ob_parts ob_houses v_1002 ob_worthOf ob_byCall ob_over v_7016 v_7524 v_7019 ob_row ob_tenDebts ob_tenMany ob_fewestBy ob_covered ob_queue ob_cameBy ob_parent ob_met ob_calls ob_callMany ob_calledOn ob_saved ob_many ob_width ob_numbers ob_moving), (ce_i9080 y ob_world fob_world), (ce_i16 y ob_houses f_1003), (ce_i16 y ob_worthOf f_1004), (ce_z16 y ob_byCall f_1005), (ce_i10240 y ob_over f_1009)] := ⟨hP, hD⟩
              refine lv_aload_n hx hb dX10_rounds_155 rfl (lv_at hl 3 rfl) ?_
              refine lv_iload hx hb dX10_rounds_156 (lv_at hl 0 rfl) ?_
              refine va_put (D := G) (ci := 10) (v := .int v_7983) (ty := .int) (C := RX10) (T := TX10) (N := 41) hx hb hw0 inA_wsX100 tyX10 tyX10_ok nmX10 hown hK.1 hP hD hS 0 rfl rfl 23 (by decide) (hw0 _ m_665) (fun _ h9 => h9) rfl fd_X10_23 rfl rfl (Nat.le_of_ble_eq_true rfl) dX10_rounds_158 (fun H locs hP hD hS => ?_)
              obtain ⟨hP, hD⟩ : vPD G A H [(ce_X10 ob ob_thrown ob_world ob_images ob_hasImage ob_tape ob_taped ob_five ob_size ob_at ob_from ob_token ob_value ob_faultKind ob_faultPlace ob_fresh ob_parts ob_houses v_1002 ob_worthOf ob_byCall ob_over v_7016 v_7524 v_7983 ob_row ob_tenDebts ob_tenMany ob_fewestBy ob_covered ob_queue ob_cameBy ob_parent ob_met ob_calls ob_callMany ob_calledOn ob_saved ob_many ob_width ob_numbers ob_moving), (ce_i9080 y ob_world fob_world), (ce_i16 y ob_houses f_1003), (ce_i16 y ob_worthOf f_1004), (ce_z16 y ob_byCall f_1005), (ce_i10240 y ob_over f_1009)] := ⟨hP, hD⟩
              exact J_161_7774 _ _ _ _ ⟨v_7016, v_7524, v_7983, (bw (0) (1023) nc_7522.1 (by decide)), nc_7776.1, nc_8004.2.1, (Or.inr (fm_of (snF_R _ _ _) (snF_M _ _ _) (by decide) (fun j => (bf_1009 j).1) (lt_bit _) (dp_all h_1010) (by omega) (by have h9 := shl_nat ev_1006 (by omega); omega) (sub_all (n := v_1002.toInt.toNat) (by have h9 := shl_nat ev_1006 (by omega); omega) (by have h9 := shl_nat ev_1006 (by omega); omega)) h_7525 (by omega))), (by have h9 := shl_nat ev_1006 (by omega); omega), rfl, ⟨hP, hD⟩, hS, lv_sub hl [2, 3] rfl⟩
            · skip
              refine lv_icmp_ne (tgt := 144) hx hb dX10_rounds_129 (by decide) (fun c_8007 => ?_) (fun c_8007 => ?_)
              · skip
                exact J_144_8006 _ _ _ _ ⟨rfl, ⟨hP, hD⟩, hS, lv_sub hl [1, 2, 3, 4] rfl⟩
              · skip
                have nc_8007 := nb_eq (0) (2147483647) c_8007 nc_8004.2.1 nc_8004.1 (by decide)
                refine lv_iload hx hb dX10_rounds_132 (lv_at hl 2 rfl) ?_
                refine lv_aload_n hx hb dX10_rounds_134 rfl (lv_at hl 4 rfl) ?_
                refine va_get (D := G) (ci := 10) (v := .int v_7018) (C := RX10) (T := TX10) (N := 41) hx hb hw0 inA_wsX100 hown hK.1 hP 0 rfl rfl 22 (by decide) (hw0 _ m_583) (fun _ h9 => h9) rfl dX10_rounds_135 ?_
                refine lv_icmp_lt (tgt := 144) hx hb dX10_rounds_138 (by decide) (fun c_8008 => ?_) (fun c_8008 => ?_)
                · skip
                  have nc_8008 := nb_lt (179) (1) c_8008 nc_7776.1 bv_7018 (by decide)
                  exact J_144_8006 _ _ _ _ ⟨rfl, ⟨hP, hD⟩, hS, lv_sub hl [1, 2, 3, 4] rfl⟩
                · skip
                  have nc_8008 := nb_nlt (180) (0) c_8008 bv_7018 nc_7776.1 (by decide)
                  refine lv_goto (tgt := 161) hx hb dX10_rounds_141 (by decide) ?_
                  exact J_161_7774 _ _ _ _ ⟨v_7017, v_7018, v_7019, bv_7017, nc_8008.1, nc_8007.2.1, rl7019_0, rl7019_1, rfl, ⟨hP, hD⟩, hS, lv_sub hl [3, 4] rfl⟩
        · skip
          have nc_8003 := nb_nle (9) (1) c_8003 bv_7982 bv_1002 (by decide)
          refine lv_iload hx hb dX10_rounds_78 (lv_at hl 1 rfl) ?_
          refine lv_iload_n hx hb dX10_rounds_80 rfl (lv_at hl 3 rfl) ?_
          refine lv_iload hx hb dX10_rounds_81 (lv_at hl 0 rfl) ?_
          refine cutW 105 (fun H locs ls st => ∃ (v_8014 : Int32), st = [.int v_8014, .int v_7983] ∧ vPD G A H [(ce_X10 ob ob_thrown ob_world ob_images ob_hasImage ob_tape ob_taped ob_five ob_size ob_at ob_from ob_token ob_value ob_faultKind ob_faultPlace ob_fresh ob_parts ob_houses v_1002 ob_worthOf ob_byCall ob_over v_7017 v_7018 v_7019 ob_row ob_tenDebts ob_tenMany ob_fewestBy ob_covered ob_queue ob_cameBy ob_parent ob_met ob_calls ob_callMany ob_calledOn ob_saved ob_many ob_width ob_numbers ob_moving), (ce_i9080 y ob_world fob_world), (ce_i16 y ob_houses f_1003), (ce_i16 y ob_worthOf f_1004), (ce_z16 y ob_byCall f_1005), (ce_i10240 y ob_over f_1009)] ∧ va_S A s.heap H locs ∧ lv_has ls 7 [(6, .int v_7982), (4, .int v_7524), (3, .int v_7016), (0, .ref ob)]) ?_ (fun J_105_8014 => ?_)
          · rintro H locs ls st ⟨v_8014, rfl, ⟨hP, hD⟩, hS, hl⟩
            refine lv_iadd hx hb dX10_rounds_105 ?_
            refine lv_topi (fun v_8015 ev_8015 => ?_)
            refine lv_istore (lv' := [(5, .int v_8015), (6, .int v_7982), (4, .int v_7524), (3, .int v_7016), (0, .ref ob)]) hx hb dX10_rounds_106 hl (by decide) rfl (fun ls hl => ?_)
            obtain ⟨v_8016, ev_8016⟩ : ∃ z : Int32, z = v_7982 + 1 := ⟨_, rfl⟩
            have qv_8016 := ba_add ev_8016 nc_8003.1 (bkc (x := 1) (c := 1) (by decide)) (by decide)
            have bv_8016 : (1 : Int) ≤ v_8016.toInt ∧ v_8016.toInt ≤ 10 := bq_add qv_8016 nc_8003.1 (bkc (x := 1) (c := 1) (by decide)) _ _ (by decide)
            have qv_8016 : v_8016.toInt = v_7982.toInt + (1) := qv_8016
            refine lv_iinc (v := v_8016) (lv' := [(6, .int v_8016), (5, .int v_8015), (4, .int v_7524), (3, .int v_7016), (0, .ref ob)]) hx hb dX10_rounds_108 hl (k := 1) rfl (ev_8016.symm) (by decide) rfl (fun ls hl => ?_)
            refine lv_goto (tgt := 69) hx hb dX10_rounds_111 (by decide) ?_
            exact ih_8002 _ (ml_inc (hi := 10) hn_8002 qv_8016 (by decide) ((bw (0) (10) bv_8016 (by decide))).2) _ _ _ _ ⟨v_8016, v_8015, rfl, (bw (0) (10) bv_8016 (by decide)), rfl, ⟨hP, hD⟩, hS, lv_sub hl [0, 1, 2, 3, 4] rfl⟩
          · skip
            refine cSim (As := [.int v_7016, .int v_7982]) (rest := [.int v_7983]) ⟨hx, hb, hml, hown, hw0⟩ hA hK hP hD hS [] (sholdB l G y _ v_7016 v_7982 (bw (0) (65535) nc_7522.1 (by decide)) (bw (0) (15) nc_8003.1 (by decide))) rfl ⟨(callB_of 2 hw0 (gA m_512) rfl rfl rfl (hw0 _ m_41) (hw0 _ m_353) cb_X10_holds ⟨Nat.le_of_ble_eq_true rfl, Nat.le_of_ble_eq_true rfl⟩), (hw0 _ m_354)⟩ rfl hl.1 (Nat.le_of_ble_eq_true rfl) dX10_rounds_83 ⟨Nat.le_of_ble_eq_true rfl, Nat.le_of_ble_eq_true rfl⟩ (fun r_8017 w_8017 H locs hw_8017 hP hD hS => ?_)
            rcases hw_8017 with ⟨h_8018, rfl, rfl⟩ | ⟨h_8019, rfl, rfl⟩
            · skip
              obtain ⟨hP, hD⟩ : vPD G A H [(ce_X10 ob ob_thrown ob_world ob_images ob_hasImage ob_tape ob_taped ob_five ob_size ob_at ob_from ob_token ob_value ob_faultKind ob_faultPlace ob_fresh ob_parts ob_houses v_1002 ob_worthOf ob_byCall ob_over v_7017 v_7018 v_7019 ob_row ob_tenDebts ob_tenMany ob_fewestBy ob_covered ob_queue ob_cameBy ob_parent ob_met ob_calls ob_callMany ob_calledOn ob_saved ob_many ob_width ob_numbers ob_moving), (ce_i9080 y ob_world fob_world), (ce_i16 y ob_houses f_1003), (ce_i16 y ob_worthOf f_1004), (ce_z16 y ob_byCall f_1005), (ce_i10240 y ob_over f_1009)] := ⟨hP, hD⟩
              refine lv_if_eq (tgt := 104) hx hb dX10_rounds_86 (by decide) (fun _ => ?_) (fun c9 => absurd (by decide) c9)
              refine lv_iconst (v := 0) hx hb dX10_rounds_104 (by decide) ?_
              exact J_105_8014 _ _ _ _ ⟨0, rfl, ⟨hP, hD⟩, hS, lv_sub hl [0, 2, 3, 4] rfl⟩
            · skip
              obtain ⟨hP, hD⟩ : vPD G A H [(ce_X10 ob ob_thrown ob_world ob_images ob_hasImage ob_tape ob_taped ob_five ob_size ob_at ob_from ob_token ob_value ob_faultKind ob_faultPlace ob_fresh ob_parts ob_houses v_1002 ob_worthOf ob_byCall ob_over v_7017 v_7018 v_7019 ob_row ob_tenDebts ob_tenMany ob_fewestBy ob_covered ob_queue ob_cameBy ob_parent ob_met ob_calls ob_callMany ob_calledOn ob_saved ob_many ob_width ob_numbers ob_moving), (ce_i9080 y ob_world fob_world), (ce_i16 y ob_houses f_1003), (ce_i16 y ob_worthOf f_1004), (ce_z16 y ob_byCall f_1005), (ce_i10240 y ob_over f_1009)] := ⟨hP, hD⟩
              refine lv_if_eq (tgt := 104) hx hb dX10_rounds_86 (by decide) (fun c9 => absurd c9 (by decide)) (fun _ => ?_)
              refine lv_aload_n hx hb dX10_rounds_89 rfl (lv_at hl 4 rfl) ?_
              refine va_get (D := G) (ci := 10) (v := .ref ob_worthOf) (C := RX10) (T := TX10) (N := 41) hx hb hw0 inA_wsX100 hown hK.1 hP 0 rfl rfl 18 (by decide) (hw0 _ m_449) (fun _ h9 => h9) rfl dX10_rounds_90 ?_
              refine lv_aload_n hx hb dX10_rounds_93 rfl (lv_at hl 4 rfl) ?_
              refine va_get (D := G) (ci := 10) (v := .ref ob_houses) (C := RX10) (T := TX10) (N := 41) hx hb hw0 inA_wsX100 hown hK.1 hP 0 rfl rfl 16 (by decide) (hw0 _ m_410) (fun _ h9 => h9) rfl dX10_rounds_94 ?_
              refine lv_iload hx hb dX10_rounds_97 (lv_at hl 0 rfl) ?_
              refine va_iald hx hb hK.1 hP 2 1 rfl rfl (vi nc_8003.1 (by decide)) dX10_rounds_99 ?_
              refine lv_topi (fun v_8020 ev_8020 => ?_)
              have bv_8020 : (0 : Int) ≤ v_8020.toInt ∧ v_8020.toInt ≤ 15 := rd_b ev_8020 bf_1003
              refine va_iald hx hb hK.1 hP 3 1 rfl rfl (vi bv_8020 (by decide)) dX10_rounds_100 ?_
              refine lv_topi (fun v_8021 ev_8021 => ?_)
              refine lv_goto (tgt := 105) hx hb dX10_rounds_101 (by decide) ?_
              exact J_105_8014 _ _ _ _ ⟨v_8021, rfl, ⟨hP, hD⟩, hS, lv_sub hl [0, 2, 3, 4] rfl⟩
      · skip
        have nc_7776 := nb_eq (-1) (-1) c_7776 bv_7524 (bkc (x := (-1)) (c := -1) (by decide)) (by decide)
        refine lv_goto (tgt := 161) hx hb dX10_rounds_60 (by decide) ?_
        exact J_161_7774 _ _ _ _ ⟨v_7017, v_7018, v_7019, bv_7017, bv_7018, bv_7019, rl7019_0, rl7019_1, rfl, ⟨hP, hD⟩, hS, lv_sub hl [1, 2] rfl⟩

set_option maxHeartbeats 4000000 in
set_option maxRecDepth 100000 in
theorem frowOf (l : Launch) (G : va_G) (y : Nat → ClassId) (sz : Nat) (ob : Nat) (a1 : Int32) (a2 : Int32) (ob_thrown : Int32) (ob_world : Nat) (ob_images : Nat) (ob_hasImage : Nat) (ob_tape : Nat) (ob_taped : Int32) (ob_five : Nat) (ob_size : Int32) (ob_at : Int32) (ob_from : Int32) (ob_token : Int32) (ob_value : Int32) (ob_faultKind : Int32) (ob_faultPlace : Int32) (ob_fresh : Nat) (ob_parts : Nat) (ob_houses : Nat) (ob_houseMany : Int32) (ob_worthOf : Nat) (ob_byCall : Nat) (ob_over : Nat) (ob_bestSet : Int32) (ob_bestOver : Int32) (ob_bestWorth : Int32) (ob_row : Nat) (ob_tenDebts : Nat) (ob_tenMany : Int32) (ob_fewestBy : Nat) (ob_covered : Nat) (ob_queue : Nat) (ob_cameBy : Nat) (ob_parent : Nat) (ob_met : Nat) (ob_calls : Nat) (ob_callMany : Int32) (ob_calledOn : Nat) (ob_saved : Nat) (ob_many : Nat) (ob_width : Nat) (ob_numbers : Nat) (ob_moving : Nat) (fob_world : Nat → Int32) (fob_houses : Nat → Int32) (fob_byCall : Nat → Int32) (fob_over : Nat → Int32) (fob_row : Nat → Int32) (p_fob_world : RWw fob_world) (p_ob_taped : (0 : Int) ≤ ob_taped.toInt ∧ ob_taped.toInt ≤ 1400) (p_ob_size : (0 : Int) ≤ ob_size.toInt ∧ ob_size.toInt ≤ 1400) (p_ob_at : (0 : Int) ≤ ob_at.toInt ∧ ob_at.toInt ≤ 1400) (p_ob_from : (0 : Int) ≤ ob_from.toInt ∧ ob_from.toInt ≤ 1400) (p_ob_token : (0 : Int) ≤ ob_token.toInt ∧ ob_token.toInt ≤ 4) (p_ob_value : (0 : Int) ≤ ob_value.toInt ∧ ob_value.toInt ≤ 9999) (p_ob_faultKind : (0 : Int) ≤ ob_faultKind.toInt ∧ ob_faultKind.toInt ≤ 3) (p_fob_houses : ∀ i, (0 : Int) ≤ (fob_houses i).toInt ∧ (fob_houses i).toInt ≤ 15) (p_ob_houseMany : (0 : Int) ≤ ob_houseMany.toInt ∧ ob_houseMany.toInt ≤ 10) (p_fob_byCall : ∀ i, (0 : Int) ≤ (fob_byCall i).toInt ∧ (fob_byCall i).toInt ≤ 1) (p_fob_over : ∀ i, (-1 : Int) ≤ (fob_over i).toInt ∧ (fob_over i).toInt ≤ 180) (p_ob_bestSet : (0 : Int) ≤ ob_bestSet.toInt ∧ ob_bestSet.toInt ≤ 1023) (p_ob_bestOver : (-1 : Int) ≤ ob_bestOver.toInt ∧ ob_bestOver.toInt ≤ 180) (p_ob_tenMany : (0 : Int) ≤ ob_tenMany.toInt ∧ ob_tenMany.toInt ≤ 10) (p_ob_callMany : (0 : Int) ≤ ob_callMany.toInt ∧ ob_callMany.toInt ≤ 16) (p_a1 : (0 : Int) ≤ a1.toInt ∧ a1.toInt ≤ 15) (p_a2 : (0 : Int) ≤ a2.toInt ∧ a2.toInt ≤ 399) (hq0 : (ob_bestSet.toInt).toNat = 0 ∨ FM (snF fob_world fob_byCall a2.toInt) (hsF fob_houses) a1.toInt (Int32.toInt 0) (ob_bestSet.toInt).toNat (ob_bestOver.toInt)) (hq1 : (ob_bestSet.toInt).toNat < 2 ^ ob_houseMany.toInt.toNat) (hq2 : 0 ≤ ob_bestOver.toInt) : Met l yX10_rowOf (Cond.code yX10_rowOf cX10_rowOf 12 none :: wAll) ({ frames := 4, cells := 0, slots := 0, locals := 99 }) (va_Pc [.ref ob, .int a1, .int a2] (kp G y sz [(ce_X10 ob ob_thrown ob_world ob_images ob_hasImage ob_tape ob_taped ob_five ob_size ob_at ob_from ob_token ob_value ob_faultKind ob_faultPlace ob_fresh ob_parts ob_houses ob_houseMany ob_worthOf ob_byCall ob_over ob_bestSet ob_bestOver ob_bestWorth ob_row ob_tenDebts ob_tenMany ob_fewestBy ob_covered ob_queue ob_cameBy ob_parent ob_met ob_calls ob_callMany ob_calledOn ob_saved ob_many ob_width ob_numbers ob_moving), (ce_i9080 y ob_world fob_world), (ce_i16 y ob_houses fob_houses), (ce_z16 y ob_byCall fob_byCall), (ce_i10240 y ob_over fob_over), (ce_i10 y ob_row fob_row)])) (va_Qv (fun (w : va_W) => (∃ (f_2135 : Nat → Int32) (f_2136 : Nat → Int32), (∀ i, (-1 : Int) ≤ (f_2135 i).toInt ∧ (f_2135 i).toInt ≤ 180) ∧ w = [(ce_X10 ob ob_thrown ob_world ob_images ob_hasImage ob_tape ob_taped ob_five ob_size ob_at ob_from ob_token ob_value ob_faultKind ob_faultPlace ob_fresh ob_parts ob_houses ob_houseMany ob_worthOf ob_byCall ob_over ob_bestSet ob_bestOver ob_bestWorth ob_row ob_tenDebts ob_tenMany ob_fewestBy ob_covered ob_queue ob_cameBy ob_parent ob_met ob_calls ob_callMany ob_calledOn ob_saved ob_many ob_width ob_numbers ob_moving), (ce_i9080 y ob_world fob_world), (ce_i16 y ob_houses fob_houses), (ce_z16 y ob_byCall fob_byCall), (ce_i10240 y ob_over f_2135), (ce_i10 y ob_row f_2136)])) (kq G (va_A [(ce_X10 ob ob_thrown ob_world ob_images ob_hasImage ob_tape ob_taped ob_five ob_size ob_at ob_from ob_token ob_value ob_faultKind ob_faultPlace ob_fresh ob_parts ob_houses ob_houseMany ob_worthOf ob_byCall ob_over ob_bestSet ob_bestOver ob_bestWorth ob_row ob_tenDebts ob_tenMany ob_fewestBy ob_covered ob_queue ob_cameBy ob_parent ob_met ob_calls ob_callMany ob_calledOn ob_saved ob_many ob_width ob_numbers ob_moving), (ce_i9080 y ob_world fob_world), (ce_i16 y ob_houses fob_houses), (ce_z16 y ob_byCall fob_byCall), (ce_i10240 y ob_over fob_over), (ce_i10 y ob_row fob_row)] sz)) (va_A [(ce_X10 ob ob_thrown ob_world ob_images ob_hasImage ob_tape ob_taped ob_five ob_size ob_at ob_from ob_token ob_value ob_faultKind ob_faultPlace ob_fresh ob_parts ob_houses ob_houseMany ob_worthOf ob_byCall ob_over ob_bestSet ob_bestOver ob_bestWorth ob_row ob_tenDebts ob_tenMany ob_fewestBy ob_covered ob_queue ob_cameBy ob_parent ob_met ob_calls ob_callMany ob_calledOn ob_saved ob_many ob_width ob_numbers ob_moving), (ce_i9080 y ob_world fob_world), (ce_i16 y ob_houses fob_houses), (ce_z16 y ob_byCall fob_byCall), (ce_i10240 y ob_over fob_over), (ce_i10 y ob_row fob_row)] sz)) 0 0 (va_A [(ce_X10 ob ob_thrown ob_world ob_images ob_hasImage ob_tape ob_taped ob_five ob_size ob_at ob_from ob_token ob_value ob_faultKind ob_faultPlace ob_fresh ob_parts ob_houses ob_houseMany ob_worthOf ob_byCall ob_over ob_bestSet ob_bestOver ob_bestWorth ob_row ob_tenDebts ob_tenMany ob_fewestBy ob_covered ob_queue ob_cameBy ob_parent ob_met ob_calls ob_callMany ob_calledOn ob_saved ob_many ob_width ob_numbers ob_moving), (ce_i9080 y ob_world fob_world), (ce_i16 y ob_houses fob_houses), (ce_z16 y ob_byCall fob_byCall), (ce_i10240 y ob_over fob_over), (ce_i10 y ob_row fob_row)] sz) := by
  refine Met.ofW (cc := cX10_rowOf) (maxL := 12) (ret := none) (by decide) rfl ?_
  intro p e s m args below meth c s₁ B hml hv
  obtain ⟨rfl, hsz, hP, hK, hD0⟩ := hv
  have hx := B.exec
  have hb := B.bytes
  have hr := B.returns
  have hw0 : ∀ w ∈ wAll, w.before _ s = true := fun w h => atoms_spec (ws := Cond.code yX10_rowOf cX10_rowOf 12 none :: wAll) B.pre w (List.mem_cons_of_mem _ h)
  have hown : s.vm.findClass RX10 = some m.cls := findClass_of_methodNamed B.named
  subst hsz
  have hD := hD0.self (sz := s.heap.size)
  generalize hAe : va_A [(ce_X10 ob ob_thrown ob_world ob_images ob_hasImage ob_tape ob_taped ob_five ob_size ob_at ob_from ob_token ob_value ob_faultKind ob_faultPlace ob_fresh ob_parts ob_houses ob_houseMany ob_worthOf ob_byCall ob_over ob_bestSet ob_bestOver ob_bestWorth ob_row ob_tenDebts ob_tenMany ob_fewestBy ob_covered ob_queue ob_cameBy ob_parent ob_met ob_calls ob_callMany ob_calledOn ob_saved ob_many ob_width ob_numbers ob_moving), (ce_i9080 y ob_world fob_world), (ce_i16 y ob_houses fob_houses), (ce_z16 y ob_byCall fob_byCall), (ce_i10240 y ob_over fob_over), (ce_i10 y ob_row fob_row)] s.heap.size = A at hD ⊢
  have hA : ∀ q : Nat, s.heap.size ≤ q → A q := fun q h => by rw [← hAe]; exact Or.inr h
  have hS : va_S A s.heap s.heap [] := va_S.rf
  have hP : va_P G vwCl [(ce_X10 ob ob_thrown ob_world ob_images ob_hasImage ob_tape ob_taped ob_five ob_size ob_at ob_from ob_token ob_value ob_faultKind ob_faultPlace ob_fresh ob_parts ob_houses ob_houseMany ob_worthOf ob_byCall ob_over ob_bestSet ob_bestOver ob_bestWorth ob_row ob_tenDebts ob_tenMany ob_fewestBy ob_covered ob_queue ob_cameBy ob_parent ob_met ob_calls ob_callMany ob_calledOn ob_saved ob_many ob_width ob_numbers ob_moving), (ce_i9080 y ob_world fob_world), (ce_i16 y ob_houses fob_houses), (ce_z16 y ob_byCall fob_byCall), (ce_i10240 y ob_over fob_over), (ce_i10 y ob_row fob_row)] s.heap := hP
  have hl := lv_entry ([.ref ob, .int a1, .int a2]) (n := 12) (Nat.le_of_ble_eq_true rfl)
  rw [lg_entry_eq]
  generalize (lg_sl ([.ref ob, .int a1, .int a2]) ++ List.replicate (12 - (lg_sl ([.ref ob, .int a1, .int a2])).length) Slot.unset).toArray = ls at hl ⊢
  have hl : lv_has ls 12 [(0, .ref ob), (1, .int a1), (2, .int a2)] := hl
  refine lv_iload_n hx hb dX10_rowOf_0 rfl (lv_at hl 1 rfl) ?_
  refine lv_istore_n (lv' := [(3, .int a1), (0, .ref ob), (1, .int a1), (2, .int a2)]) hx hb dX10_rowOf_1 rfl hl (by decide) rfl (fun ls hl => ?_)
  refine lv_iconst (v := 0) hx hb dX10_rowOf_2 (by decide) ?_
  refine lv_istore (lv' := [(4, .int 0), (3, .int a1), (0, .ref ob), (1, .int a1), (2, .int a2)]) hx hb dX10_rowOf_3 hl (by decide) rfl (fun ls hl => ?_)
  refine lv_aload_n hx hb dX10_rowOf_5 rfl (lv_at hl 2 rfl) ?_
  refine va_get (D := G) (ci := 10) (v := .int ob_bestSet) (C := RX10) (T := TX10) (N := 41) hx hb hw0 inA_wsX100 hown hK.1 hP 0 rfl rfl 21 (by decide) (hw0 _ m_657) (fun _ h9 => h9) rfl dX10_rowOf_6 ?_
  refine lv_istore (lv' := [(5, .int ob_bestSet), (4, .int 0), (3, .int a1), (0, .ref ob), (1, .int a1), (2, .int a2)]) hx hb dX10_rowOf_9 hl (by decide) rfl (fun ls hl => ?_)
  refine lv_iconst (v := 0) hx hb dX10_rowOf_11 (by decide) ?_
  refine lv_istore (lv' := [(6, .int 0), (5, .int ob_bestSet), (4, .int 0), (3, .int a1), (0, .ref ob), (1, .int a1), (2, .int a2)]) hx hb dX10_rowOf_12 hl (by decide) rfl (fun ls hl => ?_)
  refine loopX (fun n H locs ls st => ∃ (v_1352 : Int32) (v_1353 : Int32) (v_1354 : Int32) (v_1355 : Int32) (f_1356 : Nat → Int32) (f_1357 : Nat → Int32), (v_1353.toInt).toNat = n ∧ ((0 : Int) ≤ v_1352.toInt ∧ v_1352.toInt ≤ 10) ∧ ((0 : Int) ≤ v_1353.toInt ∧ v_1353.toInt ≤ 1023) ∧ ((0 : Int) ≤ v_1354.toInt ∧ v_1354.toInt ≤ 180) ∧ ((0 : Int) ≤ v_1355.toInt ∧ v_1355.toInt ≤ 15) ∧ (∀ i, (-1 : Int) ≤ (f_1356 i).toInt ∧ (f_1356 i).toInt ≤ 180) ∧ (v_1353.toInt.toNat = 0 ∨ FM (snF fob_world fob_byCall a2.toInt) (hsF fob_houses) v_1355.toInt v_1354.toInt v_1353.toInt.toNat ob_bestOver.toInt) ∧ (v_1353.toInt.toNat < 2 ^ ob_houseMany.toInt.toNat) ∧ (v_1352.toInt + (cb 16 v_1353.toInt.toNat : Int) ≤ 10) ∧ st = [] ∧ vPD G A H [(ce_X10 ob ob_thrown ob_world ob_images ob_hasImage ob_tape ob_taped ob_five ob_size ob_at ob_from ob_token ob_value ob_faultKind ob_faultPlace ob_fresh ob_parts ob_houses ob_houseMany ob_worthOf ob_byCall ob_over ob_bestSet ob_bestOver ob_bestWorth ob_row ob_tenDebts ob_tenMany ob_fewestBy ob_covered ob_queue ob_cameBy ob_parent ob_met ob_calls ob_callMany ob_calledOn ob_saved ob_many ob_width ob_numbers ob_moving), (ce_i9080 y ob_world fob_world), (ce_i16 y ob_houses fob_houses), (ce_z16 y ob_byCall fob_byCall), (ce_i10240 y ob_over f_1356), (ce_i10 y ob_row f_1357)] ∧ va_S A s.heap H locs ∧ lv_has ls 12 [(6, .int v_1352), (5, .int v_1353), (4, .int v_1354), (3, .int v_1355), (0, .ref ob), (2, .int a2)]) ?_ (n := (ob_bestSet.toInt).toNat) ⟨0, ob_bestSet, 0, a1, fob_over, fob_row, rfl, (bw (0) (10) (bkc (x := 0) (c := 0) (by decide)) (by decide)), p_ob_bestSet, (bw (0) (180) (bkc (x := 0) (c := 0) (by decide)) (by decide)), p_a1, p_fob_over, (by first | exact hq0 | simpa using hq0), hq1, (by have h9 := cb_10 (x := ob_bestSet.toInt.toNat) (by omega); have h90 : Int32.toInt 0 = 0 := (by decide); omega), rfl, ⟨hP, hD⟩, hS, lv_sub hl [0, 1, 2, 3, 4, 6] rfl⟩
  rintro n ih_1712 H locs ls st ⟨v_1352, v_1353, v_1354, v_1355, f_1356, f_1357, hn_1712, bv_1352, bv_1353, bv_1354, bv_1355, bf_1356, rl1357_0, rl1357_1, rl1357_2, rfl, ⟨hP, hD⟩, hS, hl⟩
  refine lv_iload hx hb dX10_rowOf_14 (lv_at hl 1 rfl) ?_
  refine lv_if_eq (tgt := 197) hx hb dX10_rowOf_16 (by decide) (fun c_1713 => ?_) (fun c_1713 => ?_)
  · skip
    have nc_1713 := nb_eq (0) (0) c_1713 bv_1353 (bkc (x := 0) (c := 0) (by decide)) (by decide)
    exact W.vret hx hb hr (fun t ht hW => ⟨⟨_, rfl, ⟨f_1356, f_1357, bf_1356, rfl⟩, by rw [ht]; exact hP, hD⟩, hS.F ht⟩) hS.2.2 dX10_rowOf_197
  · skip
    have nc_1713 := nb_ne (1) (1023) c_1713 bv_1353 (k := 0) (by decide) (by decide)
    refine lv_iconst (v := (-1)) hx hb dX10_rowOf_19 (by decide) ?_
    refine lv_istore (lv' := [(7, .int (-1)), (6, .int v_1352), (5, .int v_1353), (4, .int v_1354), (3, .int v_1355), (0, .ref ob), (2, .int a2)]) hx hb dX10_rowOf_20 hl (by decide) rfl (fun ls hl => ?_)
    refine lv_iconst (v := 0) hx hb dX10_rowOf_22 (by decide) ?_
    refine lv_istore (lv' := [(8, .int 0), (7, .int (-1)), (6, .int v_1352), (5, .int v_1353), (4, .int v_1354), (3, .int v_1355), (0, .ref ob), (2, .int a2)]) hx hb dX10_rowOf_23 hl (by decide) rfl (fun ls hl => ?_)
    refine lv_iconst (v := 0) hx hb dX10_rowOf_25 (by decide) ?_
    refine lv_istore (lv' := [(9, .int 0), (8, .int 0), (7, .int (-1)), (6, .int v_1352), (5, .int v_1353), (4, .int v_1354), (3, .int v_1355), (0, .ref ob), (2, .int a2)]) hx hb dX10_rowOf_26 hl (by decide) rfl (fun ls hl => ?_)
    refine loopX (fun n H locs ls st => ∃ (v_1822 : Int32) (v_1823 : Int32) (v_1824 : Int32) (f_1825 : Nat → Int32), (10 - v_1822.toInt).toNat = n ∧ ((0 : Int) ≤ v_1822.toInt ∧ v_1822.toInt ≤ 10) ∧ ((0 : Int) ≤ v_1823.toInt ∧ v_1823.toInt ≤ 180) ∧ ((-1 : Int) ≤ v_1824.toInt ∧ v_1824.toInt ≤ 9) ∧ (∀ i, (-1 : Int) ≤ (f_1825 i).toInt ∧ (f_1825 i).toInt ≤ 180) ∧ (nxt (snF fob_world fob_byCall a2.toInt) (hsF fob_houses) v_1355.toInt v_1354.toInt v_1353.toInt.toNat ob_bestOver.toInt ob_houseMany.toInt.toNat v_1822.toInt.toNat v_1824.toInt v_1823.toInt) ∧ st = [] ∧ vPD G A H [(ce_X10 ob ob_thrown ob_world ob_images ob_hasImage ob_tape ob_taped ob_five ob_size ob_at ob_from ob_token ob_value ob_faultKind ob_faultPlace ob_fresh ob_parts ob_houses ob_houseMany ob_worthOf ob_byCall ob_over ob_bestSet ob_bestOver ob_bestWorth ob_row ob_tenDebts ob_tenMany ob_fewestBy ob_covered ob_queue ob_cameBy ob_parent ob_met ob_calls ob_callMany ob_calledOn ob_saved ob_many ob_width ob_numbers ob_moving), (ce_i9080 y ob_world fob_world), (ce_i16 y ob_houses fob_houses), (ce_z16 y ob_byCall fob_byCall), (ce_i10240 y ob_over f_1825), (ce_i10 y ob_row f_1357)] ∧ va_S A s.heap H locs ∧ lv_has ls 12 [(9, .int v_1822), (8, .int v_1823), (7, .int v_1824), (6, .int v_1352), (5, .int v_1353), (4, .int v_1354), (3, .int v_1355), (0, .ref ob), (2, .int a2)]) ?_ (n := (10 - (0 : Int32).toInt).toNat) ⟨0, 0, (-1), f_1356, rfl, (bw (0) (10) (bkc (x := 0) (c := 0) (by decide)) (by decide)), (bw (0) (180) (bkc (x := 0) (c := 0) (by decide)) (by decide)), (bw (-1) (9) (bkc (x := (-1)) (c := -1) (by decide)) (by decide)), bf_1356, (nx_0 (by decide) (by decide)), rfl, ⟨hP, hD⟩, hS, lv_sub hl [0, 1, 2, 3, 4, 5, 6, 7, 8] rfl⟩
    rintro n ih_1946 H locs ls st ⟨v_1822, v_1823, v_1824, f_1825, hn_1946, bv_1822, bv_1823, bv_1824, bf_1825, rl1825_0, rfl, ⟨hP, hD⟩, hS, hl⟩
    refine lv_iload hx hb dX10_rowOf_28 (lv_at hl 0 rfl) ?_
    refine lv_aload_n hx hb dX10_rowOf_30 rfl (lv_at hl 7 rfl) ?_
    refine va_get (D := G) (ci := 10) (v := .int ob_houseMany) (C := RX10) (T := TX10) (N := 41) hx hb hw0 inA_wsX100 hown hK.1 hP 0 rfl rfl 17 (by decide) (hw0 _ m_409) (fun _ h9 => h9) rfl dX10_rowOf_31 ?_
    refine cutW 154 (fun H locs ls st => (0 ≤ v_1824.toInt ∧ v_1824.toInt < (ob_houseMany.toInt.toNat : Int) ∧ v_1353.toInt.toNat.testBit v_1824.toInt.toNat = true ∧ FM (snF fob_world fob_byCall a2.toInt) (hsF fob_houses) (hsF fob_houses v_1824.toInt.toNat) v_1823.toInt (clr v_1353.toInt.toNat v_1824.toInt.toNat) ob_bestOver.toInt) ∧ st = [] ∧ vPD G A H [(ce_X10 ob ob_thrown ob_world ob_images ob_hasImage ob_tape ob_taped ob_five ob_size ob_at ob_from ob_token ob_value ob_faultKind ob_faultPlace ob_fresh ob_parts ob_houses ob_houseMany ob_worthOf ob_byCall ob_over ob_bestSet ob_bestOver ob_bestWorth ob_row ob_tenDebts ob_tenMany ob_fewestBy ob_covered ob_queue ob_cameBy ob_parent ob_met ob_calls ob_callMany ob_calledOn ob_saved ob_many ob_width ob_numbers ob_moving), (ce_i9080 y ob_world fob_world), (ce_i16 y ob_houses fob_houses), (ce_z16 y ob_byCall fob_byCall), (ce_i10240 y ob_over f_1825), (ce_i10 y ob_row f_1357)] ∧ va_S A s.heap H locs ∧ lv_has ls 12 [(8, .int v_1823), (7, .int v_1824), (6, .int v_1352), (5, .int v_1353), (0, .ref ob), (2, .int a2)]) ?_ (fun J_154_2002 => ?_)
    · rintro H locs ls st ⟨rl2002_0, rfl, ⟨hP, hD⟩, hS, hl⟩
      have h_2003 : (0 : Int) ≤ v_1824.toInt ∧ v_1824.toInt ≤ 9 := by have h9 := rl2002_0.1; have h8 := rl2002_0.2.1; omega
      have h_2004 : (0 : Int) ≤ v_1352.toInt ∧ v_1352.toInt ≤ 9 := by have h9 := cb_clr (n := 16) rl2002_0.2.2.1 (by omega); omega
      refine lv_aload_n hx hb dX10_rowOf_154 rfl (lv_at hl 4 rfl) ?_
      refine va_get (D := G) (ci := 10) (v := .ref ob_row) (C := RX10) (T := TX10) (N := 41) hx hb hw0 inA_wsX100 hown hK.1 hP 0 rfl rfl 24 (by decide) (hw0 _ m_524) (fun _ h9 => h9) rfl dX10_rowOf_155 ?_
      refine lv_iload hx hb dX10_rowOf_158 (lv_at hl 2 rfl) ?_
      refine lv_aload_n hx hb dX10_rowOf_160 rfl (lv_at hl 4 rfl) ?_
      refine va_get (D := G) (ci := 10) (v := .ref ob_houses) (C := RX10) (T := TX10) (N := 41) hx hb hw0 inA_wsX100 hown hK.1 hP 0 rfl rfl 16 (by decide) (hw0 _ m_410) (fun _ h9 => h9) rfl dX10_rowOf_161 ?_
      refine lv_iload hx hb dX10_rowOf_164 (lv_at hl 1 rfl) ?_
      refine va_iald hx hb hK.1 hP 2 1 rfl rfl (vi h_2003 (by decide)) dX10_rowOf_166 ?_
      refine lv_topi (fun v_2005 ev_2005 => ?_)
      have bv_2005 : (0 : Int) ≤ v_2005.toInt ∧ v_2005.toInt ≤ 15 := rd_b ev_2005 p_fob_houses
      refine va_iast hx hb hK.1 hP hD hS 5 1 rfl rfl (vi h_2004 (by decide)) dX10_rowOf_167 (fun H locs hP hD hS => ?_)
      generalize hf_2006 : (upd f_1357 (v_1352 : Int32).toNatClampNeg v_2005) = f_2006 at hP hD
      obtain ⟨hP, hD⟩ : vPD G A H [(ce_X10 ob ob_thrown ob_world ob_images ob_hasImage ob_tape ob_taped ob_five ob_size ob_at ob_from ob_token ob_value ob_faultKind ob_faultPlace ob_fresh ob_parts ob_houses ob_houseMany ob_worthOf ob_byCall ob_over ob_bestSet ob_bestOver ob_bestWorth ob_row ob_tenDebts ob_tenMany ob_fewestBy ob_covered ob_queue ob_cameBy ob_parent ob_met ob_calls ob_callMany ob_calledOn ob_saved ob_many ob_width ob_numbers ob_moving), (ce_i9080 y ob_world fob_world), (ce_i16 y ob_houses fob_houses), (ce_z16 y ob_byCall fob_byCall), (ce_i10240 y ob_over f_1825), (ce_i10 y ob_row f_2006)] := ⟨hP, hD⟩
      obtain ⟨v_2007, ev_2007⟩ : ∃ z : Int32, z = v_1352 + 1 := ⟨_, rfl⟩
      have qv_2007 := ba_add ev_2007 h_2004 (bkc (x := 1) (c := 1) (by decide)) (by decide)
      have bv_2007 : (1 : Int) ≤ v_2007.toInt ∧ v_2007.toInt ≤ 10 := bq_add qv_2007 h_2004 (bkc (x := 1) (c := 1) (by decide)) _ _ (by decide)
      have qv_2007 : v_2007.toInt = v_1352.toInt + (1) := qv_2007
      refine lv_iinc (v := v_2007) (lv' := [(6, .int v_2007), (8, .int v_1823), (7, .int v_1824), (5, .int v_1353), (0, .ref ob), (2, .int a2)]) hx hb dX10_rowOf_168 hl (k := 2) rfl (ev_2007.symm) (by decide) rfl (fun ls hl => ?_)
      refine lv_aload_n hx hb dX10_rowOf_171 rfl (lv_at hl 4 rfl) ?_
      refine va_get (D := G) (ci := 10) (v := .ref ob_houses) (C := RX10) (T := TX10) (N := 41) hx hb hw0 inA_wsX100 hown hK.1 hP 0 rfl rfl 16 (by decide) (hw0 _ m_410) (fun _ h9 => h9) rfl dX10_rowOf_172 ?_
      refine lv_iload hx hb dX10_rowOf_175 (lv_at hl 2 rfl) ?_
      refine va_iald hx hb hK.1 hP 2 1 rfl rfl (vi h_2003 (by decide)) dX10_rowOf_177 ?_
      refine lv_topi (fun v_2008 ev_2008 => ?_)
      obtain rfl : v_2005 = v_2008 := (ev_2008.trans (ev_2005.symm)).symm
      refine lv_istore_n (lv' := [(3, .int v_2005), (6, .int v_2007), (8, .int v_1823), (7, .int v_1824), (5, .int v_1353), (0, .ref ob), (2, .int a2)]) hx hb dX10_rowOf_178 rfl hl (by decide) rfl (fun ls hl => ?_)
      refine lv_iload hx hb dX10_rowOf_179 (lv_at hl 2 rfl) ?_
      refine lv_istore (lv' := [(4, .int v_1823), (3, .int v_2005), (6, .int v_2007), (8, .int v_1823), (7, .int v_1824), (5, .int v_1353), (0, .ref ob), (2, .int a2)]) hx hb dX10_rowOf_181 hl (by decide) rfl (fun ls hl => ?_)
      refine lv_iload hx hb dX10_rowOf_183 (lv_at hl 5 rfl) ?_
      refine lv_iconst (v := 1) hx hb dX10_rowOf_185 (by decide) ?_
      refine lv_iload hx hb dX10_rowOf_186 (lv_at hl 4 rfl) ?_
      refine lv_ishl hx hb dX10_rowOf_188 ?_
      refine lv_topi (fun v_2009 ev_2009 => ?_)
      have bv_2009 : (1 : Int) ≤ v_2009.toInt ∧ v_2009.toInt ≤ 512 := ba_shl 0 9 ev_2009 h_2003 (by decide)
      refine lv_iconst (v := (-1)) hx hb dX10_rowOf_189 (by decide) ?_
      refine lv_ixor hx hb dX10_rowOf_190 ?_
      refine lv_topi (fun v_2010 ev_2010 => ?_)
      refine lv_iand hx hb dX10_rowOf_191 ?_
      refine lv_topi (fun v_2011 ev_2011 => ?_)
      have bv_2011 : (0 : Int) ≤ v_2011.toInt ∧ v_2011.toInt ≤ 1023 := ba_andl ev_2011 nc_1713.1 (by decide)
      refine lv_istore (lv' := [(5, .int v_2011), (4, .int v_1823), (3, .int v_2005), (6, .int v_2007), (8, .int v_1823), (7, .int v_1824), (0, .ref ob), (2, .int a2)]) hx hb dX10_rowOf_192 hl (by decide) rfl (fun ls hl => ?_)
      have hCL2 : v_2011.toInt.toNat = clr v_1353.toInt.toNat v_1824.toInt.toNat := clr_nat ev_2011 ev_2010 ev_2009 (by omega) (by omega)
      refine lv_goto (tgt := 14) hx hb dX10_rowOf_194 (by decide) ?_
      exact ih_1712 _ (by have h9 := clr_lt rl2002_0.2.2.1; rw [← hCL2] at h9; omega) _ _ _ _ ⟨v_2007, v_2011, v_1823, v_2005, f_1825, f_2006, rfl, (bw (0) (10) bv_2007 (by decide)), bv_2011, bv_1823, bv_2005, bf_1825, (Or.inr (by rw [hCL2, ← (show hsF fob_houses v_1824.toInt.toNat = v_2005.toInt from ld_n ev_2005 (by omega))]; exact rl2002_0.2.2.2)), (by have h9 := clr_le v_1353.toInt.toNat v_1824.toInt.toNat; rw [hCL2]; exact Nat.lt_of_le_of_lt h9 rl1357_1), (by have h9 := cb_clr (n := 16) rl2002_0.2.2.1 (by omega); rw [← hCL2] at h9; omega), rfl, ⟨hP, hD⟩, hS, lv_sub hl [3, 0, 1, 2, 6, 7] rfl⟩
    · skip
      refine lv_icmp_ge (tgt := 154) hx hb dX10_rowOf_34 (by decide) (fun c_2012 => ?_) (fun c_2012 => ?_)
      · skip
        have nc_2012 := nb_le (10) (0) c_2012 p_ob_houseMany bv_1822 (by decide)
        exact J_154_2002 _ _ _ _ ⟨(nx_end rl1825_0 (by omega) (rl1357_0.resolve_left (by omega)) (by omega) (by omega) (fun i hi => lt_bit _ _ rl1357_1 i hi)), rfl, ⟨hP, hD⟩, hS, lv_sub hl [1, 2, 3, 4, 7, 8] rfl⟩
      · skip
        have nc_2012 := nb_nle (9) (1) c_2012 bv_1822 p_ob_houseMany (by decide)
        refine lv_iload hx hb dX10_rowOf_37 (lv_at hl 2 rfl) ?_
        refine lv_iconst (v := (-1)) hx hb dX10_rowOf_39 (by decide) ?_
        refine lv_icmp_ne (tgt := 154) hx hb dX10_rowOf_40 (by decide) (fun c_2013 => ?_) (fun c_2013 => ?_)
        · skip
          have nc_2013 := nb_ne (0) (9) c_2013 bv_1824 (k := -1) (by decide) (by decide)
          exact J_154_2002 _ _ _ _ ⟨(nx_end rl1825_0 (by omega) (rl1357_0.resolve_left (by omega)) (by omega) (by omega) (fun i hi => lt_bit _ _ rl1357_1 i hi)), rfl, ⟨hP, hD⟩, hS, lv_sub hl [1, 2, 3, 4, 7, 8] rfl⟩
        · skip
          have nc_2013 := nb_eq (-1) (-1) c_2013 bv_1824 (bkc (x := (-1)) (c := -1) (by decide)) (by decide)
          refine lv_iload hx hb dX10_rowOf_43 (lv_at hl 4 rfl) ?_
          refine lv_iload hx hb dX10_rowOf_45 (lv_at hl 0 rfl) ?_
          refine cutW 148 (fun H locs ls st => ∃ (v_2039 : Int32) (v_2040 : Int32) (f_2041 : Nat → Int32), ((0 : Int) ≤ v_2039.toInt ∧ v_2039.toInt ≤ 180) ∧ ((-1 : Int) ≤ v_2040.toInt ∧ v_2040.toInt ≤ 9) ∧ (∀ i, (-1 : Int) ≤ (f_2041 i).toInt ∧ (f_2041 i).toInt ≤ 180) ∧ (nxt (snF fob_world fob_byCall a2.toInt) (hsF fob_houses) v_1355.toInt v_1354.toInt v_1353.toInt.toNat ob_bestOver.toInt ob_houseMany.toInt.toNat (v_1822.toInt.toNat + 1) v_2040.toInt v_2039.toInt) ∧ st = [] ∧ vPD G A H [(ce_X10 ob ob_thrown ob_world ob_images ob_hasImage ob_tape ob_taped ob_five ob_size ob_at ob_from ob_token ob_value ob_faultKind ob_faultPlace ob_fresh ob_parts ob_houses ob_houseMany ob_worthOf ob_byCall ob_over ob_bestSet ob_bestOver ob_bestWorth ob_row ob_tenDebts ob_tenMany ob_fewestBy ob_covered ob_queue ob_cameBy ob_parent ob_met ob_calls ob_callMany ob_calledOn ob_saved ob_many ob_width ob_numbers ob_moving), (ce_i9080 y ob_world fob_world), (ce_i16 y ob_houses fob_houses), (ce_z16 y ob_byCall fob_byCall), (ce_i10240 y ob_over f_2041), (ce_i10 y ob_row f_1357)] ∧ va_S A s.heap H locs ∧ lv_has ls 12 [(9, .int v_1822), (8, .int v_2039), (7, .int v_2040), (6, .int v_1352), (5, .int v_1353), (4, .int v_1354), (3, .int v_1355), (0, .ref ob), (2, .int a2)]) ?_ (fun J_148_2041 => ?_)
          · rintro H locs ls st ⟨v_2039, v_2040, f_2041, bv_2039, bv_2040, bf_2041, rl2041_0, rfl, ⟨hP, hD⟩, hS, hl⟩
            obtain ⟨v_2042, ev_2042⟩ : ∃ z : Int32, z = v_1822 + 1 := ⟨_, rfl⟩
            have qv_2042 := ba_add ev_2042 nc_2012.1 (bkc (x := 1) (c := 1) (by decide)) (by decide)
            have bv_2042 : (1 : Int) ≤ v_2042.toInt ∧ v_2042.toInt ≤ 10 := bq_add qv_2042 nc_2012.1 (bkc (x := 1) (c := 1) (by decide)) _ _ (by decide)
            have qv_2042 : v_2042.toInt = v_1822.toInt + (1) := qv_2042
            refine lv_iinc (v := v_2042) (lv' := [(9, .int v_2042), (8, .int v_2039), (7, .int v_2040), (6, .int v_1352), (5, .int v_1353), (4, .int v_1354), (3, .int v_1355), (0, .ref ob), (2, .int a2)]) hx hb dX10_rowOf_148 hl (k := 0) rfl (ev_2042.symm) (by decide) rfl (fun ls hl => ?_)
            refine lv_goto (tgt := 28) hx hb dX10_rowOf_151 (by decide) ?_
            exact ih_1946 _ (ml_inc (hi := 10) hn_1946 qv_2042 (by decide) ((bw (0) (10) bv_2042 (by decide))).2) _ _ _ _ ⟨v_2042, v_2039, v_2040, f_2041, rfl, (bw (0) (10) bv_2042 (by decide)), bv_2039, bv_2040, bf_2041, (nx_eq rl2041_0 (by omega)), rfl, ⟨hP, hD⟩, hS, lv_sub hl [0, 1, 2, 3, 4, 5, 6, 7, 8] rfl⟩
          · skip
            refine cSim (As := [.int v_1353, .int v_1822]) (rest := []) ⟨hx, hb, hml, hown, hw0⟩ hA hK hP hD hS [] (sholdB l G y _ v_1353 v_1822 (bw (0) (65535) nc_1713.1 (by decide)) (bw (0) (15) nc_2012.1 (by decide))) rfl ⟨(callB_of 2 hw0 (gA m_512) rfl rfl rfl (hw0 _ m_41) (hw0 _ m_353) cb_X10_holds ⟨Nat.le_of_ble_eq_true rfl, Nat.le_of_ble_eq_true rfl⟩), (hw0 _ m_354)⟩ rfl hl.1 (Nat.le_of_ble_eq_true rfl) dX10_rowOf_47 ⟨Nat.le_of_ble_eq_true rfl, Nat.le_of_ble_eq_true rfl⟩ (fun r_2043 w_2043 H locs hw_2043 hP hD hS => ?_)
            rcases hw_2043 with ⟨h_2044, rfl, rfl⟩ | ⟨h_2045, rfl, rfl⟩
            · skip
              obtain ⟨hP, hD⟩ : vPD G A H [(ce_X10 ob ob_thrown ob_world ob_images ob_hasImage ob_tape ob_taped ob_five ob_size ob_at ob_from ob_token ob_value ob_faultKind ob_faultPlace ob_fresh ob_parts ob_houses ob_houseMany ob_worthOf ob_byCall ob_over ob_bestSet ob_bestOver ob_bestWorth ob_row ob_tenDebts ob_tenMany ob_fewestBy ob_covered ob_queue ob_cameBy ob_parent ob_met ob_calls ob_callMany ob_calledOn ob_saved ob_many ob_width ob_numbers ob_moving), (ce_i9080 y ob_world fob_world), (ce_i16 y ob_houses fob_houses), (ce_z16 y ob_byCall fob_byCall), (ce_i10240 y ob_over f_1825), (ce_i10 y ob_row f_1357)] := ⟨hP, hD⟩
              refine lv_if_ne (tgt := 56) hx hb dX10_rowOf_50 (by decide) (fun c9 => absurd (by decide) c9) (fun _ => ?_)
              refine lv_goto (tgt := 148) hx hb dX10_rowOf_53 (by decide) ?_
              exact J_148_2041 _ _ _ _ ⟨v_1823, v_1824, f_1825, bv_1823, (bw (-1) (9) nc_2013.1 (by decide)), bf_1825, (nx_no rl1825_0 (by omega) rfl (fun w => absurd w (by rw [bq_f h_2044]; decide))), rfl, ⟨hP, hD⟩, hS, lv_sub hl [0, 1, 2, 3, 4, 5, 6, 7, 8] rfl⟩
            · skip
              obtain ⟨hP, hD⟩ : vPD G A H [(ce_X10 ob ob_thrown ob_world ob_images ob_hasImage ob_tape ob_taped ob_five ob_size ob_at ob_from ob_token ob_value ob_faultKind ob_faultPlace ob_fresh ob_parts ob_houses ob_houseMany ob_worthOf ob_byCall ob_over ob_bestSet ob_bestOver ob_bestWorth ob_row ob_tenDebts ob_tenMany ob_fewestBy ob_covered ob_queue ob_cameBy ob_parent ob_met ob_calls ob_callMany ob_calledOn ob_saved ob_many ob_width ob_numbers ob_moving), (ce_i9080 y ob_world fob_world), (ce_i16 y ob_houses fob_houses), (ce_z16 y ob_byCall fob_byCall), (ce_i10240 y ob_over f_1825), (ce_i10 y ob_row f_1357)] := ⟨hP, hD⟩
              refine lv_if_ne (tgt := 56) hx hb dX10_rowOf_50 (by decide) (fun _ => ?_) (fun c9 => absurd c9 (by decide))
              have hTB : v_1353.toInt.toNat.testBit v_1822.toInt.toNat = true := bq_t h_2045
              refine lv_aload_n hx hb dX10_rowOf_56 rfl (lv_at hl 7 rfl) ?_
              refine lv_iload_n hx hb dX10_rowOf_57 rfl (lv_at hl 6 rfl) ?_
              refine lv_iload hx hb dX10_rowOf_58 (lv_at hl 5 rfl) ?_
              refine lv_aload_n hx hb dX10_rowOf_60 rfl (lv_at hl 7 rfl) ?_
              refine va_get (D := G) (ci := 10) (v := .ref ob_houses) (C := RX10) (T := TX10) (N := 41) hx hb hw0 inA_wsX100 hown hK.1 hP 0 rfl rfl 16 (by decide) (hw0 _ m_410) (fun _ h9 => h9) rfl dX10_rowOf_61 ?_
              refine lv_iload hx hb dX10_rowOf_64 (lv_at hl 0 rfl) ?_
              refine va_iald hx hb hK.1 hP 2 1 rfl rfl (vi nc_2012.1 (by decide)) dX10_rowOf_66 ?_
              refine lv_topi (fun v_2046 ev_2046 => ?_)
              have bv_2046 : (0 : Int) ≤ v_2046.toInt ∧ v_2046.toInt ≤ 15 := rd_b ev_2046 p_fob_houses
              refine lv_iload_n hx hb dX10_rowOf_67 rfl (lv_at hl 8 rfl) ?_
              refine cVim (As := [.int v_1355, .int v_1354, .int v_2046, .int a2]) (rest := []) ⟨hx, hb, hml, hown, hw0⟩ hA hK hP hD hS [true, true, false, true] (fseen l G y _ ob v_1355 v_1354 v_2046 a2 ob_thrown ob_world ob_images ob_hasImage ob_tape ob_taped ob_five ob_size ob_at ob_from ob_token ob_value ob_faultKind ob_faultPlace ob_fresh ob_parts ob_houses ob_houseMany ob_worthOf ob_byCall ob_over ob_bestSet ob_bestOver ob_bestWorth ob_row ob_tenDebts ob_tenMany ob_fewestBy ob_covered ob_queue ob_cameBy ob_parent ob_met ob_calls ob_callMany ob_calledOn ob_saved ob_many ob_width ob_numbers ob_moving fob_world fob_byCall p_fob_world p_ob_taped p_ob_size p_ob_at p_ob_from p_ob_token p_ob_value p_ob_faultKind (bw (0) (10) nc_2012.2.1 (by decide)) p_fob_byCall p_ob_bestSet p_ob_bestOver p_ob_tenMany p_ob_callMany bv_1355 bv_1354 bv_2046 (bw (0) (405) p_a2 (by decide))) rfl ⟨(callB_of 4 hw0 (gA m_670) rfl rfl rfl (hw0 _ m_41) (hw0 _ m_507) cb_X10_seen ⟨Nat.le_of_ble_eq_true rfl, Nat.le_of_ble_eq_true rfl⟩), (hw0 _ m_508), (hw0 _ m_509)⟩ (ci := 10) (q := (RX10, TX10, 41)) rfl rfl rfl hl.1 (Nat.le_of_ble_eq_true rfl) dX10_rowOf_68 ⟨Nat.le_of_ble_eq_true rfl, Nat.le_of_ble_eq_true rfl⟩ (fun r_2047 w_2047 H locs hw_2047 hP hD hS => ?_)
              obtain ⟨v_2048, bv_2048, h_2049, er_2047, rfl⟩ := hw_2047
              subst r_2047
              obtain ⟨hP, hD⟩ : vPD G A H [(ce_X10 ob ob_thrown ob_world ob_images ob_hasImage ob_tape ob_taped ob_five ob_size ob_at ob_from ob_token ob_value ob_faultKind ob_faultPlace ob_fresh ob_parts ob_houses ob_houseMany ob_worthOf ob_byCall ob_over ob_bestSet ob_bestOver ob_bestWorth ob_row ob_tenDebts ob_tenMany ob_fewestBy ob_covered ob_queue ob_cameBy ob_parent ob_met ob_calls ob_callMany ob_calledOn ob_saved ob_many ob_width ob_numbers ob_moving), (ce_i9080 y ob_world fob_world), (ce_i16 y ob_houses fob_houses), (ce_z16 y ob_byCall fob_byCall), (ce_i10240 y ob_over f_1825), (ce_i10 y ob_row f_1357)] := ⟨hP, hD⟩
              refine lv_istore (lv' := [(10, .int v_2048), (9, .int v_1822), (8, .int v_1823), (7, .int v_1824), (6, .int v_1352), (5, .int v_1353), (4, .int v_1354), (3, .int v_1355), (0, .ref ob), (2, .int a2)]) hx hb dX10_rowOf_71 hl (by decide) rfl (fun ls hl => ?_)
              refine lv_iload hx hb dX10_rowOf_73 (lv_at hl 5 rfl) ?_
              refine lv_iconst (v := 1) hx hb dX10_rowOf_75 (by decide) ?_
              refine lv_iload hx hb dX10_rowOf_76 (lv_at hl 1 rfl) ?_
              refine lv_ishl hx hb dX10_rowOf_78 ?_
              refine lv_topi (fun v_2050 ev_2050 => ?_)
              have bv_2050 : (1 : Int) ≤ v_2050.toInt ∧ v_2050.toInt ≤ 512 := ba_shl 0 9 ev_2050 nc_2012.1 (by decide)
              refine lv_iconst (v := (-1)) hx hb dX10_rowOf_79 (by decide) ?_
              refine lv_ixor hx hb dX10_rowOf_80 ?_
              refine lv_topi (fun v_2051 ev_2051 => ?_)
              refine lv_iand hx hb dX10_rowOf_81 ?_
              refine lv_topi (fun v_2052 ev_2052 => ?_)
              have bv_2052 : (0 : Int) ≤ v_2052.toInt ∧ v_2052.toInt ≤ 1023 := ba_andl ev_2052 nc_1713.1 (by decide)
              refine lv_istore (lv' := [(11, .int v_2052), (10, .int v_2048), (9, .int v_1822), (8, .int v_1823), (7, .int v_1824), (6, .int v_1352), (5, .int v_1353), (4, .int v_1354), (3, .int v_1355), (0, .ref ob), (2, .int a2)]) hx hb dX10_rowOf_82 hl (by decide) rfl (fun ls hl => ?_)
              have hCL : v_2052.toInt.toNat = clr v_1353.toInt.toNat v_1822.toInt.toNat := clr_nat ev_2052 ev_2051 ev_2050 (by omega) (by omega)
              refine lv_iload hx hb dX10_rowOf_84 (lv_at hl 1 rfl) ?_
              refine lv_iconst (v := (-1)) hx hb dX10_rowOf_86 (by decide) ?_
              refine lv_icmp_ne (tgt := 93) hx hb dX10_rowOf_87 (by decide) (fun c_2053 => ?_) (fun c_2053 => ?_)
              · skip
                have nc_2053 := nb_ne (0) (180) c_2053 bv_2048 (k := -1) (by decide) (by decide)
                refine lv_iload hx hb dX10_rowOf_93 (lv_at hl 0 rfl) ?_
                refine lv_if_eq (tgt := 114) hx hb dX10_rowOf_95 (by decide) (fun c_2054 => ?_) (fun c_2054 => ?_)
                · skip
                  have nc_2054 := nb_eq (0) (0) c_2054 bv_2052 (bkc (x := 0) (c := 0) (by decide)) (by decide)
                  refine lv_iload hx hb dX10_rowOf_114 (lv_at hl 0 rfl) ?_
                  refine cutW 130 (fun H locs ls st => (gd (snF fob_world fob_byCall a2.toInt) (hsF fob_houses) v_1355.toInt v_1354.toInt v_1353.toInt.toNat ob_bestOver.toInt v_1822.toInt.toNat ↔ v_2048.toInt = ob_bestOver.toInt) ∧ st = [.int v_2048] ∧ vPD G A H [(ce_X10 ob ob_thrown ob_world ob_images ob_hasImage ob_tape ob_taped ob_five ob_size ob_at ob_from ob_token ob_value ob_faultKind ob_faultPlace ob_fresh ob_parts ob_houses ob_houseMany ob_worthOf ob_byCall ob_over ob_bestSet ob_bestOver ob_bestWorth ob_row ob_tenDebts ob_tenMany ob_fewestBy ob_covered ob_queue ob_cameBy ob_parent ob_met ob_calls ob_callMany ob_calledOn ob_saved ob_many ob_width ob_numbers ob_moving), (ce_i9080 y ob_world fob_world), (ce_i16 y ob_houses fob_houses), (ce_z16 y ob_byCall fob_byCall), (ce_i10240 y ob_over f_1825), (ce_i10 y ob_row f_1357)] ∧ va_S A s.heap H locs ∧ lv_has ls 12 [(10, .int v_2048), (9, .int v_1822), (8, .int v_1823), (7, .int v_1824), (6, .int v_1352), (5, .int v_1353), (4, .int v_1354), (3, .int v_1355), (0, .ref ob), (2, .int a2)]) ?_ (fun J_130_2054 => ?_)
                  · rintro H locs ls st ⟨rl2054_0, rfl, ⟨hP, hD⟩, hS, hl⟩
                    refine lv_aload_n hx hb dX10_rowOf_130 rfl (lv_at hl 8 rfl) ?_
                    refine va_get (D := G) (ci := 10) (v := .int ob_bestOver) (C := RX10) (T := TX10) (N := 41) hx hb hw0 inA_wsX100 hown hK.1 hP 0 rfl rfl 22 (by decide) (hw0 _ m_583) (fun _ h9 => h9) rfl dX10_rowOf_131 ?_
                    refine lv_icmp_eq (tgt := 140) hx hb dX10_rowOf_134 (by decide) (fun c_2055 => ?_) (fun c_2055 => ?_)
                    · skip
                      have nc_2055 := nb_eq (0) (180) c_2055 nc_2053.1 p_ob_bestOver (by decide)
                      refine lv_iload hx hb dX10_rowOf_140 (lv_at hl 1 rfl) ?_
                      refine lv_istore (lv' := [(7, .int v_1822), (10, .int v_2048), (9, .int v_1822), (8, .int v_1823), (6, .int v_1352), (5, .int v_1353), (4, .int v_1354), (3, .int v_1355), (0, .ref ob), (2, .int a2)]) hx hb dX10_rowOf_142 hl (by decide) rfl (fun ls hl => ?_)
                      refine lv_iload hx hb dX10_rowOf_144 (lv_at hl 1 rfl) ?_
                      refine lv_istore (lv' := [(8, .int v_2048), (7, .int v_1822), (10, .int v_2048), (9, .int v_1822), (6, .int v_1352), (5, .int v_1353), (4, .int v_1354), (3, .int v_1355), (0, .ref ob), (2, .int a2)]) hx hb dX10_rowOf_146 hl (by decide) rfl (fun ls hl => ?_)
                      exact J_148_2041 _ _ _ _ ⟨v_2048, v_1822, f_1825, nc_2055.1, (bw (-1) (9) nc_2012.1 (by decide)), bf_1825, (nx_yes (l := v_1822.toInt.toNat) (by omega) (by omega) hTB (rl2054_0.mpr (by omega)) (show v_2048.toInt = snF fob_world fob_byCall a2.toInt v_1355.toInt v_1354.toInt (hsF fob_houses v_1822.toInt.toNat) from by rw [(show hsF fob_houses v_1822.toInt.toNat = v_2046.toInt from ld_n ev_2046 (by omega))]; exact h_2049)), rfl, ⟨hP, hD⟩, hS, lv_sub hl [3, 0, 1, 4, 5, 6, 7, 8, 9] rfl⟩
                    · skip
                      have nc_2055 : v_2048.toInt ≠ ob_bestOver.toInt := fun h9 => c_2055 (Int32.toInt_inj.mp h9)
                      refine lv_goto (tgt := 148) hx hb dX10_rowOf_137 (by decide) ?_
                      exact J_148_2041 _ _ _ _ ⟨v_1823, v_1824, f_1825, bv_1823, (bw (-1) (9) nc_2013.1 (by decide)), bf_1825, (nx_no rl1825_0 (by omega) rfl (fun _ w => nc_2055 (rl2054_0.mp w))), rfl, ⟨hP, hD⟩, hS, lv_sub hl [1, 2, 3, 4, 5, 6, 7, 8, 9] rfl⟩
                  · skip
                    refine lv_if_ne (tgt := 124) hx hb dX10_rowOf_116 (by decide) (fun c9 => absurd (dc_eq nc_2054.1 (bkc (x := 0) (c := 0) (by decide))) c9) (fun _ => ?_)
                    refine lv_iload hx hb dX10_rowOf_119 (lv_at hl 1 rfl) ?_
                    refine lv_goto (tgt := 130) hx hb dX10_rowOf_121 (by decide) ?_
                    exact J_130_2054 _ _ _ _ ⟨(by rw [(show v_2048.toInt = snF fob_world fob_byCall a2.toInt v_1355.toInt v_1354.toInt (hsF fob_houses v_1822.toInt.toNat) from by rw [(show hsF fob_houses v_1822.toInt.toNat = v_2046.toInt from ld_n ev_2046 (by omega))]; exact h_2049)]; exact gd_0 (by rw [← hCL, c_2054]; decide) (by rw [← (show v_2048.toInt = snF fob_world fob_byCall a2.toInt v_1355.toInt v_1354.toInt (hsF fob_houses v_1822.toInt.toNat) from by rw [(show hsF fob_houses v_1822.toInt.toNat = v_2046.toInt from ld_n ev_2046 (by omega))]; exact h_2049)]; omega)), rfl, ⟨hP, hD⟩, hS, lv_sub hl [1, 2, 3, 4, 5, 6, 7, 8, 9, 10] rfl⟩
                · skip
                  have nc_2054 := nb_ne (1) (1023) c_2054 bv_2052 (k := 0) (by decide) (by decide)
                  refine lv_aload_n hx hb dX10_rowOf_98 rfl (lv_at hl 9 rfl) ?_
                  refine lv_aload_n hx hb dX10_rowOf_99 rfl (lv_at hl 9 rfl) ?_
                  refine va_get (D := G) (ci := 10) (v := .ref ob_houses) (C := RX10) (T := TX10) (N := 41) hx hb hw0 inA_wsX100 hown hK.1 hP 0 rfl rfl 16 (by decide) (hw0 _ m_410) (fun _ h9 => h9) rfl dX10_rowOf_100 ?_
                  refine lv_iload hx hb dX10_rowOf_103 (lv_at hl 2 rfl) ?_
                  refine va_iald hx hb hK.1 hP 2 1 rfl rfl (vi nc_2012.1 (by decide)) dX10_rowOf_105 ?_
                  refine lv_topi (fun v_2056 ev_2056 => ?_)
                  obtain rfl : v_2046 = v_2056 := (ev_2056.trans (ev_2046.symm)).symm
                  refine lv_iload hx hb dX10_rowOf_106 (lv_at hl 1 rfl) ?_
                  refine lv_iload hx hb dX10_rowOf_108 (lv_at hl 0 rfl) ?_
                  refine lv_iload_n hx hb dX10_rowOf_110 rfl (lv_at hl 10 rfl) ?_
                  refine cVvm (As := [.int v_2046, .int v_2048, .int v_2052, .int a2]) (rest := []) ⟨hx, hb, hml, hown, hw0⟩ hA hK hP hD hS [true, true, true, true, true] (fgoes l G y _ ob v_2046 v_2048 v_2052 a2 ob_thrown ob_world ob_images ob_hasImage ob_tape ob_taped ob_five ob_size ob_at ob_from ob_token ob_value ob_faultKind ob_faultPlace ob_fresh ob_parts ob_houses ob_houseMany ob_worthOf ob_byCall ob_over ob_bestSet ob_bestOver ob_bestWorth ob_row ob_tenDebts ob_tenMany ob_fewestBy ob_covered ob_queue ob_cameBy ob_parent ob_met ob_calls ob_callMany ob_calledOn ob_saved ob_many ob_width ob_numbers ob_moving fob_world fob_houses fob_byCall f_1825 p_fob_world p_ob_taped p_ob_size p_ob_at p_ob_from p_ob_token p_ob_value p_ob_faultKind p_fob_houses (bw (0) (10) nc_2012.2.1 (by decide)) p_fob_byCall bf_1825 p_ob_bestSet p_ob_bestOver p_ob_tenMany p_ob_callMany bv_2046 nc_2053.1 (bw (0) (1023) nc_2054.1 (by decide)) (bw (0) (405) p_a2 (by decide))) rfl ⟨(callB_of 4 hw0 (gA m_505) rfl rfl rfl (hw0 _ m_41) (hw0 _ m_467) cb_X10_goesThrough ⟨Nat.le_of_ble_eq_true rfl, Nat.le_of_ble_eq_true rfl⟩), (hw0 _ m_468), (hw0 _ m_469)⟩ (ci := 10) (q := (RX10, TX10, 41)) rfl rfl rfl hl.1 (Nat.le_of_ble_eq_true rfl) dX10_rowOf_111 ⟨Nat.le_of_ble_eq_true rfl, Nat.le_of_ble_eq_true rfl⟩ (fun w_2057 H locs hw_2057 hP hD hS => ?_)
                  obtain ⟨f_2058, bf_2058, h_2059, rfl⟩ := hw_2057
                  obtain ⟨hP, hD⟩ : vPD G A H [(ce_X10 ob ob_thrown ob_world ob_images ob_hasImage ob_tape ob_taped ob_five ob_size ob_at ob_from ob_token ob_value ob_faultKind ob_faultPlace ob_fresh ob_parts ob_houses ob_houseMany ob_worthOf ob_byCall ob_over ob_bestSet ob_bestOver ob_bestWorth ob_row ob_tenDebts ob_tenMany ob_fewestBy ob_covered ob_queue ob_cameBy ob_parent ob_met ob_calls ob_callMany ob_calledOn ob_saved ob_many ob_width ob_numbers ob_moving), (ce_i9080 y ob_world fob_world), (ce_i16 y ob_houses fob_houses), (ce_z16 y ob_byCall fob_byCall), (ce_i10240 y ob_over f_2058), (ce_i10 y ob_row f_1357)] := ⟨hP, hD⟩
                  refine lv_iload hx hb dX10_rowOf_114 (lv_at hl 0 rfl) ?_
                  refine cutW 130 (fun H locs ls st => ∃ (v_2063 : Int32), ((-1 : Int) ≤ v_2063.toInt ∧ v_2063.toInt ≤ 180) ∧ (gd (snF fob_world fob_byCall a2.toInt) (hsF fob_houses) v_1355.toInt v_1354.toInt v_1353.toInt.toNat ob_bestOver.toInt v_1822.toInt.toNat ↔ v_2063.toInt = ob_bestOver.toInt) ∧ st = [.int v_2063] ∧ vPD G A H [(ce_X10 ob ob_thrown ob_world ob_images ob_hasImage ob_tape ob_taped ob_five ob_size ob_at ob_from ob_token ob_value ob_faultKind ob_faultPlace ob_fresh ob_parts ob_houses ob_houseMany ob_worthOf ob_byCall ob_over ob_bestSet ob_bestOver ob_bestWorth ob_row ob_tenDebts ob_tenMany ob_fewestBy ob_covered ob_queue ob_cameBy ob_parent ob_met ob_calls ob_callMany ob_calledOn ob_saved ob_many ob_width ob_numbers ob_moving), (ce_i9080 y ob_world fob_world), (ce_i16 y ob_houses fob_houses), (ce_z16 y ob_byCall fob_byCall), (ce_i10240 y ob_over f_2058), (ce_i10 y ob_row f_1357)] ∧ va_S A s.heap H locs ∧ lv_has ls 12 [(10, .int v_2048), (9, .int v_1822), (8, .int v_1823), (7, .int v_1824), (6, .int v_1352), (5, .int v_1353), (4, .int v_1354), (3, .int v_1355), (0, .ref ob), (2, .int a2)]) ?_ (fun J_130_2063 => ?_)
                  · rintro H locs ls st ⟨v_2063, bv_2063, rl2063_0, rfl, ⟨hP, hD⟩, hS, hl⟩
                    refine lv_aload_n hx hb dX10_rowOf_130 rfl (lv_at hl 8 rfl) ?_
                    refine va_get (D := G) (ci := 10) (v := .int ob_bestOver) (C := RX10) (T := TX10) (N := 41) hx hb hw0 inA_wsX100 hown hK.1 hP 0 rfl rfl 22 (by decide) (hw0 _ m_583) (fun _ h9 => h9) rfl dX10_rowOf_131 ?_
                    refine lv_icmp_eq (tgt := 140) hx hb dX10_rowOf_134 (by decide) (fun c_2064 => ?_) (fun c_2064 => ?_)
                    · skip
                      have nc_2064 := nb_eq (-1) (180) c_2064 bv_2063 p_ob_bestOver (by decide)
                      refine lv_iload hx hb dX10_rowOf_140 (lv_at hl 1 rfl) ?_
                      refine lv_istore (lv' := [(7, .int v_1822), (10, .int v_2048), (9, .int v_1822), (8, .int v_1823), (6, .int v_1352), (5, .int v_1353), (4, .int v_1354), (3, .int v_1355), (0, .ref ob), (2, .int a2)]) hx hb dX10_rowOf_142 hl (by decide) rfl (fun ls hl => ?_)
                      refine lv_iload hx hb dX10_rowOf_144 (lv_at hl 1 rfl) ?_
                      refine lv_istore (lv' := [(8, .int v_2048), (7, .int v_1822), (10, .int v_2048), (9, .int v_1822), (6, .int v_1352), (5, .int v_1353), (4, .int v_1354), (3, .int v_1355), (0, .ref ob), (2, .int a2)]) hx hb dX10_rowOf_146 hl (by decide) rfl (fun ls hl => ?_)
                      exact J_148_2041 _ _ _ _ ⟨v_2048, v_1822, f_2058, nc_2053.1, (bw (-1) (9) nc_2012.1 (by decide)), bf_2058, (nx_yes (l := v_1822.toInt.toNat) (by omega) (by omega) hTB (rl2063_0.mpr (by omega)) (show v_2048.toInt = snF fob_world fob_byCall a2.toInt v_1355.toInt v_1354.toInt (hsF fob_houses v_1822.toInt.toNat) from by rw [(show hsF fob_houses v_1822.toInt.toNat = v_2046.toInt from ld_n ev_2046 (by omega))]; exact h_2049)), rfl, ⟨hP, hD⟩, hS, lv_sub hl [3, 0, 1, 4, 5, 6, 7, 8, 9] rfl⟩
                    · skip
                      have nc_2064 : v_2063.toInt ≠ ob_bestOver.toInt := fun h9 => c_2064 (Int32.toInt_inj.mp h9)
                      refine lv_goto (tgt := 148) hx hb dX10_rowOf_137 (by decide) ?_
                      exact J_148_2041 _ _ _ _ ⟨v_1823, v_1824, f_2058, bv_1823, (bw (-1) (9) nc_2013.1 (by decide)), bf_2058, (nx_no rl1825_0 (by omega) rfl (fun _ w => nc_2064 (rl2063_0.mp w))), rfl, ⟨hP, hD⟩, hS, lv_sub hl [1, 2, 3, 4, 5, 6, 7, 8, 9] rfl⟩
                  · skip
                    refine lv_if_ne (tgt := 124) hx hb dX10_rowOf_116 (by decide) (fun _ => ?_) (fun c9 => absurd c9 (dc_neq nc_2054.1 (bkc (x := 0) (c := 0) (by decide)) (by decide)))
                    refine lv_aload_n hx hb dX10_rowOf_124 rfl (lv_at hl 9 rfl) ?_
                    refine lv_iload hx hb dX10_rowOf_125 (lv_at hl 0 rfl) ?_
                    refine cVim (As := [.int v_2052]) (rest := []) ⟨hx, hb, hml, hown, hw0⟩ hA hK hP hD hS [true, false, false, false, true] (foverOf l G y _ ob v_2052 ob_thrown ob_world ob_images ob_hasImage ob_tape ob_taped ob_five ob_size ob_at ob_from ob_token ob_value ob_faultKind ob_faultPlace ob_fresh ob_parts ob_houses ob_houseMany ob_worthOf ob_byCall ob_over ob_bestSet ob_bestOver ob_bestWorth ob_row ob_tenDebts ob_tenMany ob_fewestBy ob_covered ob_queue ob_cameBy ob_parent ob_met ob_calls ob_callMany ob_calledOn ob_saved ob_many ob_width ob_numbers ob_moving f_2058 p_ob_taped p_ob_size p_ob_at p_ob_from p_ob_token p_ob_value p_ob_faultKind (bw (0) (10) nc_2012.2.1 (by decide)) bf_2058 p_ob_bestSet p_ob_bestOver p_ob_tenMany p_ob_callMany (bw (0) (1023) nc_2054.1 (by decide))) rfl ⟨(callB_of 1 hw0 (gA m_584) rfl rfl rfl (hw0 _ m_41) (hw0 _ m_471) cb_X10_overOf ⟨Nat.le_of_ble_eq_true rfl, Nat.le_of_ble_eq_true rfl⟩), (hw0 _ m_472), (hw0 _ m_473)⟩ (ci := 10) (q := (RX10, TX10, 41)) rfl rfl rfl hl.1 (Nat.le_of_ble_eq_true rfl) dX10_rowOf_127 ⟨Nat.le_of_ble_eq_true rfl, Nat.le_of_ble_eq_true rfl⟩ (fun r_2065 w_2065 H locs hw_2065 hP hD hS => ?_)
                    obtain ⟨v_2066, bv_2066, h_2067, er_2065, rfl⟩ := hw_2065
                    subst r_2065
                    obtain ⟨hP, hD⟩ : vPD G A H [(ce_X10 ob ob_thrown ob_world ob_images ob_hasImage ob_tape ob_taped ob_five ob_size ob_at ob_from ob_token ob_value ob_faultKind ob_faultPlace ob_fresh ob_parts ob_houses ob_houseMany ob_worthOf ob_byCall ob_over ob_bestSet ob_bestOver ob_bestWorth ob_row ob_tenDebts ob_tenMany ob_fewestBy ob_covered ob_queue ob_cameBy ob_parent ob_met ob_calls ob_callMany ob_calledOn ob_saved ob_many ob_width ob_numbers ob_moving), (ce_i9080 y ob_world fob_world), (ce_i16 y ob_houses fob_houses), (ce_z16 y ob_byCall fob_byCall), (ce_i10240 y ob_over f_2058), (ce_i10 y ob_row f_1357)] := ⟨hP, hD⟩
                    exact J_130_2063 _ _ _ _ ⟨v_2066, bv_2066, (gd_1 (snF_R _ _ _) (snF_M _ _ _) (fun j => (bf_2058 j).1) (lt_bit _) (by omega) hTB (by rw [← (show v_2048.toInt = snF fob_world fob_byCall a2.toInt v_1355.toInt v_1354.toInt (hsF fob_houses v_1822.toInt.toNat) from by rw [(show hsF fob_houses v_1822.toInt.toNat = v_2046.toInt from ld_n ev_2046 (by omega))]; exact h_2049)]; omega) (dp_all (show dpI (snF fob_world fob_byCall a2.toInt) (hsF fob_houses) (hsF fob_houses v_1822.toInt.toNat) (snF fob_world fob_byCall a2.toInt v_1355.toInt v_1354.toInt (hsF fob_houses v_1822.toInt.toNat)) (clr v_1353.toInt.toNat v_1822.toInt.toNat) ob_houseMany.toInt.toNat f_2058 (2 ^ ob_houseMany.toInt.toNat) 0 from by rw [← (show v_2048.toInt = snF fob_world fob_byCall a2.toInt v_1355.toInt v_1354.toInt (hsF fob_houses v_1822.toInt.toNat) from by rw [(show hsF fob_houses v_1822.toInt.toNat = v_2046.toInt from ld_n ev_2046 (by omega))]; exact h_2049), (show hsF fob_houses v_1822.toInt.toNat = v_2046.toInt from ld_n ev_2046 (by omega)), ← hCL]; exact h_2059)) (fun w => c_2054 (nz_of (hCL.trans w) (by omega))) (Nat.lt_of_le_of_lt (clr_le _ _) rl1357_1) (hCL ▸ h_2067) (rl1357_0.resolve_left (by omega)) (by omega)), rfl, ⟨hP, hD⟩, hS, lv_sub hl [1, 2, 3, 4, 5, 6, 7, 8, 9, 10] rfl⟩
              · skip
                have nc_2053 := nb_eq (-1) (-1) c_2053 bv_2048 (bkc (x := (-1)) (c := -1) (by decide)) (by decide)
                refine lv_goto (tgt := 148) hx hb dX10_rowOf_90 (by decide) ?_
                exact J_148_2041 _ _ _ _ ⟨v_1823, v_1824, f_1825, bv_1823, (bw (-1) (9) nc_2013.1 (by decide)), bf_1825, (nx_no rl1825_0 (by omega) rfl (fun _ w => w.1 ((show v_2048.toInt = snF fob_world fob_byCall a2.toInt v_1355.toInt v_1354.toInt (hsF fob_houses v_1822.toInt.toNat) from by rw [(show hsF fob_houses v_1822.toInt.toNat = v_2046.toInt from ld_n ev_2046 (by omega))]; exact h_2049).symm.trans (by omega)))), rfl, ⟨hP, hD⟩, hS, lv_sub hl [2, 3, 4, 5, 6, 7, 8, 9, 10] rfl⟩

set_option maxHeartbeats 4000000 in
set_option maxRecDepth 100000 in
theorem sX10_round (l : Launch) (G : va_G) (y : Nat → ClassId) (sz : Nat) (ob : Nat) (a1 : Int32) (a2 : Int32) (a3 : Int32) (ob_thrown : Int32) (ob_world : Nat) (ob_images : Nat) (ob_hasImage : Nat) (ob_tape : Nat) (ob_taped : Int32) (ob_five : Nat) (ob_size : Int32) (ob_at : Int32) (ob_from : Int32) (ob_token : Int32) (ob_value : Int32) (ob_faultKind : Int32) (ob_faultPlace : Int32) (ob_fresh : Nat) (ob_parts : Nat) (ob_houses : Nat) (ob_houseMany : Int32) (ob_worthOf : Nat) (ob_byCall : Nat) (ob_over : Nat) (ob_bestSet : Int32) (ob_bestOver : Int32) (ob_bestWorth : Int32) (ob_row : Nat) (ob_tenDebts : Nat) (ob_tenMany : Int32) (ob_fewestBy : Nat) (ob_covered : Nat) (ob_queue : Nat) (ob_cameBy : Nat) (ob_parent : Nat) (ob_met : Nat) (ob_calls : Nat) (ob_callMany : Int32) (ob_calledOn : Nat) (ob_saved : Nat) (ob_many : Nat) (ob_width : Nat) (ob_numbers : Nat) (ob_moving : Nat) (fob_world : Nat → Int32) (fob_houses : Nat → Int32) (fob_worthOf : Nat → Int32) (fob_byCall : Nat → Int32) (fob_over : Nat → Int32) (fob_row : Nat → Int32) (p_fob_world : RWw fob_world) (p_ob_taped : (0 : Int) ≤ ob_taped.toInt ∧ ob_taped.toInt ≤ 1400) (p_ob_size : (0 : Int) ≤ ob_size.toInt ∧ ob_size.toInt ≤ 1400) (p_ob_at : (0 : Int) ≤ ob_at.toInt ∧ ob_at.toInt ≤ 1400) (p_ob_from : (0 : Int) ≤ ob_from.toInt ∧ ob_from.toInt ≤ 1400) (p_ob_token : (0 : Int) ≤ ob_token.toInt ∧ ob_token.toInt ≤ 4) (p_ob_value : (0 : Int) ≤ ob_value.toInt ∧ ob_value.toInt ≤ 9999) (p_ob_faultKind : (0 : Int) ≤ ob_faultKind.toInt ∧ ob_faultKind.toInt ≤ 3) (p_fob_houses : ∀ i, (0 : Int) ≤ (fob_houses i).toInt ∧ (fob_houses i).toInt ≤ 15) (p_ob_houseMany : (0 : Int) ≤ ob_houseMany.toInt ∧ ob_houseMany.toInt ≤ 10) (p_fob_byCall : ∀ i, (0 : Int) ≤ (fob_byCall i).toInt ∧ (fob_byCall i).toInt ≤ 1) (p_fob_over : ∀ i, (-1 : Int) ≤ (fob_over i).toInt ∧ (fob_over i).toInt ≤ 180) (p_ob_bestSet : (0 : Int) ≤ ob_bestSet.toInt ∧ ob_bestSet.toInt ≤ 1023) (p_ob_bestOver : (-1 : Int) ≤ ob_bestOver.toInt ∧ ob_bestOver.toInt ≤ 180) (p_ob_tenMany : (0 : Int) ≤ ob_tenMany.toInt ∧ ob_tenMany.toInt ≤ 10) (p_ob_callMany : (0 : Int) ≤ ob_callMany.toInt ∧ ob_callMany.toInt ≤ 16) : Met l yX10_round (Cond.code yX10_round cX10_round 5 (some .int) :: wAll) ({ frames := 5, cells := 0, slots := 0, locals := 130 }) (va_Pc [.ref ob, .int a1, .int a2, .int a3] (kp G y sz [(ce_X10 ob ob_thrown ob_world ob_images ob_hasImage ob_tape ob_taped ob_five ob_size ob_at ob_from ob_token ob_value ob_faultKind ob_faultPlace ob_fresh ob_parts ob_houses ob_houseMany ob_worthOf ob_byCall ob_over ob_bestSet ob_bestOver ob_bestWorth ob_row ob_tenDebts ob_tenMany ob_fewestBy ob_covered ob_queue ob_cameBy ob_parent ob_met ob_calls ob_callMany ob_calledOn ob_saved ob_many ob_width ob_numbers ob_moving), (ce_i9080 y ob_world fob_world), (ce_i16 y ob_houses fob_houses), (ce_i16 y ob_worthOf fob_worthOf), (ce_z16 y ob_byCall fob_byCall), (ce_i10240 y ob_over fob_over), (ce_i10 y ob_row fob_row)])) (va_Qi (fun (r : Int32) (w : va_W) => (∃ (v_57 : Int32) (v_58 : Int32) (v_59 : Int32) (v_60 : Int32) (v_61 : Int32) (f_62 : Nat → Int32) (f_63 : Nat → Int32) (f_64 : Nat → Int32) (f_65 : Nat → Int32) (f_66 : Nat → Int32), ((0 : Int) ≤ v_58.toInt ∧ v_58.toInt ≤ 10) ∧ ((0 : Int) ≤ v_59.toInt ∧ v_59.toInt ≤ 1023) ∧ ((-1 : Int) ≤ v_60.toInt ∧ v_60.toInt ≤ 180) ∧ (∀ i, (0 : Int) ≤ (f_62 i).toInt ∧ (f_62 i).toInt ≤ 15) ∧ (∀ i, (0 : Int) ≤ (f_64 i).toInt ∧ (f_64 i).toInt ≤ 1) ∧ (∀ i, (-1 : Int) ≤ (f_65 i).toInt ∧ (f_65 i).toInt ≤ 180) ∧ r = v_57 ∧ w = [(ce_X10 ob ob_thrown ob_world ob_images ob_hasImage ob_tape ob_taped ob_five ob_size ob_at ob_from ob_token ob_value ob_faultKind ob_faultPlace ob_fresh ob_parts ob_houses v_58 ob_worthOf ob_byCall ob_over v_59 v_60 v_61 ob_row ob_tenDebts ob_tenMany ob_fewestBy ob_covered ob_queue ob_cameBy ob_parent ob_met ob_calls ob_callMany ob_calledOn ob_saved ob_many ob_width ob_numbers ob_moving), (ce_i9080 y ob_world fob_world), (ce_i16 y ob_houses f_62), (ce_i16 y ob_worthOf f_63), (ce_z16 y ob_byCall f_64), (ce_i10240 y ob_over f_65), (ce_i10 y ob_row f_66)])) (kq G (va_A [(ce_X10 ob ob_thrown ob_world ob_images ob_hasImage ob_tape ob_taped ob_five ob_size ob_at ob_from ob_token ob_value ob_faultKind ob_faultPlace ob_fresh ob_parts ob_houses ob_houseMany ob_worthOf ob_byCall ob_over ob_bestSet ob_bestOver ob_bestWorth ob_row ob_tenDebts ob_tenMany ob_fewestBy ob_covered ob_queue ob_cameBy ob_parent ob_met ob_calls ob_callMany ob_calledOn ob_saved ob_many ob_width ob_numbers ob_moving), (ce_i9080 y ob_world fob_world), (ce_i16 y ob_houses fob_houses), (ce_i16 y ob_worthOf fob_worthOf), (ce_z16 y ob_byCall fob_byCall), (ce_i10240 y ob_over fob_over), (ce_i10 y ob_row fob_row)] sz)) (va_A [(ce_X10 ob ob_thrown ob_world ob_images ob_hasImage ob_tape ob_taped ob_five ob_size ob_at ob_from ob_token ob_value ob_faultKind ob_faultPlace ob_fresh ob_parts ob_houses ob_houseMany ob_worthOf ob_byCall ob_over ob_bestSet ob_bestOver ob_bestWorth ob_row ob_tenDebts ob_tenMany ob_fewestBy ob_covered ob_queue ob_cameBy ob_parent ob_met ob_calls ob_callMany ob_calledOn ob_saved ob_many ob_width ob_numbers ob_moving), (ce_i9080 y ob_world fob_world), (ce_i16 y ob_houses fob_houses), (ce_i16 y ob_worthOf fob_worthOf), (ce_z16 y ob_byCall fob_byCall), (ce_i10240 y ob_over fob_over), (ce_i10 y ob_row fob_row)] sz)) 0 0 (va_A [(ce_X10 ob ob_thrown ob_world ob_images ob_hasImage ob_tape ob_taped ob_five ob_size ob_at ob_from ob_token ob_value ob_faultKind ob_faultPlace ob_fresh ob_parts ob_houses ob_houseMany ob_worthOf ob_byCall ob_over ob_bestSet ob_bestOver ob_bestWorth ob_row ob_tenDebts ob_tenMany ob_fewestBy ob_covered ob_queue ob_cameBy ob_parent ob_met ob_calls ob_callMany ob_calledOn ob_saved ob_many ob_width ob_numbers ob_moving), (ce_i9080 y ob_world fob_world), (ce_i16 y ob_houses fob_houses), (ce_i16 y ob_worthOf fob_worthOf), (ce_z16 y ob_byCall fob_byCall), (ce_i10240 y ob_over fob_over), (ce_i10 y ob_row fob_row)] sz) := by
  refine Met.ofW (cc := cX10_round) (maxL := 5) (ret := (some .int)) (by decide) rfl ?_
  intro p e s m args below meth c s₁ B hml hv
  obtain ⟨rfl, hsz, hP, hK, hD0⟩ := hv
  have hx := B.exec
  have hb := B.bytes
  have hr := B.returns
  have hw0 : ∀ w ∈ wAll, w.before _ s = true := fun w h => atoms_spec (ws := Cond.code yX10_round cX10_round 5 (some .int) :: wAll) B.pre w (List.mem_cons_of_mem _ h)
  have hown : s.vm.findClass RX10 = some m.cls := findClass_of_methodNamed B.named
  subst hsz
  have hD := hD0.self (sz := s.heap.size)
  generalize hAe : va_A [(ce_X10 ob ob_thrown ob_world ob_images ob_hasImage ob_tape ob_taped ob_five ob_size ob_at ob_from ob_token ob_value ob_faultKind ob_faultPlace ob_fresh ob_parts ob_houses ob_houseMany ob_worthOf ob_byCall ob_over ob_bestSet ob_bestOver ob_bestWorth ob_row ob_tenDebts ob_tenMany ob_fewestBy ob_covered ob_queue ob_cameBy ob_parent ob_met ob_calls ob_callMany ob_calledOn ob_saved ob_many ob_width ob_numbers ob_moving), (ce_i9080 y ob_world fob_world), (ce_i16 y ob_houses fob_houses), (ce_i16 y ob_worthOf fob_worthOf), (ce_z16 y ob_byCall fob_byCall), (ce_i10240 y ob_over fob_over), (ce_i10 y ob_row fob_row)] s.heap.size = A at hD ⊢
  have hA : ∀ q : Nat, s.heap.size ≤ q → A q := fun q h => by rw [← hAe]; exact Or.inr h
  have hS : va_S A s.heap s.heap [] := va_S.rf
  have hP : va_P G vwCl [(ce_X10 ob ob_thrown ob_world ob_images ob_hasImage ob_tape ob_taped ob_five ob_size ob_at ob_from ob_token ob_value ob_faultKind ob_faultPlace ob_fresh ob_parts ob_houses ob_houseMany ob_worthOf ob_byCall ob_over ob_bestSet ob_bestOver ob_bestWorth ob_row ob_tenDebts ob_tenMany ob_fewestBy ob_covered ob_queue ob_cameBy ob_parent ob_met ob_calls ob_callMany ob_calledOn ob_saved ob_many ob_width ob_numbers ob_moving), (ce_i9080 y ob_world fob_world), (ce_i16 y ob_houses fob_houses), (ce_i16 y ob_worthOf fob_worthOf), (ce_z16 y ob_byCall fob_byCall), (ce_i10240 y ob_over fob_over), (ce_i10 y ob_row fob_row)] s.heap := hP
  have hl := lv_entry ([.ref ob, .int a1, .int a2, .int a3]) (n := 5) (Nat.le_of_ble_eq_true rfl)
  rw [lg_entry_eq]
  generalize (lg_sl ([.ref ob, .int a1, .int a2, .int a3]) ++ List.replicate (5 - (lg_sl ([.ref ob, .int a1, .int a2, .int a3])).length) Slot.unset).toArray = ls at hl ⊢
  have hl : lv_has ls 5 [(0, .ref ob), (1, .int a1), (2, .int a2), (3, .int a3)] := hl
  refine lv_aload_n hx hb dX10_round_0 rfl (lv_at hl 0 rfl) ?_
  refine lv_iload_n hx hb dX10_round_1 rfl (lv_at hl 1 rfl) ?_
  refine lv_iload_n hx hb dX10_round_2 rfl (lv_at hl 2 rfl) ?_
  refine cVim (As := [.int a1, .int a2]) (rest := []) ⟨hx, hb, hml, hown, hw0⟩ hA hK hP hD hS [true, true] (sX10_isRound l G y _ ob a1 a2 ob_thrown ob_world ob_images ob_hasImage ob_tape ob_taped ob_five ob_size ob_at ob_from ob_token ob_value ob_faultKind ob_faultPlace ob_fresh ob_parts ob_houses ob_houseMany ob_worthOf ob_byCall ob_over ob_bestSet ob_bestOver ob_bestWorth ob_row ob_tenDebts ob_tenMany ob_fewestBy ob_covered ob_queue ob_cameBy ob_parent ob_met ob_calls ob_callMany ob_calledOn ob_saved ob_many ob_width ob_numbers ob_moving fob_world p_fob_world p_ob_taped p_ob_size p_ob_at p_ob_from p_ob_token p_ob_value p_ob_faultKind p_ob_houseMany p_ob_bestSet p_ob_bestOver p_ob_tenMany p_ob_callMany) rfl ⟨(callB_of 2 hw0 (gA m_541) rfl rfl rfl (hw0 _ m_41) (hw0 _ m_555) cb_X10_isRound ⟨Nat.le_of_ble_eq_true rfl, Nat.le_of_ble_eq_true rfl⟩), (hw0 _ m_556), (hw0 _ m_557)⟩ (ci := 10) (q := (RX10, TX10, 41)) rfl rfl rfl hl.1 (Nat.le_of_ble_eq_true rfl) dX10_round_3 ⟨Nat.le_of_ble_eq_true rfl, Nat.le_of_ble_eq_true rfl⟩ (fun r_1001 w_1001 H locs hw_1001 hP hD hS => ?_)
  rcases hw_1001 with ⟨rfl, rfl⟩ | ⟨h_1002, h_1003, rfl, rfl⟩
  · skip
    obtain ⟨hP, hD⟩ : vPD G A H [(ce_X10 ob ob_thrown ob_world ob_images ob_hasImage ob_tape ob_taped ob_five ob_size ob_at ob_from ob_token ob_value ob_faultKind ob_faultPlace ob_fresh ob_parts ob_houses ob_houseMany ob_worthOf ob_byCall ob_over ob_bestSet ob_bestOver ob_bestWorth ob_row ob_tenDebts ob_tenMany ob_fewestBy ob_covered ob_queue ob_cameBy ob_parent ob_met ob_calls ob_callMany ob_calledOn ob_saved ob_many ob_width ob_numbers ob_moving), (ce_i9080 y ob_world fob_world), (ce_i16 y ob_houses fob_houses), (ce_i16 y ob_worthOf fob_worthOf), (ce_z16 y ob_byCall fob_byCall), (ce_i10240 y ob_over fob_over), (ce_i10 y ob_row fob_row)] := ⟨hP, hD⟩
    refine lv_if_ne (tgt := 12) hx hb dX10_round_6 (by decide) (fun c9 => absurd (by decide) c9) (fun _ => ?_)
    refine lv_bipush (v := (-2)) hx hb dX10_round_9 (by decide) ?_
    exact W.iret (v := (-2)) hx hb hr (fun t ht hW => ⟨⟨(-2), _, rfl, ⟨(-2), ob_houseMany, ob_bestSet, ob_bestOver, ob_bestWorth, fob_houses, fob_worthOf, fob_byCall, fob_over, fob_row, p_ob_houseMany, p_ob_bestSet, p_ob_bestOver, p_fob_houses, p_fob_byCall, p_fob_over, rfl, rfl⟩, by rw [ht]; exact hP, hD⟩, hS.F ht⟩) hS.2.2 dX10_round_11
  · skip
    obtain ⟨hP, hD⟩ : vPD G A H [(ce_X10 ob ob_thrown ob_world ob_images ob_hasImage ob_tape ob_taped ob_five ob_size ob_at ob_from ob_token ob_value ob_faultKind ob_faultPlace ob_fresh ob_parts ob_houses ob_houseMany ob_worthOf ob_byCall ob_over ob_bestSet ob_bestOver ob_bestWorth ob_row ob_tenDebts ob_tenMany ob_fewestBy ob_covered ob_queue ob_cameBy ob_parent ob_met ob_calls ob_callMany ob_calledOn ob_saved ob_many ob_width ob_numbers ob_moving), (ce_i9080 y ob_world fob_world), (ce_i16 y ob_houses fob_houses), (ce_i16 y ob_worthOf fob_worthOf), (ce_z16 y ob_byCall fob_byCall), (ce_i10240 y ob_over fob_over), (ce_i10 y ob_row fob_row)] := ⟨hP, hD⟩
    refine lv_if_ne (tgt := 12) hx hb dX10_round_6 (by decide) (fun _ => ?_) (fun c9 => absurd c9 (by decide))
    refine lv_aload_n hx hb dX10_round_12 rfl (lv_at hl 0 rfl) ?_
    refine lv_iload_n hx hb dX10_round_13 rfl (lv_at hl 1 rfl) ?_
    refine lv_iload_n hx hb dX10_round_14 rfl (lv_at hl 2 rfl) ?_
    refine cVvm (As := [.int a1, .int a2]) (rest := []) ⟨hx, hb, hml, hown, hw0⟩ hA hK hP hD hS [true, true, true, true, true, true] (frounds l G y _ ob a1 a2 ob_thrown ob_world ob_images ob_hasImage ob_tape ob_taped ob_five ob_size ob_at ob_from ob_token ob_value ob_faultKind ob_faultPlace ob_fresh ob_parts ob_houses ob_houseMany ob_worthOf ob_byCall ob_over ob_bestSet ob_bestOver ob_bestWorth ob_row ob_tenDebts ob_tenMany ob_fewestBy ob_covered ob_queue ob_cameBy ob_parent ob_met ob_calls ob_callMany ob_calledOn ob_saved ob_many ob_width ob_numbers ob_moving fob_world fob_houses fob_worthOf fob_byCall fob_over p_fob_world p_ob_taped p_ob_size p_ob_at p_ob_from p_ob_token p_ob_value p_ob_faultKind p_fob_houses p_ob_houseMany p_fob_byCall p_fob_over p_ob_bestSet p_ob_bestOver p_ob_tenMany p_ob_callMany h_1002 h_1003) rfl ⟨(callB_of 2 hw0 (gA m_661) rfl rfl rfl (hw0 _ m_41) (hw0 _ m_580) cb_X10_rounds ⟨Nat.le_of_ble_eq_true rfl, Nat.le_of_ble_eq_true rfl⟩), (hw0 _ m_581), (hw0 _ m_582)⟩ (ci := 10) (q := (RX10, TX10, 41)) rfl rfl rfl hl.1 (Nat.le_of_ble_eq_true rfl) dX10_round_15 ⟨Nat.le_of_ble_eq_true rfl, Nat.le_of_ble_eq_true rfl⟩ (fun w_1004 H locs hw_1004 hP hD hS => ?_)
    obtain ⟨v_1005, v_1006, v_1007, v_1008, f_1009, f_1010, f_1011, f_1012, bv_1005, bv_1006, bv_1007, bv_1008, bf_1009, bf_1011, bf_1012, h_1013, h_1014, rfl⟩ := hw_1004
    obtain ⟨hP, hD⟩ : vPD G A H [(ce_X10 ob ob_thrown ob_world ob_images ob_hasImage ob_tape ob_taped ob_five ob_size ob_at ob_from ob_token ob_value ob_faultKind ob_faultPlace ob_fresh ob_parts ob_houses v_1005 ob_worthOf ob_byCall ob_over v_1006 v_1007 v_1008 ob_row ob_tenDebts ob_tenMany ob_fewestBy ob_covered ob_queue ob_cameBy ob_parent ob_met ob_calls ob_callMany ob_calledOn ob_saved ob_many ob_width ob_numbers ob_moving), (ce_i9080 y ob_world fob_world), (ce_i16 y ob_houses f_1009), (ce_i16 y ob_worthOf f_1010), (ce_z16 y ob_byCall f_1011), (ce_i10240 y ob_over f_1012), (ce_i10 y ob_row fob_row)] := ⟨hP, hD⟩
    refine lv_aload_n hx hb dX10_round_18 rfl (lv_at hl 0 rfl) ?_
    refine va_get (D := G) (ci := 10) (v := .int v_1006) (C := RX10) (T := TX10) (N := 41) hx hb hw0 inA_wsX100 hown hK.1 hP 0 rfl rfl 21 (by decide) (hw0 _ m_657) (fun _ h9 => h9) rfl dX10_round_19 ?_
    refine cSim (As := [.int v_1006]) (rest := []) ⟨hx, hb, hml, hown, hw0⟩ hA hK hP hD hS [] (sones10 l G y _ v_1006 bv_1006) rfl ⟨(callB_of 1 hw0 (gA m_578) rfl rfl rfl (hw0 _ m_41) (hw0 _ m_447) cb_X10_ones ⟨Nat.le_of_ble_eq_true rfl, Nat.le_of_ble_eq_true rfl⟩), (hw0 _ m_448)⟩ rfl hl.1 (Nat.le_of_ble_eq_true rfl) dX10_round_22 ⟨Nat.le_of_ble_eq_true rfl, Nat.le_of_ble_eq_true rfl⟩ (fun r_1015 w_1015 H locs hw_1015 hP hD hS => ?_)
    obtain ⟨v_1016, bv_1016, er_1015, rfl⟩ := hw_1015
    subst r_1015
    obtain ⟨hP, hD⟩ : vPD G A H [(ce_X10 ob ob_thrown ob_world ob_images ob_hasImage ob_tape ob_taped ob_five ob_size ob_at ob_from ob_token ob_value ob_faultKind ob_faultPlace ob_fresh ob_parts ob_houses v_1005 ob_worthOf ob_byCall ob_over v_1006 v_1007 v_1008 ob_row ob_tenDebts ob_tenMany ob_fewestBy ob_covered ob_queue ob_cameBy ob_parent ob_met ob_calls ob_callMany ob_calledOn ob_saved ob_many ob_width ob_numbers ob_moving), (ce_i9080 y ob_world fob_world), (ce_i16 y ob_houses f_1009), (ce_i16 y ob_worthOf f_1010), (ce_z16 y ob_byCall f_1011), (ce_i10240 y ob_over f_1012), (ce_i10 y ob_row fob_row)] := ⟨hP, hD⟩
    refine lv_istore (lv' := [(4, .int v_1016), (0, .ref ob), (1, .int a1), (2, .int a2), (3, .int a3)]) hx hb dX10_round_25 hl (by decide) rfl (fun ls hl => ?_)
    refine lv_iload_n hx hb dX10_round_27 rfl (lv_at hl 4 rfl) ?_
    refine lv_i2l hx hb dX10_round_28 rfl ?_
    refine lv_lconst (v := 0) hx hb dX10_round_29 (by decide) ?_
    refine lv_iload hx hb dX10_round_30 (lv_at hl 0 rfl) ?_
    refine lv_iconst (v := 1) hx hb dX10_round_32 (by decide) ?_
    refine lv_isub hx hb dX10_round_33 ?_
    refine lv_topi (fun v_1017 ev_1017 => ?_)
    have qv_1017 := ba_sub ev_1017 bv_1016 (bkc (x := 1) (c := 1) (by decide)) (by decide)
    have bv_1017 : (-1 : Int) ≤ v_1017.toInt ∧ v_1017.toInt ≤ 9 := bq_sub qv_1017 bv_1016 (bkc (x := 1) (c := 1) (by decide)) _ _ (by decide)
    have qv_1017 : v_1017.toInt = v_1016.toInt - (1) := qv_1017
    refine lv_i2l hx hb dX10_round_34 rfl ?_
    refine cSim (As := [.long (a3).toInt64, .long 0, .long (v_1017).toInt64]) (rest := []) ⟨hx, hb, hml, hown, hw0⟩ hA hK hP hD hS [] (sX10_in l G y _ ((a3).toInt64) 0 ((v_1017).toInt64) ) rfl ⟨(callB_of 3 hw0 (gA m_516) rfl rfl rfl (hw0 _ m_41) (hw0 _ m_345) cb_X10_in ⟨Nat.le_of_ble_eq_true rfl, Nat.le_of_ble_eq_true rfl⟩), (hw0 _ m_346)⟩ rfl hl.1 (Nat.le_of_ble_eq_true rfl) dX10_round_35 ⟨Nat.le_of_ble_eq_true rfl, Nat.le_of_ble_eq_true rfl⟩ (fun r_1018 w_1018 H locs hw_1018 hP hD hS => ?_)
    rcases hw_1018 with ⟨h_1019, rfl, rfl⟩ | ⟨h_1020, rfl, rfl⟩
    · skip
      have h_1021 : a3.toInt < (0 : Int) ∨ (v_1017.toInt : Int) < a3.toInt := in_n h_1019 (Int32.toInt_toInt64 _) (by decide) (Int32.toInt_toInt64 _)
      obtain ⟨hP, hD⟩ : vPD G A H [(ce_X10 ob ob_thrown ob_world ob_images ob_hasImage ob_tape ob_taped ob_five ob_size ob_at ob_from ob_token ob_value ob_faultKind ob_faultPlace ob_fresh ob_parts ob_houses v_1005 ob_worthOf ob_byCall ob_over v_1006 v_1007 v_1008 ob_row ob_tenDebts ob_tenMany ob_fewestBy ob_covered ob_queue ob_cameBy ob_parent ob_met ob_calls ob_callMany ob_calledOn ob_saved ob_many ob_width ob_numbers ob_moving), (ce_i9080 y ob_world fob_world), (ce_i16 y ob_houses f_1009), (ce_i16 y ob_worthOf f_1010), (ce_z16 y ob_byCall f_1011), (ce_i10240 y ob_over f_1012), (ce_i10 y ob_row fob_row)] := ⟨hP, hD⟩
      refine lv_if_ne (tgt := 43) hx hb dX10_round_38 (by decide) (fun c9 => absurd (by decide) c9) (fun _ => ?_)
      refine lv_iconst (v := (-1)) hx hb dX10_round_41 (by decide) ?_
      exact W.iret (v := (-1)) hx hb hr (fun t ht hW => ⟨⟨(-1), _, rfl, ⟨(-1), v_1005, v_1006, v_1007, v_1008, f_1009, f_1010, f_1011, f_1012, fob_row, bv_1005, bv_1006, (bw (-1) (180) bv_1007 (by decide)), bf_1009, bf_1011, bf_1012, rfl, rfl⟩, by rw [ht]; exact hP, hD⟩, hS.F ht⟩) hS.2.2 dX10_round_42
    · skip
      have h_1022 : (0 : Int) ≤ a3.toInt ∧ a3.toInt ≤ (v_1017.toInt : Int) := in_y h_1020 (Int32.toInt_toInt64 _) (by decide) (Int32.toInt_toInt64 _)
      have h_1023_0 := (btop a3)
      have h_1023_1 := True.intro
      have h_1023_2 := bv_1017
      have h_1023 : (0 : Int) ≤ a3.toInt ∧ a3.toInt ≤ 9 := by omega
      have h_1024 : (0 : Int) ≤ v_1017.toInt ∧ v_1017.toInt ≤ 9 := by have h9 := bv_1017; have h8 := h_1023; omega
      obtain ⟨hP, hD⟩ : vPD G A H [(ce_X10 ob ob_thrown ob_world ob_images ob_hasImage ob_tape ob_taped ob_five ob_size ob_at ob_from ob_token ob_value ob_faultKind ob_faultPlace ob_fresh ob_parts ob_houses v_1005 ob_worthOf ob_byCall ob_over v_1006 v_1007 v_1008 ob_row ob_tenDebts ob_tenMany ob_fewestBy ob_covered ob_queue ob_cameBy ob_parent ob_met ob_calls ob_callMany ob_calledOn ob_saved ob_many ob_width ob_numbers ob_moving), (ce_i9080 y ob_world fob_world), (ce_i16 y ob_houses f_1009), (ce_i16 y ob_worthOf f_1010), (ce_z16 y ob_byCall f_1011), (ce_i10240 y ob_over f_1012), (ce_i10 y ob_row fob_row)] := ⟨hP, hD⟩
      refine lv_if_ne (tgt := 43) hx hb dX10_round_38 (by decide) (fun _ => ?_) (fun c9 => absurd c9 (by decide))
      refine lv_aload_n hx hb dX10_round_43 rfl (lv_at hl 1 rfl) ?_
      refine lv_iload_n hx hb dX10_round_44 rfl (lv_at hl 2 rfl) ?_
      refine lv_iload_n hx hb dX10_round_45 rfl (lv_at hl 3 rfl) ?_
      refine cVvm (As := [.int a1, .int a2]) (rest := []) ⟨hx, hb, hml, hown, hw0⟩ hA hK hP hD hS [true, true, true, false, true, true, true] (frowOf l G y _ ob a1 a2 ob_thrown ob_world ob_images ob_hasImage ob_tape ob_taped ob_five ob_size ob_at ob_from ob_token ob_value ob_faultKind ob_faultPlace ob_fresh ob_parts ob_houses v_1005 ob_worthOf ob_byCall ob_over v_1006 v_1007 v_1008 ob_row ob_tenDebts ob_tenMany ob_fewestBy ob_covered ob_queue ob_cameBy ob_parent ob_met ob_calls ob_callMany ob_calledOn ob_saved ob_many ob_width ob_numbers ob_moving fob_world f_1009 f_1011 f_1012 fob_row p_fob_world p_ob_taped p_ob_size p_ob_at p_ob_from p_ob_token p_ob_value p_ob_faultKind bf_1009 bv_1005 bf_1011 bf_1012 bv_1006 (bw (-1) (180) bv_1007 (by decide)) p_ob_tenMany p_ob_callMany h_1002 h_1003 h_1013 h_1014 (by omega)) rfl ⟨(callB_of 2 hw0 (gA m_667) rfl rfl rfl (hw0 _ m_41) (hw0 _ m_658) cb_X10_rowOf ⟨Nat.le_of_ble_eq_true rfl, Nat.le_of_ble_eq_true rfl⟩), (hw0 _ m_659), (hw0 _ m_660)⟩ (ci := 10) (q := (RX10, TX10, 41)) rfl rfl rfl hl.1 (Nat.le_of_ble_eq_true rfl) dX10_round_46 ⟨Nat.le_of_ble_eq_true rfl, Nat.le_of_ble_eq_true rfl⟩ (fun w_1025 H locs hw_1025 hP hD hS => ?_)
      obtain ⟨f_1026, f_1027, bf_1026, rfl⟩ := hw_1025
      obtain ⟨hP, hD⟩ : vPD G A H [(ce_X10 ob ob_thrown ob_world ob_images ob_hasImage ob_tape ob_taped ob_five ob_size ob_at ob_from ob_token ob_value ob_faultKind ob_faultPlace ob_fresh ob_parts ob_houses v_1005 ob_worthOf ob_byCall ob_over v_1006 v_1007 v_1008 ob_row ob_tenDebts ob_tenMany ob_fewestBy ob_covered ob_queue ob_cameBy ob_parent ob_met ob_calls ob_callMany ob_calledOn ob_saved ob_many ob_width ob_numbers ob_moving), (ce_i9080 y ob_world fob_world), (ce_i16 y ob_houses f_1009), (ce_i16 y ob_worthOf f_1010), (ce_z16 y ob_byCall f_1011), (ce_i10240 y ob_over f_1026), (ce_i10 y ob_row f_1027)] := ⟨hP, hD⟩
      refine lv_aload_n hx hb dX10_round_49 rfl (lv_at hl 1 rfl) ?_
      refine va_get (D := G) (ci := 10) (v := .ref ob_row) (C := RX10) (T := TX10) (N := 41) hx hb hw0 inA_wsX100 hown hK.1 hP 0 rfl rfl 24 (by decide) (hw0 _ m_524) (fun _ h9 => h9) rfl dX10_round_50 ?_
      refine lv_iload_n hx hb dX10_round_53 rfl (lv_at hl 4 rfl) ?_
      refine va_iald hx hb hK.1 hP 6 1 rfl rfl (vi h_1023 (by decide)) dX10_round_54 ?_
      refine lv_topi (fun v_1028 ev_1028 => ?_)
      exact W.iret (v := v_1028) hx hb hr (fun t ht hW => ⟨⟨v_1028, _, rfl, ⟨v_1028, v_1005, v_1006, v_1007, v_1008, f_1009, f_1010, f_1011, f_1026, f_1027, bv_1005, bv_1006, (bw (-1) (180) bv_1007 (by decide)), bf_1009, bf_1011, bf_1026, rfl, rfl⟩, by rw [ht]; exact hP, hD⟩, hS.F ht⟩) hS.2.2 dX10_round_55
