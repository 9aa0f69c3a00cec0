set_option maxHeartbeats 4000000 in
set_option maxRecDepth 100000 in
theorem gofDebt0 (l : Launch) (G : va_G) (y : Nat → ClassId) (sz : Nat) (ob : Nat) (a1 : Int32) (ob_thrown : Int32) (ob_world : Nat) (ob_images : Nat) (ob_hasImage : Nat) (ob_tape : Nat) (ob_taped : Int32) (ob_five : Nat) (ob_size : Int32) (ob_at : Int32) (ob_from : Int32) (ob_token : Int32) (ob_value : Int32) (ob_faultKind : Int32) (ob_faultPlace : Int32) (ob_fresh : Nat) (ob_parts : Nat) (ob_houses : Nat) (ob_houseMany : Int32) (ob_worthOf : Nat) (ob_byCall : Nat) (ob_over : Nat) (ob_bestSet : Int32) (ob_bestOver : Int32) (ob_bestWorth : Int32) (ob_row : Nat) (ob_tenDebts : Nat) (ob_tenMany : Int32) (ob_fewestBy : Nat) (ob_covered : Nat) (ob_queue : Nat) (ob_cameBy : Nat) (ob_parent : Nat) (ob_met : Nat) (ob_calls : Nat) (ob_callMany : Int32) (ob_calledOn : Nat) (ob_saved : Nat) (ob_many : Nat) (ob_width : Nat) (ob_numbers : Nat) (ob_moving : Nat) (fob_world : Nat → Int32) (p_fob_world : RWw fob_world) (p_ob_taped : (0 : Int) ≤ ob_taped.toInt ∧ ob_taped.toInt ≤ 1400) (p_ob_size : (0 : Int) ≤ ob_size.toInt ∧ ob_size.toInt ≤ 1400) (p_ob_at : (0 : Int) ≤ ob_at.toInt ∧ ob_at.toInt ≤ 1400) (p_ob_from : (0 : Int) ≤ ob_from.toInt ∧ ob_from.toInt ≤ 1400) (p_ob_token : (0 : Int) ≤ ob_token.toInt ∧ ob_token.toInt ≤ 4) (p_ob_value : (0 : Int) ≤ ob_value.toInt ∧ ob_value.toInt ≤ 9999) (p_ob_faultKind : (0 : Int) ≤ ob_faultKind.toInt ∧ ob_faultKind.toInt ≤ 3) (p_ob_houseMany : (0 : Int) ≤ ob_houseMany.toInt ∧ ob_houseMany.toInt ≤ 10) (p_ob_bestSet : (0 : Int) ≤ ob_bestSet.toInt ∧ ob_bestSet.toInt ≤ 1023) (p_ob_bestOver : (-1 : Int) ≤ ob_bestOver.toInt ∧ ob_bestOver.toInt ≤ 180) (p_ob_tenMany : (0 : Int) ≤ ob_tenMany.toInt ∧ ob_tenMany.toInt ≤ 10) (p_ob_callMany : (0 : Int) ≤ ob_callMany.toInt ∧ ob_callMany.toInt ≤ 16) (p_a1 : (0 : Int) ≤ a1.toInt ∧ a1.toInt ≤ 959) : Met l yX10_ofDebt (Cond.code yX10_ofDebt cX10_ofDebt 3 (some .int) :: wAll) ({ frames := 0, cells := 0, slots := 0, locals := 0 }) (va_Pc [.ref ob, .int a1, .int 0] (kp G y sz [(ce_X10 ob ob_thrown ob_world ob_images ob_hasImage ob_tape ob_taped ob_five ob_size ob_at ob_from ob_token ob_value ob_faultKind ob_faultPlace ob_fresh ob_parts ob_houses ob_houseMany ob_worthOf ob_byCall ob_over ob_bestSet ob_bestOver ob_bestWorth ob_row ob_tenDebts ob_tenMany ob_fewestBy ob_covered ob_queue ob_cameBy ob_parent ob_met ob_calls ob_callMany ob_calledOn ob_saved ob_many ob_width ob_numbers ob_moving), (ce_i9080 y ob_world fob_world)])) (va_Qi (fun (r : Int32) (w : va_W) => (∃ (v_9 : Int32), ((0 : Int) ≤ v_9.toInt ∧ v_9.toInt ≤ 15) ∧ ((v_9 : Int32).toInt = (fob_world (1880 + 5 * a1.toInt.toNat)).toInt) ∧ r = v_9 ∧ w = [(ce_X10 ob ob_thrown ob_world ob_images ob_hasImage ob_tape ob_taped ob_five ob_size ob_at ob_from ob_token ob_value ob_faultKind ob_faultPlace ob_fresh ob_parts ob_houses ob_houseMany ob_worthOf ob_byCall ob_over ob_bestSet ob_bestOver ob_bestWorth ob_row ob_tenDebts ob_tenMany ob_fewestBy ob_covered ob_queue ob_cameBy ob_parent ob_met ob_calls ob_callMany ob_calledOn ob_saved ob_many ob_width ob_numbers ob_moving), (ce_i9080 y ob_world fob_world)])) (kq G (va_A [(ce_X10 ob ob_thrown ob_world ob_images ob_hasImage ob_tape ob_taped ob_five ob_size ob_at ob_from ob_token ob_value ob_faultKind ob_faultPlace ob_fresh ob_parts ob_houses ob_houseMany ob_worthOf ob_byCall ob_over ob_bestSet ob_bestOver ob_bestWorth ob_row ob_tenDebts ob_tenMany ob_fewestBy ob_covered ob_queue ob_cameBy ob_parent ob_met ob_calls ob_callMany ob_calledOn ob_saved ob_many ob_width ob_numbers ob_moving), (ce_i9080 y ob_world fob_world)] sz)) (va_A [(ce_X10 ob ob_thrown ob_world ob_images ob_hasImage ob_tape ob_taped ob_five ob_size ob_at ob_from ob_token ob_value ob_faultKind ob_faultPlace ob_fresh ob_parts ob_houses ob_houseMany ob_worthOf ob_byCall ob_over ob_bestSet ob_bestOver ob_bestWorth ob_row ob_tenDebts ob_tenMany ob_fewestBy ob_covered ob_queue ob_cameBy ob_parent ob_met ob_calls ob_callMany ob_calledOn ob_saved ob_many ob_width ob_numbers ob_moving), (ce_i9080 y ob_world fob_world)] sz)) 0 0 (va_A [(ce_X10 ob ob_thrown ob_world ob_images ob_hasImage ob_tape ob_taped ob_five ob_size ob_at ob_from ob_token ob_value ob_faultKind ob_faultPlace ob_fresh ob_parts ob_houses ob_houseMany ob_worthOf ob_byCall ob_over ob_bestSet ob_bestOver ob_bestWorth ob_row ob_tenDebts ob_tenMany ob_fewestBy ob_covered ob_queue ob_cameBy ob_parent ob_met ob_calls ob_callMany ob_calledOn ob_saved ob_many ob_width ob_numbers ob_moving), (ce_i9080 y ob_world fob_world)] sz) := by
  refine Met.ofW (cc := cX10_ofDebt) (maxL := 3) (ret := (some .int)) (by decide) rfl ?_
  intro p e s m args below meth c s₁ B hml hv
  obtain ⟨rfl, hsz, hP, hK, hD0⟩ := hv
  have hx := B.exec
  have hb := B.bytes
  have hr := B.returns
  have hw0 : ∀ w ∈ wAll, w.before _ s = true := fun w h => atoms_spec (ws := Cond.code yX10_ofDebt cX10_ofDebt 3 (some .int) :: wAll) B.pre w (List.mem_cons_of_mem _ h)
  have hown : s.vm.findClass RX10 = some m.cls := findClass_of_methodNamed B.named
  subst hsz
  have hD := hD0.self (sz := s.heap.size)
  generalize hAe : va_A [(ce_X10 ob ob_thrown ob_world ob_images ob_hasImage ob_tape ob_taped ob_five ob_size ob_at ob_from ob_token ob_value ob_faultKind ob_faultPlace ob_fresh ob_parts ob_houses ob_houseMany ob_worthOf ob_byCall ob_over ob_bestSet ob_bestOver ob_bestWorth ob_row ob_tenDebts ob_tenMany ob_fewestBy ob_covered ob_queue ob_cameBy ob_parent ob_met ob_calls ob_callMany ob_calledOn ob_saved ob_many ob_width ob_numbers ob_moving), (ce_i9080 y ob_world fob_world)] s.heap.size = A at hD ⊢
  have hA : ∀ q : Nat, s.heap.size ≤ q → A q := fun q h => by rw [← hAe]; exact Or.inr h
  have hS : va_S A s.heap s.heap [] := va_S.rf
  have hP : va_P G vwCl [(ce_X10 ob ob_thrown ob_world ob_images ob_hasImage ob_tape ob_taped ob_five ob_size ob_at ob_from ob_token ob_value ob_faultKind ob_faultPlace ob_fresh ob_parts ob_houses ob_houseMany ob_worthOf ob_byCall ob_over ob_bestSet ob_bestOver ob_bestWorth ob_row ob_tenDebts ob_tenMany ob_fewestBy ob_covered ob_queue ob_cameBy ob_parent ob_met ob_calls ob_callMany ob_calledOn ob_saved ob_many ob_width ob_numbers ob_moving), (ce_i9080 y ob_world fob_world)] s.heap := hP
  have hl := lv_entry ([.ref ob, .int a1, .int 0]) (n := 3) (Nat.le_of_ble_eq_true rfl)
  rw [lg_entry_eq]
  generalize (lg_sl ([.ref ob, .int a1, .int 0]) ++ List.replicate (3 - (lg_sl ([.ref ob, .int a1, .int 0])).length) Slot.unset).toArray = ls at hl ⊢
  have hl : lv_has ls 3 [(0, .ref ob), (1, .int a1), (2, .int 0)] := hl
  refine lv_aload_n hx hb dX10_ofDebt_0 rfl (lv_at hl 0 rfl) ?_
  refine va_get (D := G) (ci := 10) (v := .ref ob_world) (C := RX10) (T := TX10) (N := 41) hx hb hw0 inA_wsX100 hown hK.1 hP 0 rfl rfl 1 (by decide) (hw0 _ m_352) (fun _ h9 => h9) rfl dX10_ofDebt_1 ?_
  refine lv_sipush (v := 1880) hx hb dX10_ofDebt_4 (by decide) ?_
  refine lv_iconst (v := 5) hx hb dX10_ofDebt_7 (by decide) ?_
  refine lv_iload_n hx hb dX10_ofDebt_8 rfl (lv_at hl 1 rfl) ?_
  refine lv_imul hx hb dX10_ofDebt_9 ?_
  refine lv_topi (fun v_1001 ev_1001 => ?_)
  have qv_1001 := ba_mul 5 (ev_1001.trans (Int32.mul_comm _ _)) p_a1 (by decide) (by decide) (by decide)
  have bv_1001 : (0 : Int) ≤ v_1001.toInt ∧ v_1001.toInt ≤ 4795 := qv_1001.2
  refine lv_iadd hx hb dX10_ofDebt_10 ?_
  refine lv_topi (fun v_1002 ev_1002 => ?_)
  have qv_1002 := ba_add ev_1002 (bkc (x := 1880) (c := 1880) (by decide)) bv_1001 (by decide)
  have bv_1002 : (1880 : Int) ≤ v_1002.toInt ∧ v_1002.toInt ≤ 6675 := bq_add qv_1002 (bkc (x := 1880) (c := 1880) (by decide)) bv_1001 _ _ (by decide)
  have qv_1002 : v_1002.toInt = (1880) + v_1001.toInt := qv_1002
  refine lv_iload_n hx hb dX10_ofDebt_11 rfl (lv_at hl 2 rfl) ?_
  refine lv_iadd hx hb dX10_ofDebt_12 ?_
  refine lv_topi (fun v_1003 ev_1003 => ?_)
  have qv_1003 := ba_add ev_1003 bv_1002 (bkc (x := 0) (c := 0) (by decide)) (by decide)
  have bv_1003 : (1880 : Int) ≤ v_1003.toInt ∧ v_1003.toInt ≤ 6675 := bq_add qv_1003 bv_1002 (bkc (x := 0) (c := 0) (by decide)) _ _ (by decide)
  have qv_1003 : v_1003.toInt = v_1002.toInt + (0) := qv_1003
  refine va_iald hx hb hK.1 hP 1 1 rfl rfl (vi bv_1003 (by decide)) dX10_ofDebt_13 ?_
  refine lv_topi (fun v_1004 ev_1004 => ?_)
  have bv_1004 : (0 : Int) ≤ v_1004.toInt ∧ v_1004.toInt ≤ 15 := rdw ev_1004 (p_fob_world).1.1 pl_10 (by omega) (p_a1)
  have wv_1004 : v_1004.toInt = (fob_world (1880 + 5 * a1.toInt.toNat)).toInt := by rw [ev_1004, el_at (c := 1880) (a := 5) (x := a1) (by omega) (by omega)]
  exact W.iret (v := v_1004) hx hb hr (fun t ht hW => ⟨⟨v_1004, _, rfl, ⟨v_1004, bv_1004, wv_1004, rfl, rfl⟩, by rw [ht]; exact hP, hD⟩, hS.F ht⟩) hS.2.2 dX10_ofDebt_14

set_option maxHeartbeats 4000000 in
set_option maxRecDepth 100000 in
theorem gofDebt1 (l : Launch) (G : va_G) (y : Nat → ClassId) (sz : Nat) (ob : Nat) (a1 : Int32) (ob_thrown : Int32) (ob_world : Nat) (ob_images : Nat) (ob_hasImage : Nat) (ob_tape : Nat) (ob_taped : Int32) (ob_five : Nat) (ob_size : Int32) (ob_at : Int32) (ob_from : Int32) (ob_token : Int32) (ob_value : Int32) (ob_faultKind : Int32) (ob_faultPlace : Int32) (ob_fresh : Nat) (ob_parts : Nat) (ob_houses : Nat) (ob_houseMany : Int32) (ob_worthOf : Nat) (ob_byCall : Nat) (ob_over : Nat) (ob_bestSet : Int32) (ob_bestOver : Int32) (ob_bestWorth : Int32) (ob_row : Nat) (ob_tenDebts : Nat) (ob_tenMany : Int32) (ob_fewestBy : Nat) (ob_covered : Nat) (ob_queue : Nat) (ob_cameBy : Nat) (ob_parent : Nat) (ob_met : Nat) (ob_calls : Nat) (ob_callMany : Int32) (ob_calledOn : Nat) (ob_saved : Nat) (ob_many : Nat) (ob_width : Nat) (ob_numbers : Nat) (ob_moving : Nat) (fob_world : Nat → Int32) (p_fob_world : RWw fob_world) (p_ob_taped : (0 : Int) ≤ ob_taped.toInt ∧ ob_taped.toInt ≤ 1400) (p_ob_size : (0 : Int) ≤ ob_size.toInt ∧ ob_size.toInt ≤ 1400) (p_ob_at : (0 : Int) ≤ ob_at.toInt ∧ ob_at.toInt ≤ 1400) (p_ob_from : (0 : Int) ≤ ob_from.toInt ∧ ob_from.toInt ≤ 1400) (p_ob_token : (0 : Int) ≤ ob_token.toInt ∧ ob_token.toInt ≤ 4) (p_ob_value : (0 : Int) ≤ ob_value.toInt ∧ ob_value.toInt ≤ 9999) (p_ob_faultKind : (0 : Int) ≤ ob_faultKind.toInt ∧ ob_faultKind.toInt ≤ 3) (p_ob_houseMany : (0 : Int) ≤ ob_houseMany.toInt ∧ ob_houseMany.toInt ≤ 10) (p_ob_bestSet : (0 : Int) ≤ ob_bestSet.toInt ∧ ob_bestSet.toInt ≤ 1023) (p_ob_bestOver : (-1 : Int) ≤ ob_bestOver.toInt ∧ ob_bestOver.toInt ≤ 180) (p_ob_tenMany : (0 : Int) ≤ ob_tenMany.toInt ∧ ob_tenMany.toInt ≤ 10) (p_ob_callMany : (0 : Int) ≤ ob_callMany.toInt ∧ ob_callMany.toInt ≤ 16) (p_a1 : (0 : Int) ≤ a1.toInt ∧ a1.toInt ≤ 959) : Met l yX10_ofDebt (Cond.code yX10_ofDebt cX10_ofDebt 3 (some .int) :: wAll) ({ frames := 0, cells := 0, slots := 0, locals := 0 }) (va_Pc [.ref ob, .int a1, .int 1] (kp G y sz [(ce_X10 ob ob_thrown ob_world ob_images ob_hasImage ob_tape ob_taped ob_five ob_size ob_at ob_from ob_token ob_value ob_faultKind ob_faultPlace ob_fresh ob_parts ob_houses ob_houseMany ob_worthOf ob_byCall ob_over ob_bestSet ob_bestOver ob_bestWorth ob_row ob_tenDebts ob_tenMany ob_fewestBy ob_covered ob_queue ob_cameBy ob_parent ob_met ob_calls ob_callMany ob_calledOn ob_saved ob_many ob_width ob_numbers ob_moving), (ce_i9080 y ob_world fob_world)])) (va_Qi (fun (r : Int32) (w : va_W) => (∃ (v_9 : Int32), ((0 : Int) ≤ v_9.toInt ∧ v_9.toInt ≤ 15) ∧ ((v_9 : Int32).toInt = (fob_world (1881 + 5 * a1.toInt.toNat)).toInt) ∧ r = v_9 ∧ w = [(ce_X10 ob ob_thrown ob_world ob_images ob_hasImage ob_tape ob_taped ob_five ob_size ob_at ob_from ob_token ob_value ob_faultKind ob_faultPlace ob_fresh ob_parts ob_houses ob_houseMany ob_worthOf ob_byCall ob_over ob_bestSet ob_bestOver ob_bestWorth ob_row ob_tenDebts ob_tenMany ob_fewestBy ob_covered ob_queue ob_cameBy ob_parent ob_met ob_calls ob_callMany ob_calledOn ob_saved ob_many ob_width ob_numbers ob_moving), (ce_i9080 y ob_world fob_world)])) (kq G (va_A [(ce_X10 ob ob_thrown ob_world ob_images ob_hasImage ob_tape ob_taped ob_five ob_size ob_at ob_from ob_token ob_value ob_faultKind ob_faultPlace ob_fresh ob_parts ob_houses ob_houseMany ob_worthOf ob_byCall ob_over ob_bestSet ob_bestOver ob_bestWorth ob_row ob_tenDebts ob_tenMany ob_fewestBy ob_covered ob_queue ob_cameBy ob_parent ob_met ob_calls ob_callMany ob_calledOn ob_saved ob_many ob_width ob_numbers ob_moving), (ce_i9080 y ob_world fob_world)] sz)) (va_A [(ce_X10 ob ob_thrown ob_world ob_images ob_hasImage ob_tape ob_taped ob_five ob_size ob_at ob_from ob_token ob_value ob_faultKind ob_faultPlace ob_fresh ob_parts ob_houses ob_houseMany ob_worthOf ob_byCall ob_over ob_bestSet ob_bestOver ob_bestWorth ob_row ob_tenDebts ob_tenMany ob_fewestBy ob_covered ob_queue ob_cameBy ob_parent ob_met ob_calls ob_callMany ob_calledOn ob_saved ob_many ob_width ob_numbers ob_moving), (ce_i9080 y ob_world fob_world)] sz)) 0 0 (va_A [(ce_X10 ob ob_thrown ob_world ob_images ob_hasImage ob_tape ob_taped ob_five ob_size ob_at ob_from ob_token ob_value ob_faultKind ob_faultPlace ob_fresh ob_parts ob_houses ob_houseMany ob_worthOf ob_byCall ob_over ob_bestSet ob_bestOver ob_bestWorth ob_row ob_tenDebts ob_tenMany ob_fewestBy ob_covered ob_queue ob_cameBy ob_parent ob_met ob_calls ob_callMany ob_calledOn ob_saved ob_many ob_width ob_numbers ob_moving), (ce_i9080 y ob_world fob_world)] sz) := by
  refine Met.ofW (cc := cX10_ofDebt) (maxL := 3) (ret := (some .int)) (by decide) rfl ?_
  intro p e s m args below meth c s₁ B hml hv
  obtain ⟨rfl, hsz, hP, hK, hD0⟩ := hv
  have hx := B.exec
  have hb := B.bytes
  have hr := B.returns
  have hw0 : ∀ w ∈ wAll, w.before _ s = true := fun w h => atoms_spec (ws := Cond.code yX10_ofDebt cX10_ofDebt 3 (some .int) :: wAll) B.pre w (List.mem_cons_of_mem _ h)
  have hown : s.vm.findClass RX10 = some m.cls := findClass_of_methodNamed B.named
  subst hsz
  have hD := hD0.self (sz := s.heap.size)
  generalize hAe : va_A [(ce_X10 ob ob_thrown ob_world ob_images ob_hasImage ob_tape ob_taped ob_five ob_size ob_at ob_from ob_token ob_value ob_faultKind ob_faultPlace ob_fresh ob_parts ob_houses ob_houseMany ob_worthOf ob_byCall ob_over ob_bestSet ob_bestOver ob_bestWorth ob_row ob_tenDebts ob_tenMany ob_fewestBy ob_covered ob_queue ob_cameBy ob_parent ob_met ob_calls ob_callMany ob_calledOn ob_saved ob_many ob_width ob_numbers ob_moving), (ce_i9080 y ob_world fob_world)] s.heap.size = A at hD ⊢
  have hA : ∀ q : Nat, s.heap.size ≤ q → A q := fun q h => by rw [← hAe]; exact Or.inr h
  have hS : va_S A s.heap s.heap [] := va_S.rf
  have hP : va_P G vwCl [(ce_X10 ob ob_thrown ob_world ob_images ob_hasImage ob_tape ob_taped ob_five ob_size ob_at ob_from ob_token ob_value ob_faultKind ob_faultPlace ob_fresh ob_parts ob_houses ob_houseMany ob_worthOf ob_byCall ob_over ob_bestSet ob_bestOver ob_bestWorth ob_row ob_tenDebts ob_tenMany ob_fewestBy ob_covered ob_queue ob_cameBy ob_parent ob_met ob_calls ob_callMany ob_calledOn ob_saved ob_many ob_width ob_numbers ob_moving), (ce_i9080 y ob_world fob_world)] s.heap := hP
  have hl := lv_entry ([.ref ob, .int a1, .int 1]) (n := 3) (Nat.le_of_ble_eq_true rfl)
  rw [lg_entry_eq]
  generalize (lg_sl ([.ref ob, .int a1, .int 1]) ++ List.replicate (3 - (lg_sl ([.ref ob, .int a1, .int 1])).length) Slot.unset).toArray = ls at hl ⊢
  have hl : lv_has ls 3 [(0, .ref ob), (1, .int a1), (2, .int 1)] := hl
  refine lv_aload_n hx hb dX10_ofDebt_0 rfl (lv_at hl 0 rfl) ?_
  refine va_get (D := G) (ci := 10) (v := .ref ob_world) (C := RX10) (T := TX10) (N := 41) hx hb hw0 inA_wsX100 hown hK.1 hP 0 rfl rfl 1 (by decide) (hw0 _ m_352) (fun _ h9 => h9) rfl dX10_ofDebt_1 ?_
  refine lv_sipush (v := 1880) hx hb dX10_ofDebt_4 (by decide) ?_
  refine lv_iconst (v := 5) hx hb dX10_ofDebt_7 (by decide) ?_
  refine lv_iload_n hx hb dX10_ofDebt_8 rfl (lv_at hl 1 rfl) ?_
  refine lv_imul hx hb dX10_ofDebt_9 ?_
  refine lv_topi (fun v_1001 ev_1001 => ?_)
  have qv_1001 := ba_mul 5 (ev_1001.trans (Int32.mul_comm _ _)) p_a1 (by decide) (by decide) (by decide)
  have bv_1001 : (0 : Int) ≤ v_1001.toInt ∧ v_1001.toInt ≤ 4795 := qv_1001.2
  refine lv_iadd hx hb dX10_ofDebt_10 ?_
  refine lv_topi (fun v_1002 ev_1002 => ?_)
  have qv_1002 := ba_add ev_1002 (bkc (x := 1880) (c := 1880) (by decide)) bv_1001 (by decide)
  have bv_1002 : (1880 : Int) ≤ v_1002.toInt ∧ v_1002.toInt ≤ 6675 := bq_add qv_1002 (bkc (x := 1880) (c := 1880) (by decide)) bv_1001 _ _ (by decide)
  have qv_1002 : v_1002.toInt = (1880) + v_1001.toInt := qv_1002
  refine lv_iload_n hx hb dX10_ofDebt_11 rfl (lv_at hl 2 rfl) ?_
  refine lv_iadd hx hb dX10_ofDebt_12 ?_
  refine lv_topi (fun v_1003 ev_1003 => ?_)
  have qv_1003 := ba_add ev_1003 bv_1002 (bkc (x := 1) (c := 1) (by decide)) (by decide)
  have bv_1003 : (1881 : Int) ≤ v_1003.toInt ∧ v_1003.toInt ≤ 6676 := bq_add qv_1003 bv_1002 (bkc (x := 1) (c := 1) (by decide)) _ _ (by decide)
  have qv_1003 : v_1003.toInt = v_1002.toInt + (1) := qv_1003
  refine va_iald hx hb hK.1 hP 1 1 rfl rfl (vi bv_1003 (by decide)) dX10_ofDebt_13 ?_
  refine lv_topi (fun v_1004 ev_1004 => ?_)
  have bv_1004 : (0 : Int) ≤ v_1004.toInt ∧ v_1004.toInt ≤ 15 := rdw ev_1004 (p_fob_world).1.1 pl_11 (by omega) (p_a1)
  have wv_1004 : v_1004.toInt = (fob_world (1881 + 5 * a1.toInt.toNat)).toInt := by rw [ev_1004, el_at (c := 1881) (a := 5) (x := a1) (by omega) (by omega)]
  exact W.iret (v := v_1004) hx hb hr (fun t ht hW => ⟨⟨v_1004, _, rfl, ⟨v_1004, bv_1004, wv_1004, rfl, rfl⟩, by rw [ht]; exact hP, hD⟩, hS.F ht⟩) hS.2.2 dX10_ofDebt_14

set_option maxHeartbeats 4000000 in
set_option maxRecDepth 100000 in
theorem gofDebt2 (l : Launch) (G : va_G) (y : Nat → ClassId) (sz : Nat) (ob : Nat) (a1 : Int32) (ob_thrown : Int32) (ob_world : Nat) (ob_images : Nat) (ob_hasImage : Nat) (ob_tape : Nat) (ob_taped : Int32) (ob_five : Nat) (ob_size : Int32) (ob_at : Int32) (ob_from : Int32) (ob_token : Int32) (ob_value : Int32) (ob_faultKind : Int32) (ob_faultPlace : Int32) (ob_fresh : Nat) (ob_parts : Nat) (ob_houses : Nat) (ob_houseMany : Int32) (ob_worthOf : Nat) (ob_byCall : Nat) (ob_over : Nat) (ob_bestSet : Int32) (ob_bestOver : Int32) (ob_bestWorth : Int32) (ob_row : Nat) (ob_tenDebts : Nat) (ob_tenMany : Int32) (ob_fewestBy : Nat) (ob_covered : Nat) (ob_queue : Nat) (ob_cameBy : Nat) (ob_parent : Nat) (ob_met : Nat) (ob_calls : Nat) (ob_callMany : Int32) (ob_calledOn : Nat) (ob_saved : Nat) (ob_many : Nat) (ob_width : Nat) (ob_numbers : Nat) (ob_moving : Nat) (fob_world : Nat → Int32) (p_fob_world : RWw fob_world) (p_ob_taped : (0 : Int) ≤ ob_taped.toInt ∧ ob_taped.toInt ≤ 1400) (p_ob_size : (0 : Int) ≤ ob_size.toInt ∧ ob_size.toInt ≤ 1400) (p_ob_at : (0 : Int) ≤ ob_at.toInt ∧ ob_at.toInt ≤ 1400) (p_ob_from : (0 : Int) ≤ ob_from.toInt ∧ ob_from.toInt ≤ 1400) (p_ob_token : (0 : Int) ≤ ob_token.toInt ∧ ob_token.toInt ≤ 4) (p_ob_value : (0 : Int) ≤ ob_value.toInt ∧ ob_value.toInt ≤ 9999) (p_ob_faultKind : (0 : Int) ≤ ob_faultKind.toInt ∧ ob_faultKind.toInt ≤ 3) (p_ob_houseMany : (0 : Int) ≤ ob_houseMany.toInt ∧ ob_houseMany.toInt ≤ 10) (p_ob_bestSet : (0 : Int) ≤ ob_bestSet.toInt ∧ ob_bestSet.toInt ≤ 1023) (p_ob_bestOver : (-1 : Int) ≤ ob_bestOver.toInt ∧ ob_bestOver.toInt ≤ 180) (p_ob_tenMany : (0 : Int) ≤ ob_tenMany.toInt ∧ ob_tenMany.toInt ≤ 10) (p_ob_callMany : (0 : Int) ≤ ob_callMany.toInt ∧ ob_callMany.toInt ≤ 16) (p_a1 : (0 : Int) ≤ a1.toInt ∧ a1.toInt ≤ 959) : Met l yX10_ofDebt (Cond.code yX10_ofDebt cX10_ofDebt 3 (some .int) :: wAll) ({ frames := 0, cells := 0, slots := 0, locals := 0 }) (va_Pc [.ref ob, .int a1, .int 2] (kp G y sz [(ce_X10 ob ob_thrown ob_world ob_images ob_hasImage ob_tape ob_taped ob_five ob_size ob_at ob_from ob_token ob_value ob_faultKind ob_faultPlace ob_fresh ob_parts ob_houses ob_houseMany ob_worthOf ob_byCall ob_over ob_bestSet ob_bestOver ob_bestWorth ob_row ob_tenDebts ob_tenMany ob_fewestBy ob_covered ob_queue ob_cameBy ob_parent ob_met ob_calls ob_callMany ob_calledOn ob_saved ob_many ob_width ob_numbers ob_moving), (ce_i9080 y ob_world fob_world)])) (va_Qi (fun (r : Int32) (w : va_W) => (∃ (v_9 : Int32), ((v_9 : Int32).toInt = (fob_world (1882 + 5 * a1.toInt.toNat)).toInt) ∧ r = v_9 ∧ w = [(ce_X10 ob ob_thrown ob_world ob_images ob_hasImage ob_tape ob_taped ob_five ob_size ob_at ob_from ob_token ob_value ob_faultKind ob_faultPlace ob_fresh ob_parts ob_houses ob_houseMany ob_worthOf ob_byCall ob_over ob_bestSet ob_bestOver ob_bestWorth ob_row ob_tenDebts ob_tenMany ob_fewestBy ob_covered ob_queue ob_cameBy ob_parent ob_met ob_calls ob_callMany ob_calledOn ob_saved ob_many ob_width ob_numbers ob_moving), (ce_i9080 y ob_world fob_world)])) (kq G (va_A [(ce_X10 ob ob_thrown ob_world ob_images ob_hasImage ob_tape ob_taped ob_five ob_size ob_at ob_from ob_token ob_value ob_faultKind ob_faultPlace ob_fresh ob_parts ob_houses ob_houseMany ob_worthOf ob_byCall ob_over ob_bestSet ob_bestOver ob_bestWorth ob_row ob_tenDebts ob_tenMany ob_fewestBy ob_covered ob_queue ob_cameBy ob_parent ob_met ob_calls ob_callMany ob_calledOn ob_saved ob_many ob_width ob_numbers ob_moving), (ce_i9080 y ob_world fob_world)] sz)) (va_A [(ce_X10 ob ob_thrown ob_world ob_images ob_hasImage ob_tape ob_taped ob_five ob_size ob_at ob_from ob_token ob_value ob_faultKind ob_faultPlace ob_fresh ob_parts ob_houses ob_houseMany ob_worthOf ob_byCall ob_over ob_bestSet ob_bestOver ob_bestWorth ob_row ob_tenDebts ob_tenMany ob_fewestBy ob_covered ob_queue ob_cameBy ob_parent ob_met ob_calls ob_callMany ob_calledOn ob_saved ob_many ob_width ob_numbers ob_moving), (ce_i9080 y ob_world fob_world)] sz)) 0 0 (va_A [(ce_X10 ob ob_thrown ob_world ob_images ob_hasImage ob_tape ob_taped ob_five ob_size ob_at ob_from ob_token ob_value ob_faultKind ob_faultPlace ob_fresh ob_parts ob_houses ob_houseMany ob_worthOf ob_byCall ob_over ob_bestSet ob_bestOver ob_bestWorth ob_row ob_tenDebts ob_tenMany ob_fewestBy ob_covered ob_queue ob_cameBy ob_parent ob_met ob_calls ob_callMany ob_calledOn ob_saved ob_many ob_width ob_numbers ob_moving), (ce_i9080 y ob_world fob_world)] sz) := by
  refine Met.ofW (cc := cX10_ofDebt) (maxL := 3) (ret := (some .int)) (by decide) rfl ?_
  intro p e s m args below meth c s₁ B hml hv
  obtain ⟨rfl, hsz, hP, hK, hD0⟩ := hv
  have hx := B.exec
  have hb := B.bytes
  have hr := B.returns
  have hw0 : ∀ w ∈ wAll, w.before _ s = true := fun w h => atoms_spec (ws := Cond.code yX10_ofDebt cX10_ofDebt 3 (some .int) :: wAll) B.pre w (List.mem_cons_of_mem _ h)
  have hown : s.vm.findClass RX10 = some m.cls := findClass_of_methodNamed B.named
  subst hsz
  have hD := hD0.self (sz := s.heap.size)
  generalize hAe : va_A [(ce_X10 ob ob_thrown ob_world ob_images ob_hasImage ob_tape ob_taped ob_five ob_size ob_at ob_from ob_token ob_value ob_faultKind ob_faultPlace ob_fresh ob_parts ob_houses ob_houseMany ob_worthOf ob_byCall ob_over ob_bestSet ob_bestOver ob_bestWorth ob_row ob_tenDebts ob_tenMany ob_fewestBy ob_covered ob_queue ob_cameBy ob_parent ob_met ob_calls ob_callMany ob_calledOn ob_saved ob_many ob_width ob_numbers ob_moving), (ce_i9080 y ob_world fob_world)] s.heap.size = A at hD ⊢
  have hA : ∀ q : Nat, s.heap.size ≤ q → A q := fun q h => by rw [← hAe]; exact Or.inr h
  have hS : va_S A s.heap s.heap [] := va_S.rf
  have hP : va_P G vwCl [(ce_X10 ob ob_thrown ob_world ob_images ob_hasImage ob_tape ob_taped ob_five ob_size ob_at ob_from ob_token ob_value ob_faultKind ob_faultPlace ob_fresh ob_parts ob_houses ob_houseMany ob_worthOf ob_byCall ob_over ob_bestSet ob_bestOver ob_bestWorth ob_row ob_tenDebts ob_tenMany ob_fewestBy ob_covered ob_queue ob_cameBy ob_parent ob_met ob_calls ob_callMany ob_calledOn ob_saved ob_many ob_width ob_numbers ob_moving), (ce_i9080 y ob_world fob_world)] s.heap := hP
  have hl := lv_entry ([.ref ob, .int a1, .int 2]) (n := 3) (Nat.le_of_ble_eq_true rfl)
  rw [lg_entry_eq]
  generalize (lg_sl ([.ref ob, .int a1, .int 2]) ++ List.replicate (3 - (lg_sl ([.ref ob, .int a1, .int 2])).length) Slot.unset).toArray = ls at hl ⊢
  have hl : lv_has ls 3 [(0, .ref ob), (1, .int a1), (2, .int 2)] := hl
  refine lv_aload_n hx hb dX10_ofDebt_0 rfl (lv_at hl 0 rfl) ?_
  refine va_get (D := G) (ci := 10) (v := .ref ob_world) (C := RX10) (T := TX10) (N := 41) hx hb hw0 inA_wsX100 hown hK.1 hP 0 rfl rfl 1 (by decide) (hw0 _ m_352) (fun _ h9 => h9) rfl dX10_ofDebt_1 ?_
  refine lv_sipush (v := 1880) hx hb dX10_ofDebt_4 (by decide) ?_
  refine lv_iconst (v := 5) hx hb dX10_ofDebt_7 (by decide) ?_
  refine lv_iload_n hx hb dX10_ofDebt_8 rfl (lv_at hl 1 rfl) ?_
  refine lv_imul hx hb dX10_ofDebt_9 ?_
  refine lv_topi (fun v_1001 ev_1001 => ?_)
  have qv_1001 := ba_mul 5 (ev_1001.trans (Int32.mul_comm _ _)) p_a1 (by decide) (by decide) (by decide)
  have bv_1001 : (0 : Int) ≤ v_1001.toInt ∧ v_1001.toInt ≤ 4795 := qv_1001.2
  refine lv_iadd hx hb dX10_ofDebt_10 ?_
  refine lv_topi (fun v_1002 ev_1002 => ?_)
  have qv_1002 := ba_add ev_1002 (bkc (x := 1880) (c := 1880) (by decide)) bv_1001 (by decide)
  have bv_1002 : (1880 : Int) ≤ v_1002.toInt ∧ v_1002.toInt ≤ 6675 := bq_add qv_1002 (bkc (x := 1880) (c := 1880) (by decide)) bv_1001 _ _ (by decide)
  have qv_1002 : v_1002.toInt = (1880) + v_1001.toInt := qv_1002
  refine lv_iload_n hx hb dX10_ofDebt_11 rfl (lv_at hl 2 rfl) ?_
  refine lv_iadd hx hb dX10_ofDebt_12 ?_
  refine lv_topi (fun v_1003 ev_1003 => ?_)
  have qv_1003 := ba_add ev_1003 bv_1002 (bkc (x := 2) (c := 2) (by decide)) (by decide)
  have bv_1003 : (1882 : Int) ≤ v_1003.toInt ∧ v_1003.toInt ≤ 6677 := bq_add qv_1003 bv_1002 (bkc (x := 2) (c := 2) (by decide)) _ _ (by decide)
  have qv_1003 : v_1003.toInt = v_1002.toInt + (2) := qv_1003
  refine va_iald hx hb hK.1 hP 1 1 rfl rfl (vi bv_1003 (by decide)) dX10_ofDebt_13 ?_
  refine lv_topi (fun v_1004 ev_1004 => ?_)
  have wv_1004 : v_1004.toInt = (fob_world (1882 + 5 * a1.toInt.toNat)).toInt := by rw [ev_1004, el_at (c := 1882) (a := 5) (x := a1) (by omega) (by omega)]
  exact W.iret (v := v_1004) hx hb hr (fun t ht hW => ⟨⟨v_1004, _, rfl, ⟨v_1004, wv_1004, rfl, rfl⟩, by rw [ht]; exact hP, hD⟩, hS.F ht⟩) hS.2.2 dX10_ofDebt_14

set_option maxHeartbeats 4000000 in
set_option maxRecDepth 100000 in
theorem gofDebt3 (l : Launch) (G : va_G) (y : Nat → ClassId) (sz : Nat) (ob : Nat) (a1 : Int32) (ob_thrown : Int32) (ob_world : Nat) (ob_images : Nat) (ob_hasImage : Nat) (ob_tape : Nat) (ob_taped : Int32) (ob_five : Nat) (ob_size : Int32) (ob_at : Int32) (ob_from : Int32) (ob_token : Int32) (ob_value : Int32) (ob_faultKind : Int32) (ob_faultPlace : Int32) (ob_fresh : Nat) (ob_parts : Nat) (ob_houses : Nat) (ob_houseMany : Int32) (ob_worthOf : Nat) (ob_byCall : Nat) (ob_over : Nat) (ob_bestSet : Int32) (ob_bestOver : Int32) (ob_bestWorth : Int32) (ob_row : Nat) (ob_tenDebts : Nat) (ob_tenMany : Int32) (ob_fewestBy : Nat) (ob_covered : Nat) (ob_queue : Nat) (ob_cameBy : Nat) (ob_parent : Nat) (ob_met : Nat) (ob_calls : Nat) (ob_callMany : Int32) (ob_calledOn : Nat) (ob_saved : Nat) (ob_many : Nat) (ob_width : Nat) (ob_numbers : Nat) (ob_moving : Nat) (fob_world : Nat → Int32) (p_fob_world : RWw fob_world) (p_ob_taped : (0 : Int) ≤ ob_taped.toInt ∧ ob_taped.toInt ≤ 1400) (p_ob_size : (0 : Int) ≤ ob_size.toInt ∧ ob_size.toInt ≤ 1400) (p_ob_at : (0 : Int) ≤ ob_at.toInt ∧ ob_at.toInt ≤ 1400) (p_ob_from : (0 : Int) ≤ ob_from.toInt ∧ ob_from.toInt ≤ 1400) (p_ob_token : (0 : Int) ≤ ob_token.toInt ∧ ob_token.toInt ≤ 4) (p_ob_value : (0 : Int) ≤ ob_value.toInt ∧ ob_value.toInt ≤ 9999) (p_ob_faultKind : (0 : Int) ≤ ob_faultKind.toInt ∧ ob_faultKind.toInt ≤ 3) (p_ob_houseMany : (0 : Int) ≤ ob_houseMany.toInt ∧ ob_houseMany.toInt ≤ 10) (p_ob_bestSet : (0 : Int) ≤ ob_bestSet.toInt ∧ ob_bestSet.toInt ≤ 1023) (p_ob_bestOver : (-1 : Int) ≤ ob_bestOver.toInt ∧ ob_bestOver.toInt ≤ 180) (p_ob_tenMany : (0 : Int) ≤ ob_tenMany.toInt ∧ ob_tenMany.toInt ≤ 10) (p_ob_callMany : (0 : Int) ≤ ob_callMany.toInt ∧ ob_callMany.toInt ≤ 16) (p_a1 : (0 : Int) ≤ a1.toInt ∧ a1.toInt ≤ 959) : Met l yX10_ofDebt (Cond.code yX10_ofDebt cX10_ofDebt 3 (some .int) :: wAll) ({ frames := 0, cells := 0, slots := 0, locals := 0 }) (va_Pc [.ref ob, .int a1, .int 3] (kp G y sz [(ce_X10 ob ob_thrown ob_world ob_images ob_hasImage ob_tape ob_taped ob_five ob_size ob_at ob_from ob_token ob_value ob_faultKind ob_faultPlace ob_fresh ob_parts ob_houses ob_houseMany ob_worthOf ob_byCall ob_over ob_bestSet ob_bestOver ob_bestWorth ob_row ob_tenDebts ob_tenMany ob_fewestBy ob_covered ob_queue ob_cameBy ob_parent ob_met ob_calls ob_callMany ob_calledOn ob_saved ob_many ob_width ob_numbers ob_moving), (ce_i9080 y ob_world fob_world)])) (va_Qi (fun (r : Int32) (w : va_W) => (∃ (v_9 : Int32), ((v_9 : Int32).toInt = (fob_world (1883 + 5 * a1.toInt.toNat)).toInt) ∧ r = v_9 ∧ w = [(ce_X10 ob ob_thrown ob_world ob_images ob_hasImage ob_tape ob_taped ob_five ob_size ob_at ob_from ob_token ob_value ob_faultKind ob_faultPlace ob_fresh ob_parts ob_houses ob_houseMany ob_worthOf ob_byCall ob_over ob_bestSet ob_bestOver ob_bestWorth ob_row ob_tenDebts ob_tenMany ob_fewestBy ob_covered ob_queue ob_cameBy ob_parent ob_met ob_calls ob_callMany ob_calledOn ob_saved ob_many ob_width ob_numbers ob_moving), (ce_i9080 y ob_world fob_world)])) (kq G (va_A [(ce_X10 ob ob_thrown ob_world ob_images ob_hasImage ob_tape ob_taped ob_five ob_size ob_at ob_from ob_token ob_value ob_faultKind ob_faultPlace ob_fresh ob_parts ob_houses ob_houseMany ob_worthOf ob_byCall ob_over ob_bestSet ob_bestOver ob_bestWorth ob_row ob_tenDebts ob_tenMany ob_fewestBy ob_covered ob_queue ob_cameBy ob_parent ob_met ob_calls ob_callMany ob_calledOn ob_saved ob_many ob_width ob_numbers ob_moving), (ce_i9080 y ob_world fob_world)] sz)) (va_A [(ce_X10 ob ob_thrown ob_world ob_images ob_hasImage ob_tape ob_taped ob_five ob_size ob_at ob_from ob_token ob_value ob_faultKind ob_faultPlace ob_fresh ob_parts ob_houses ob_houseMany ob_worthOf ob_byCall ob_over ob_bestSet ob_bestOver ob_bestWorth ob_row ob_tenDebts ob_tenMany ob_fewestBy ob_covered ob_queue ob_cameBy ob_parent ob_met ob_calls ob_callMany ob_calledOn ob_saved ob_many ob_width ob_numbers ob_moving), (ce_i9080 y ob_world fob_world)] sz)) 0 0 (va_A [(ce_X10 ob ob_thrown ob_world ob_images ob_hasImage ob_tape ob_taped ob_five ob_size ob_at ob_from ob_token ob_value ob_faultKind ob_faultPlace ob_fresh ob_parts ob_houses ob_houseMany ob_worthOf ob_byCall ob_over ob_bestSet ob_bestOver ob_bestWorth ob_row ob_tenDebts ob_tenMany ob_fewestBy ob_covered ob_queue ob_cameBy ob_parent ob_met ob_calls ob_callMany ob_calledOn ob_saved ob_many ob_width ob_numbers ob_moving), (ce_i9080 y ob_world fob_world)] sz) := by
  refine Met.ofW (cc := cX10_ofDebt) (maxL := 3) (ret := (some .int)) (by decide) rfl ?_
  intro p e s m args below meth c s₁ B hml hv
  obtain ⟨rfl, hsz, hP, hK, hD0⟩ := hv
  have hx := B.exec
  have hb := B.bytes
  have hr := B.returns
  have hw0 : ∀ w ∈ wAll, w.before _ s = true := fun w h => atoms_spec (ws := Cond.code yX10_ofDebt cX10_ofDebt 3 (some .int) :: wAll) B.pre w (List.mem_cons_of_mem _ h)
  have hown : s.vm.findClass RX10 = some m.cls := findClass_of_methodNamed B.named
  subst hsz
  have hD := hD0.self (sz := s.heap.size)
  generalize hAe : va_A [(ce_X10 ob ob_thrown ob_world ob_images ob_hasImage ob_tape ob_taped ob_five ob_size ob_at ob_from ob_token ob_value ob_faultKind ob_faultPlace ob_fresh ob_parts ob_houses ob_houseMany ob_worthOf ob_byCall ob_over ob_bestSet ob_bestOver ob_bestWorth ob_row ob_tenDebts ob_tenMany ob_fewestBy ob_covered ob_queue ob_cameBy ob_parent ob_met ob_calls ob_callMany ob_calledOn ob_saved ob_many ob_width ob_numbers ob_moving), (ce_i9080 y ob_world fob_world)] s.heap.size = A at hD ⊢
  have hA : ∀ q : Nat, s.heap.size ≤ q → A q := fun q h => by rw [← hAe]; exact Or.inr h
  have hS : va_S A s.heap s.heap [] := va_S.rf
  have hP : va_P G vwCl [(ce_X10 ob ob_thrown ob_world ob_images ob_hasImage ob_tape ob_taped ob_five ob_size ob_at ob_from ob_token ob_value ob_faultKind ob_faultPlace ob_fresh ob_parts ob_houses ob_houseMany ob_worthOf ob_byCall ob_over ob_bestSet ob_bestOver ob_bestWorth ob_row ob_tenDebts ob_tenMany ob_fewestBy ob_covered ob_queue ob_cameBy ob_parent ob_met ob_calls ob_callMany ob_calledOn ob_saved ob_many ob_width ob_numbers ob_moving), (ce_i9080 y ob_world fob_world)] s.heap := hP
  have hl := lv_entry ([.ref ob, .int a1, .int 3]) (n := 3) (Nat.le_of_ble_eq_true rfl)
  rw [lg_entry_eq]
  generalize (lg_sl ([.ref ob, .int a1, .int 3]) ++ List.replicate (3 - (lg_sl ([.ref ob, .int a1, .int 3])).length) Slot.unset).toArray = ls at hl ⊢
  have hl : lv_has ls 3 [(0, .ref ob), (1, .int a1), (2, .int 3)] := hl
  refine lv_aload_n hx hb dX10_ofDebt_0 rfl (lv_at hl 0 rfl) ?_
  refine va_get (D := G) (ci := 10) (v := .ref ob_world) (C := RX10) (T := TX10) (N := 41) hx hb hw0 inA_wsX100 hown hK.1 hP 0 rfl rfl 1 (by decide) (hw0 _ m_352) (fun _ h9 => h9) rfl dX10_ofDebt_1 ?_
  refine lv_sipush (v := 1880) hx hb dX10_ofDebt_4 (by decide) ?_
  refine lv_iconst (v := 5) hx hb dX10_ofDebt_7 (by decide) ?_
  refine lv_iload_n hx hb dX10_ofDebt_8 rfl (lv_at hl 1 rfl) ?_
  refine lv_imul hx hb dX10_ofDebt_9 ?_
  refine lv_topi (fun v_1001 ev_1001 => ?_)
  have qv_1001 := ba_mul 5 (ev_1001.trans (Int32.mul_comm _ _)) p_a1 (by decide) (by decide) (by decide)
  have bv_1001 : (0 : Int) ≤ v_1001.toInt ∧ v_1001.toInt ≤ 4795 := qv_1001.2
  refine lv_iadd hx hb dX10_ofDebt_10 ?_
  refine lv_topi (fun v_1002 ev_1002 => ?_)
  have qv_1002 := ba_add ev_1002 (bkc (x := 1880) (c := 1880) (by decide)) bv_1001 (by decide)
  have bv_1002 : (1880 : Int) ≤ v_1002.toInt ∧ v_1002.toInt ≤ 6675 := bq_add qv_1002 (bkc (x := 1880) (c := 1880) (by decide)) bv_1001 _ _ (by decide)
  have qv_1002 : v_1002.toInt = (1880) + v_1001.toInt := qv_1002
  refine lv_iload_n hx hb dX10_ofDebt_11 rfl (lv_at hl 2 rfl) ?_
  refine lv_iadd hx hb dX10_ofDebt_12 ?_
  refine lv_topi (fun v_1003 ev_1003 => ?_)
  have qv_1003 := ba_add ev_1003 bv_1002 (bkc (x := 3) (c := 3) (by decide)) (by decide)
  have bv_1003 : (1883 : Int) ≤ v_1003.toInt ∧ v_1003.toInt ≤ 6678 := bq_add qv_1003 bv_1002 (bkc (x := 3) (c := 3) (by decide)) _ _ (by decide)
  have qv_1003 : v_1003.toInt = v_1002.toInt + (3) := qv_1003
  refine va_iald hx hb hK.1 hP 1 1 rfl rfl (vi bv_1003 (by decide)) dX10_ofDebt_13 ?_
  refine lv_topi (fun v_1004 ev_1004 => ?_)
  have wv_1004 : v_1004.toInt = (fob_world (1883 + 5 * a1.toInt.toNat)).toInt := by rw [ev_1004, el_at (c := 1883) (a := 5) (x := a1) (by omega) (by omega)]
  exact W.iret (v := v_1004) hx hb hr (fun t ht hW => ⟨⟨v_1004, _, rfl, ⟨v_1004, wv_1004, rfl, rfl⟩, by rw [ht]; exact hP, hD⟩, hS.F ht⟩) hS.2.2 dX10_ofDebt_14

set_option maxHeartbeats 4000000 in
set_option maxRecDepth 100000 in
theorem gofDebt4 (l : Launch) (G : va_G) (y : Nat → ClassId) (sz : Nat) (ob : Nat) (a1 : Int32) (ob_thrown : Int32) (ob_world : Nat) (ob_images : Nat) (ob_hasImage : Nat) (ob_tape : Nat) (ob_taped : Int32) (ob_five : Nat) (ob_size : Int32) (ob_at : Int32) (ob_from : Int32) (ob_token : Int32) (ob_value : Int32) (ob_faultKind : Int32) (ob_faultPlace : Int32) (ob_fresh : Nat) (ob_parts : Nat) (ob_houses : Nat) (ob_houseMany : Int32) (ob_worthOf : Nat) (ob_byCall : Nat) (ob_over : Nat) (ob_bestSet : Int32) (ob_bestOver : Int32) (ob_bestWorth : Int32) (ob_row : Nat) (ob_tenDebts : Nat) (ob_tenMany : Int32) (ob_fewestBy : Nat) (ob_covered : Nat) (ob_queue : Nat) (ob_cameBy : Nat) (ob_parent : Nat) (ob_met : Nat) (ob_calls : Nat) (ob_callMany : Int32) (ob_calledOn : Nat) (ob_saved : Nat) (ob_many : Nat) (ob_width : Nat) (ob_numbers : Nat) (ob_moving : Nat) (fob_world : Nat → Int32) (p_fob_world : RWw fob_world) (p_ob_taped : (0 : Int) ≤ ob_taped.toInt ∧ ob_taped.toInt ≤ 1400) (p_ob_size : (0 : Int) ≤ ob_size.toInt ∧ ob_size.toInt ≤ 1400) (p_ob_at : (0 : Int) ≤ ob_at.toInt ∧ ob_at.toInt ≤ 1400) (p_ob_from : (0 : Int) ≤ ob_from.toInt ∧ ob_from.toInt ≤ 1400) (p_ob_token : (0 : Int) ≤ ob_token.toInt ∧ ob_token.toInt ≤ 4) (p_ob_value : (0 : Int) ≤ ob_value.toInt ∧ ob_value.toInt ≤ 9999) (p_ob_faultKind : (0 : Int) ≤ ob_faultKind.toInt ∧ ob_faultKind.toInt ≤ 3) (p_ob_houseMany : (0 : Int) ≤ ob_houseMany.toInt ∧ ob_houseMany.toInt ≤ 10) (p_ob_bestSet : (0 : Int) ≤ ob_bestSet.toInt ∧ ob_bestSet.toInt ≤ 1023) (p_ob_bestOver : (-1 : Int) ≤ ob_bestOver.toInt ∧ ob_bestOver.toInt ≤ 180) (p_ob_tenMany : (0 : Int) ≤ ob_tenMany.toInt ∧ ob_tenMany.toInt ≤ 10) (p_ob_callMany : (0 : Int) ≤ ob_callMany.toInt ∧ ob_callMany.toInt ≤ 16) (p_a1 : (0 : Int) ≤ a1.toInt ∧ a1.toInt ≤ 959) : Met l yX10_ofDebt (Cond.code yX10_ofDebt cX10_ofDebt 3 (some .int) :: wAll) ({ frames := 0, cells := 0, slots := 0, locals := 0 }) (va_Pc [.ref ob, .int a1, .int 4] (kp G y sz [(ce_X10 ob ob_thrown ob_world ob_images ob_hasImage ob_tape ob_taped ob_five ob_size ob_at ob_from ob_token ob_value ob_faultKind ob_faultPlace ob_fresh ob_parts ob_houses ob_houseMany ob_worthOf ob_byCall ob_over ob_bestSet ob_bestOver ob_bestWorth ob_row ob_tenDebts ob_tenMany ob_fewestBy ob_covered ob_queue ob_cameBy ob_parent ob_met ob_calls ob_callMany ob_calledOn ob_saved ob_many ob_width ob_numbers ob_moving), (ce_i9080 y ob_world fob_world)])) (va_Qi (fun (r : Int32) (w : va_W) => (∃ (v_9 : Int32), ((v_9 : Int32).toInt = (fob_world (1884 + 5 * a1.toInt.toNat)).toInt) ∧ r = v_9 ∧ w = [(ce_X10 ob ob_thrown ob_world ob_images ob_hasImage ob_tape ob_taped ob_five ob_size ob_at ob_from ob_token ob_value ob_faultKind ob_faultPlace ob_fresh ob_parts ob_houses ob_houseMany ob_worthOf ob_byCall ob_over ob_bestSet ob_bestOver ob_bestWorth ob_row ob_tenDebts ob_tenMany ob_fewestBy ob_covered ob_queue ob_cameBy ob_parent ob_met ob_calls ob_callMany ob_calledOn ob_saved ob_many ob_width ob_numbers ob_moving), (ce_i9080 y ob_world fob_world)])) (kq G (va_A [(ce_X10 ob ob_thrown ob_world ob_images ob_hasImage ob_tape ob_taped ob_five ob_size ob_at ob_from ob_token ob_value ob_faultKind ob_faultPlace ob_fresh ob_parts ob_houses ob_houseMany ob_worthOf ob_byCall ob_over ob_bestSet ob_bestOver ob_bestWorth ob_row ob_tenDebts ob_tenMany ob_fewestBy ob_covered ob_queue ob_cameBy ob_parent ob_met ob_calls ob_callMany ob_calledOn ob_saved ob_many ob_width ob_numbers ob_moving), (ce_i9080 y ob_world fob_world)] sz)) (va_A [(ce_X10 ob ob_thrown ob_world ob_images ob_hasImage ob_tape ob_taped ob_five ob_size ob_at ob_from ob_token ob_value ob_faultKind ob_faultPlace ob_fresh ob_parts ob_houses ob_houseMany ob_worthOf ob_byCall ob_over ob_bestSet ob_bestOver ob_bestWorth ob_row ob_tenDebts ob_tenMany ob_fewestBy ob_covered ob_queue ob_cameBy ob_parent ob_met ob_calls ob_callMany ob_calledOn ob_saved ob_many ob_width ob_numbers ob_moving), (ce_i9080 y ob_world fob_world)] sz)) 0 0 (va_A [(ce_X10 ob ob_thrown ob_world ob_images ob_hasImage ob_tape ob_taped ob_five ob_size ob_at ob_from ob_token ob_value ob_faultKind ob_faultPlace ob_fresh ob_parts ob_houses ob_houseMany ob_worthOf ob_byCall ob_over ob_bestSet ob_bestOver ob_bestWorth ob_row ob_tenDebts ob_tenMany ob_fewestBy ob_covered ob_queue ob_cameBy ob_parent ob_met ob_calls ob_callMany ob_calledOn ob_saved ob_many ob_width ob_numbers ob_moving), (ce_i9080 y ob_world fob_world)] sz) := by
  refine Met.ofW (cc := cX10_ofDebt) (maxL := 3) (ret := (some .int)) (by decide) rfl ?_
  intro p e s m args below meth c s₁ B hml hv
  obtain ⟨rfl, hsz, hP, hK, hD0⟩ := hv
  have hx := B.exec
  have hb := B.bytes
  have hr := B.returns
  have hw0 : ∀ w ∈ wAll, w.before _ s = true := fun w h => atoms_spec (ws := Cond.code yX10_ofDebt cX10_ofDebt 3 (some .int) :: wAll) B.pre w (List.mem_cons_of_mem _ h)
  have hown : s.vm.findClass RX10 = some m.cls := findClass_of_methodNamed B.named
  subst hsz
  have hD := hD0.self (sz := s.heap.size)
  generalize hAe : va_A [(ce_X10 ob ob_thrown ob_world ob_images ob_hasImage ob_tape ob_taped ob_five ob_size ob_at ob_from ob_token ob_value ob_faultKind ob_faultPlace ob_fresh ob_parts ob_houses ob_houseMany ob_worthOf ob_byCall ob_over ob_bestSet ob_bestOver ob_bestWorth ob_row ob_tenDebts ob_tenMany ob_fewestBy ob_covered ob_queue ob_cameBy ob_parent ob_met ob_calls ob_callMany ob_calledOn ob_saved ob_many ob_width ob_numbers ob_moving), (ce_i9080 y ob_world fob_world)] s.heap.size = A at hD ⊢
  have hA : ∀ q : Nat, s.heap.size ≤ q → A q := fun q h => by rw [← hAe]; exact Or.inr h
  have hS : va_S A s.heap s.heap [] := va_S.rf
  have hP : va_P G vwCl [(ce_X10 ob ob_thrown ob_world ob_images ob_hasImage ob_tape ob_taped ob_five ob_size ob_at ob_from ob_token ob_value ob_faultKind ob_faultPlace ob_fresh ob_parts ob_houses ob_houseMany ob_worthOf ob_byCall ob_over ob_bestSet ob_bestOver ob_bestWorth ob_row ob_tenDebts ob_tenMany ob_fewestBy ob_covered ob_queue ob_cameBy ob_parent ob_met ob_calls ob_callMany ob_calledOn ob_saved ob_many ob_width ob_numbers ob_moving), (ce_i9080 y ob_world fob_world)] s.heap := hP
  have hl := lv_entry ([.ref ob, .int a1, .int 4]) (n := 3) (Nat.le_of_ble_eq_true rfl)
  rw [lg_entry_eq]
  generalize (lg_sl ([.ref ob, .int a1, .int 4]) ++ List.replicate (3 - (lg_sl ([.ref ob, .int a1, .int 4])).length) Slot.unset).toArray = ls at hl ⊢
  have hl : lv_has ls 3 [(0, .ref ob), (1, .int a1), (2, .int 4)] := hl
  refine lv_aload_n hx hb dX10_ofDebt_0 rfl (lv_at hl 0 rfl) ?_
  refine va_get (D := G) (ci := 10) (v := .ref ob_world) (C := RX10) (T := TX10) (N := 41) hx hb hw0 inA_wsX100 hown hK.1 hP 0 rfl rfl 1 (by decide) (hw0 _ m_352) (fun _ h9 => h9) rfl dX10_ofDebt_1 ?_
  refine lv_sipush (v := 1880) hx hb dX10_ofDebt_4 (by decide) ?_
  refine lv_iconst (v := 5) hx hb dX10_ofDebt_7 (by decide) ?_
  refine lv_iload_n hx hb dX10_ofDebt_8 rfl (lv_at hl 1 rfl) ?_
  refine lv_imul hx hb dX10_ofDebt_9 ?_
  refine lv_topi (fun v_1001 ev_1001 => ?_)
  have qv_1001 := ba_mul 5 (ev_1001.trans (Int32.mul_comm _ _)) p_a1 (by decide) (by decide) (by decide)
  have bv_1001 : (0 : Int) ≤ v_1001.toInt ∧ v_1001.toInt ≤ 4795 := qv_1001.2
  refine lv_iadd hx hb dX10_ofDebt_10 ?_
  refine lv_topi (fun v_1002 ev_1002 => ?_)
  have qv_1002 := ba_add ev_1002 (bkc (x := 1880) (c := 1880) (by decide)) bv_1001 (by decide)
  have bv_1002 : (1880 : Int) ≤ v_1002.toInt ∧ v_1002.toInt ≤ 6675 := bq_add qv_1002 (bkc (x := 1880) (c := 1880) (by decide)) bv_1001 _ _ (by decide)
  have qv_1002 : v_1002.toInt = (1880) + v_1001.toInt := qv_1002
  refine lv_iload_n hx hb dX10_ofDebt_11 rfl (lv_at hl 2 rfl) ?_
  refine lv_iadd hx hb dX10_ofDebt_12 ?_
  refine lv_topi (fun v_1003 ev_1003 => ?_)
  have qv_1003 := ba_add ev_1003 bv_1002 (bkc (x := 4) (c := 4) (by decide)) (by decide)
  have bv_1003 : (1884 : Int) ≤ v_1003.toInt ∧ v_1003.toInt ≤ 6679 := bq_add qv_1003 bv_1002 (bkc (x := 4) (c := 4) (by decide)) _ _ (by decide)
  have qv_1003 : v_1003.toInt = v_1002.toInt + (4) := qv_1003
  refine va_iald hx hb hK.1 hP 1 1 rfl rfl (vi bv_1003 (by decide)) dX10_ofDebt_13 ?_
  refine lv_topi (fun v_1004 ev_1004 => ?_)
  have wv_1004 : v_1004.toInt = (fob_world (1884 + 5 * a1.toInt.toNat)).toInt := by rw [ev_1004, el_at (c := 1884) (a := 5) (x := a1) (by omega) (by omega)]
  exact W.iret (v := v_1004) hx hb hr (fun t ht hW => ⟨⟨v_1004, _, rfl, ⟨v_1004, wv_1004, rfl, rfl⟩, by rw [ht]; exact hP, hD⟩, hS.F ht⟩) hS.2.2 dX10_ofDebt_14

set_option maxHeartbeats 4000000 in
set_option maxRecDepth 100000 in
theorem gdebtsOf (l : Launch) (G : va_G) (y : Nat → ClassId) (sz : Nat) (ob : Nat) (a1 : Int32) (ob_thrown : Int32) (ob_world : Nat) (ob_images : Nat) (ob_hasImage : Nat) (ob_tape : Nat) (ob_taped : Int32) (ob_five : Nat) (ob_size : Int32) (ob_at : Int32) (ob_from : Int32) (ob_token : Int32) (ob_value : Int32) (ob_faultKind : Int32) (ob_faultPlace : Int32) (ob_fresh : Nat) (ob_parts : Nat) (ob_houses : Nat) (ob_houseMany : Int32) (ob_worthOf : Nat) (ob_byCall : Nat) (ob_over : Nat) (ob_bestSet : Int32) (ob_bestOver : Int32) (ob_bestWorth : Int32) (ob_row : Nat) (ob_tenDebts : Nat) (ob_tenMany : Int32) (ob_fewestBy : Nat) (ob_covered : Nat) (ob_queue : Nat) (ob_cameBy : Nat) (ob_parent : Nat) (ob_met : Nat) (ob_calls : Nat) (ob_callMany : Int32) (ob_calledOn : Nat) (ob_saved : Nat) (ob_many : Nat) (ob_width : Nat) (ob_numbers : Nat) (ob_moving : Nat) (fob_world : Nat → Int32) (p_fob_world : RWw fob_world) (p_ob_taped : (0 : Int) ≤ ob_taped.toInt ∧ ob_taped.toInt ≤ 1400) (p_ob_size : (0 : Int) ≤ ob_size.toInt ∧ ob_size.toInt ≤ 1400) (p_ob_at : (0 : Int) ≤ ob_at.toInt ∧ ob_at.toInt ≤ 1400) (p_ob_from : (0 : Int) ≤ ob_from.toInt ∧ ob_from.toInt ≤ 1400) (p_ob_token : (0 : Int) ≤ ob_token.toInt ∧ ob_token.toInt ≤ 4) (p_ob_value : (0 : Int) ≤ ob_value.toInt ∧ ob_value.toInt ≤ 9999) (p_ob_faultKind : (0 : Int) ≤ ob_faultKind.toInt ∧ ob_faultKind.toInt ≤ 3) (p_ob_houseMany : (0 : Int) ≤ ob_houseMany.toInt ∧ ob_houseMany.toInt ≤ 10) (p_ob_bestSet : (0 : Int) ≤ ob_bestSet.toInt ∧ ob_bestSet.toInt ≤ 1023) (p_ob_bestOver : (-1 : Int) ≤ ob_bestOver.toInt ∧ ob_bestOver.toInt ≤ 180) (p_ob_tenMany : (0 : Int) ≤ ob_tenMany.toInt ∧ ob_tenMany.toInt ≤ 10) (p_ob_callMany : (0 : Int) ≤ ob_callMany.toInt ∧ ob_callMany.toInt ≤ 16) : Met l yX10_debtsOf (Cond.code yX10_debtsOf cX10_debtsOf 4 (some .int) :: wAll) ({ frames := 1, cells := 0, slots := 0, locals := 22 }) (va_Pc [.ref ob, .int a1] (kp G y sz [(ce_X10 ob ob_thrown ob_world ob_images ob_hasImage ob_tape ob_taped ob_five ob_size ob_at ob_from ob_token ob_value ob_faultKind ob_faultPlace ob_fresh ob_parts ob_houses ob_houseMany ob_worthOf ob_byCall ob_over ob_bestSet ob_bestOver ob_bestWorth ob_row ob_tenDebts ob_tenMany ob_fewestBy ob_covered ob_queue ob_cameBy ob_parent ob_met ob_calls ob_callMany ob_calledOn ob_saved ob_many ob_width ob_numbers ob_moving), (ce_i9080 y ob_world fob_world)])) (va_Qi (fun (r : Int32) (w : va_W) => (∃ (v_125 : Int32), ((0 : Int) ≤ v_125.toInt ∧ v_125.toInt ≤ 600) ∧ (∀ L, mB fob_world L → (v_125 : Int32).toInt = cnt (ofB a1.toInt) L) ∧ r = v_125 ∧ w = [(ce_X10 ob ob_thrown ob_world ob_images ob_hasImage ob_tape ob_taped ob_five ob_size ob_at ob_from ob_token ob_value ob_faultKind ob_faultPlace ob_fresh ob_parts ob_houses ob_houseMany ob_worthOf ob_byCall ob_over ob_bestSet ob_bestOver ob_bestWorth ob_row ob_tenDebts ob_tenMany ob_fewestBy ob_covered ob_queue ob_cameBy ob_parent ob_met ob_calls ob_callMany ob_calledOn ob_saved ob_many ob_width ob_numbers ob_moving), (ce_i9080 y ob_world fob_world)])) (kq G (va_A [(ce_X10 ob ob_thrown ob_world ob_images ob_hasImage ob_tape ob_taped ob_five ob_size ob_at ob_from ob_token ob_value ob_faultKind ob_faultPlace ob_fresh ob_parts ob_houses ob_houseMany ob_worthOf ob_byCall ob_over ob_bestSet ob_bestOver ob_bestWorth ob_row ob_tenDebts ob_tenMany ob_fewestBy ob_covered ob_queue ob_cameBy ob_parent ob_met ob_calls ob_callMany ob_calledOn ob_saved ob_many ob_width ob_numbers ob_moving), (ce_i9080 y ob_world fob_world)] sz)) (va_A [(ce_X10 ob ob_thrown ob_world ob_images ob_hasImage ob_tape ob_taped ob_five ob_size ob_at ob_from ob_token ob_value ob_faultKind ob_faultPlace ob_fresh ob_parts ob_houses ob_houseMany ob_worthOf ob_byCall ob_over ob_bestSet ob_bestOver ob_bestWorth ob_row ob_tenDebts ob_tenMany ob_fewestBy ob_covered ob_queue ob_cameBy ob_parent ob_met ob_calls ob_callMany ob_calledOn ob_saved ob_many ob_width ob_numbers ob_moving), (ce_i9080 y ob_world fob_world)] sz)) 0 0 (va_A [(ce_X10 ob ob_thrown ob_world ob_images ob_hasImage ob_tape ob_taped ob_five ob_size ob_at ob_from ob_token ob_value ob_faultKind ob_faultPlace ob_fresh ob_parts ob_houses ob_houseMany ob_worthOf ob_byCall ob_over ob_bestSet ob_bestOver ob_bestWorth ob_row ob_tenDebts ob_tenMany ob_fewestBy ob_covered ob_queue ob_cameBy ob_parent ob_met ob_calls ob_callMany ob_calledOn ob_saved ob_many ob_width ob_numbers ob_moving), (ce_i9080 y ob_world fob_world)] sz) := by
  refine Met.ofW (cc := cX10_debtsOf) (maxL := 4) (ret := (some .int)) (by decide) rfl ?_
  intro p e s m args below meth c s₁ B hml hv
  obtain ⟨rfl, hsz, hP, hK, hD0⟩ := hv
  have hx := B.exec
  have hb := B.bytes
  have hr := B.returns
  have hw0 : ∀ w ∈ wAll, w.before _ s = true := fun w h => atoms_spec (ws := Cond.code yX10_debtsOf cX10_debtsOf 4 (some .int) :: wAll) B.pre w (List.mem_cons_of_mem _ h)
  have hown : s.vm.findClass RX10 = some m.cls := findClass_of_methodNamed B.named
  subst hsz
  have hD := hD0.self (sz := s.heap.size)
  generalize hAe : va_A [(ce_X10 ob ob_thrown ob_world ob_images ob_hasImage ob_tape ob_taped ob_five ob_size ob_at ob_from ob_token ob_value ob_faultKind ob_faultPlace ob_fresh ob_parts ob_houses ob_houseMany ob_worthOf ob_byCall ob_over ob_bestSet ob_bestOver ob_bestWorth ob_row ob_tenDebts ob_tenMany ob_fewestBy ob_covered ob_queue ob_cameBy ob_parent ob_met ob_calls ob_callMany ob_calledOn ob_saved ob_many ob_width ob_numbers ob_moving), (ce_i9080 y ob_world fob_world)] s.heap.size = A at hD ⊢
  have hA : ∀ q : Nat, s.heap.size ≤ q → A q := fun q h => by rw [← hAe]; exact Or.inr h
  have hS : va_S A s.heap s.heap [] := va_S.rf
  have hP : va_P G vwCl [(ce_X10 ob ob_thrown ob_world ob_images ob_hasImage ob_tape ob_taped ob_five ob_size ob_at ob_from ob_token ob_value ob_faultKind ob_faultPlace ob_fresh ob_parts ob_houses ob_houseMany ob_worthOf ob_byCall ob_over ob_bestSet ob_bestOver ob_bestWorth ob_row ob_tenDebts ob_tenMany ob_fewestBy ob_covered ob_queue ob_cameBy ob_parent ob_met ob_calls ob_callMany ob_calledOn ob_saved ob_many ob_width ob_numbers ob_moving), (ce_i9080 y ob_world fob_world)] s.heap := hP
  have hl := lv_entry ([.ref ob, .int a1]) (n := 4) (Nat.le_of_ble_eq_true rfl)
  rw [lg_entry_eq]
  generalize (lg_sl ([.ref ob, .int a1]) ++ List.replicate (4 - (lg_sl ([.ref ob, .int a1])).length) Slot.unset).toArray = ls at hl ⊢
  have hl : lv_has ls 4 [(0, .ref ob), (1, .int a1)] := hl
  have hn7 : 0 ≤ (fob_world 7).toInt ∧ (fob_world 7).toInt ≤ 600 := by have h9 := (p_fob_world).1.1 7; have h8 : UBw 7 = 600 := (by decide); have h7 : LBw 7 = 0 := (by decide); omega
  refine lv_iconst (v := 0) hx hb dX10_debtsOf_0 (by decide) ?_
  refine lv_istore_n (lv' := [(2, .int 0), (0, .ref ob), (1, .int a1)]) hx hb dX10_debtsOf_1 rfl hl (by decide) rfl (fun ls hl => ?_)
  refine lv_iconst (v := 0) hx hb dX10_debtsOf_2 (by decide) ?_
  refine lv_istore_n (lv' := [(3, .int 0), (2, .int 0), (0, .ref ob), (1, .int a1)]) hx hb dX10_debtsOf_3 rfl hl (by decide) rfl (fun ls hl => ?_)
  refine loopX (fun n H locs ls st => ∃ (v_1037 : Int32) (v_1038 : Int32), (600 - v_1037.toInt).toNat = n ∧ ((0 : Int) ≤ v_1037.toInt ∧ v_1037.toInt ≤ 600) ∧ ((0 : Int) ≤ v_1038.toInt ∧ v_1038.toInt ≤ 600) ∧ (∀ L, mB fob_world L → ctI (ofB a1.toInt) L v_1037.toInt v_1038.toInt) ∧ (v_1037.toInt ≤ (fob_world 7).toInt) ∧ (v_1038.toInt ≤ v_1037.toInt) ∧ st = [] ∧ vPD G A H [(ce_X10 ob ob_thrown ob_world ob_images ob_hasImage ob_tape ob_taped ob_five ob_size ob_at ob_from ob_token ob_value ob_faultKind ob_faultPlace ob_fresh ob_parts ob_houses ob_houseMany ob_worthOf ob_byCall ob_over ob_bestSet ob_bestOver ob_bestWorth ob_row ob_tenDebts ob_tenMany ob_fewestBy ob_covered ob_queue ob_cameBy ob_parent ob_met ob_calls ob_callMany ob_calledOn ob_saved ob_many ob_width ob_numbers ob_moving), (ce_i9080 y ob_world fob_world)] ∧ va_S A s.heap H locs ∧ lv_has ls 4 [(3, .int v_1037), (2, .int v_1038), (0, .ref ob), (1, .int a1)]) ?_ (n := (600 - (0 : Int32).toInt).toNat) ⟨0, 0, rfl, (bw (0) (600) (bkc (x := 0) (c := 0) (by decide)) (by decide)), (bw (0) (600) (bkc (x := 0) (c := 0) (by decide)) (by decide)), (fun L H => ct_0 (by decide) (by decide)), (by have h90 : Int32.toInt 0 = 0 := (by decide); omega), (by have h90 : Int32.toInt 0 = 0 := (by decide); omega), rfl, ⟨hP, hD⟩, hS, lv_sub hl [0, 1, 2, 3] rfl⟩
  rintro n ih_1050 H locs ls st ⟨v_1037, v_1038, hn_1050, bv_1037, bv_1038, rl1038_0, rl1038_1, rl1038_2, rfl, ⟨hP, hD⟩, hS, hl⟩
  refine lv_iload_n hx hb dX10_debtsOf_4 rfl (lv_at hl 0 rfl) ?_
  refine lv_aload_n hx hb dX10_debtsOf_5 rfl (lv_at hl 2 rfl) ?_
  refine va_get (D := G) (ci := 10) (v := .ref ob_world) (C := RX10) (T := TX10) (N := 41) hx hb hw0 inA_wsX100 hown hK.1 hP 0 rfl rfl 1 (by decide) (hw0 _ m_352) (fun _ h9 => h9) rfl dX10_debtsOf_6 ?_
  refine lv_bipush (v := 7) hx hb dX10_debtsOf_9 (by decide) ?_
  refine va_iald hx hb hK.1 hP 1 1 rfl rfl (vi (bkc (x := 7) (c := 7) (by decide)) (by decide)) dX10_debtsOf_11 ?_
  refine lv_topi (fun v_1051 ev_1051 => ?_)
  have bv_1051 : (0 : Int) ≤ v_1051.toInt ∧ v_1051.toInt ≤ 600 := rdk ev_1051 (p_fob_world).1.1 (by decide)
  have yv_1051 : v_1051.toInt = (fob_world 7).toInt := congrArg Int32.toInt ev_1051
  refine lv_icmp_ge (tgt := 39) hx hb dX10_debtsOf_12 (by decide) (fun c_1052 => ?_) (fun c_1052 => ?_)
  · skip
    have nc_1052 := nb_le (600) (0) c_1052 bv_1051 bv_1037 (by decide)
    refine lv_iload_n hx hb dX10_debtsOf_39 rfl (lv_at hl 1 rfl) ?_
    exact W.iret (v := v_1038) hx hb hr (fun t ht hW => ⟨⟨v_1038, _, rfl, ⟨v_1038, bv_1038, (fun L H => ct_e (rl1038_0 L H) (by have h9 := H.1; omega)), rfl, rfl⟩, by rw [ht]; exact hP, hD⟩, hS.F ht⟩) hS.2.2 dX10_debtsOf_40
  · skip
    have nc_1052 := nb_nle (599) (1) c_1052 bv_1037 bv_1051 (by decide)
    refine lv_iload_n hx hb dX10_debtsOf_15 rfl (lv_at hl 1 rfl) ?_
    refine lv_aload_n hx hb dX10_debtsOf_16 rfl (lv_at hl 2 rfl) ?_
    refine lv_iload_n hx hb dX10_debtsOf_17 rfl (lv_at hl 0 rfl) ?_
    refine lv_iconst (v := 0) hx hb dX10_debtsOf_18 (by decide) ?_
    refine cVim (As := [.int v_1037, .int 0]) (rest := [.int v_1038]) ⟨hx, hb, hml, hown, hw0⟩ hA hK hP hD hS [true, true] (gofDebt0 l G y _ ob v_1037 ob_thrown ob_world ob_images ob_hasImage ob_tape ob_taped ob_five ob_size ob_at ob_from ob_token ob_value ob_faultKind ob_faultPlace ob_fresh ob_parts ob_houses ob_houseMany ob_worthOf ob_byCall ob_over ob_bestSet ob_bestOver ob_bestWorth ob_row ob_tenDebts ob_tenMany ob_fewestBy ob_covered ob_queue ob_cameBy ob_parent ob_met ob_calls ob_callMany ob_calledOn ob_saved ob_many ob_width ob_numbers ob_moving fob_world p_fob_world p_ob_taped p_ob_size p_ob_at p_ob_from p_ob_token p_ob_value p_ob_faultKind p_ob_houseMany p_ob_bestSet p_ob_bestOver p_ob_tenMany p_ob_callMany (bw (0) (959) nc_1052.1 (by decide))) rfl ⟨(callB_of 2 hw0 (gA m_576) rfl rfl rfl (hw0 _ m_41) (hw0 _ m_402) cb_X10_ofDebt ⟨Nat.le_of_ble_eq_true rfl, Nat.le_of_ble_eq_true rfl⟩), (hw0 _ m_403), (hw0 _ m_404)⟩ (ci := 10) (q := (RX10, TX10, 41)) rfl rfl rfl hl.1 (Nat.le_of_ble_eq_true rfl) dX10_debtsOf_19 ⟨Nat.le_of_ble_eq_true rfl, Nat.le_of_ble_eq_true rfl⟩ (fun r_1053 w_1053 H locs hw_1053 hP hD hS => ?_)
    obtain ⟨v_1054, bv_1054, h_1055, er_1053, rfl⟩ := hw_1053
    subst r_1053
    obtain ⟨hP, hD⟩ : vPD G A H [(ce_X10 ob ob_thrown ob_world ob_images ob_hasImage ob_tape ob_taped ob_five ob_size ob_at ob_from ob_token ob_value ob_faultKind ob_faultPlace ob_fresh ob_parts ob_houses ob_houseMany ob_worthOf ob_byCall ob_over ob_bestSet ob_bestOver ob_bestWorth ob_row ob_tenDebts ob_tenMany ob_fewestBy ob_covered ob_queue ob_cameBy ob_parent ob_met ob_calls ob_callMany ob_calledOn ob_saved ob_many ob_width ob_numbers ob_moving), (ce_i9080 y ob_world fob_world)] := ⟨hP, hD⟩
    refine lv_iload_n hx hb dX10_debtsOf_22 rfl (lv_at hl 3 rfl) ?_
    refine lv_icmp_ne (tgt := 30) hx hb dX10_debtsOf_23 (by decide) (fun c_1056 => ?_) (fun c_1056 => ?_)
    · skip
      have nc_1056 : v_1054.toInt ≠ a1.toInt := fun h9 => c_1056 (Int32.toInt_inj.mp h9)
      refine lv_iconst (v := 0) hx hb dX10_debtsOf_30 (by decide) ?_
      have h_1057 : (0 : Int) ≤ v_1038.toInt ∧ v_1038.toInt ≤ 599 := by omega
      refine lv_iadd hx hb dX10_debtsOf_31 ?_
      refine lv_topi (fun v_1058 ev_1058 => ?_)
      have qv_1058 := ba_add ev_1058 h_1057 (bkc (x := 0) (c := 0) (by decide)) (by decide)
      have bv_1058 : (0 : Int) ≤ v_1058.toInt ∧ v_1058.toInt ≤ 599 := bq_add qv_1058 h_1057 (bkc (x := 0) (c := 0) (by decide)) _ _ (by decide)
      have qv_1058 : v_1058.toInt = v_1038.toInt + (0) := qv_1058
      refine lv_istore_n (lv' := [(2, .int v_1058), (3, .int v_1037), (0, .ref ob), (1, .int a1)]) hx hb dX10_debtsOf_32 rfl hl (by decide) rfl (fun ls hl => ?_)
      obtain ⟨v_1059, ev_1059⟩ : ∃ z : Int32, z = v_1037 + 1 := ⟨_, rfl⟩
      have qv_1059 := ba_add ev_1059 nc_1052.1 (bkc (x := 1) (c := 1) (by decide)) (by decide)
      have bv_1059 : (1 : Int) ≤ v_1059.toInt ∧ v_1059.toInt ≤ 600 := bq_add qv_1059 nc_1052.1 (bkc (x := 1) (c := 1) (by decide)) _ _ (by decide)
      have qv_1059 : v_1059.toInt = v_1037.toInt + (1) := qv_1059
      refine lv_iinc (v := v_1059) (lv' := [(3, .int v_1059), (2, .int v_1058), (0, .ref ob), (1, .int a1)]) hx hb dX10_debtsOf_33 hl (k := 1) rfl (ev_1059.symm) (by decide) rfl (fun ls hl => ?_)
      refine lv_goto (tgt := 4) hx hb dX10_debtsOf_36 (by decide) ?_
      exact ih_1050 _ (ml_inc (hi := 600) hn_1050 qv_1059 (by decide) ((bw (0) (600) bv_1059 (by decide))).2) _ _ _ _ ⟨v_1059, v_1058, rfl, (bw (0) (600) bv_1059 (by decide)), (bw (0) (600) bv_1058 (by decide)), (by have lm1 : Int32.toInt (-1) = -1 := (by decide); have l91 : Int32.toInt 1 = 1 := (by decide); have l92 : Int32.toInt 2 = 2 := (by decide); have l93 : Int32.toInt 3 = 3 := (by decide); intro L H; exact ct_n (rl1038_0 L H) H.2 (by have h9 := H.1; omega) (fun d hd => decide_eq_false (by have h9 : (fob_world (1880 + 5 * v_1037.toInt.toNat)).toInt = d.1 := hd.1; have h8 : (fob_world (1881 + 5 * v_1037.toInt.toNat)).toInt = d.2.1 := hd.2.1; have h7 : (fob_world (1883 + 5 * v_1037.toInt.toNat)).toInt = d.2.2.2.1 := hd.2.2.2.1; omega)) (by omega) (by omega)), (by omega), (by omega), rfl, ⟨hP, hD⟩, hS, lv_sub hl [0, 1, 2, 3] rfl⟩
    · skip
      have nc_1056 := nb_eq (0) (15) c_1056 bv_1054 (btop a1) (by decide)
      refine lv_iconst (v := 1) hx hb dX10_debtsOf_26 (by decide) ?_
      refine lv_goto (tgt := 31) hx hb dX10_debtsOf_27 (by decide) ?_
      have h_1060 : (0 : Int) ≤ v_1038.toInt ∧ v_1038.toInt ≤ 599 := by omega
      refine lv_iadd hx hb dX10_debtsOf_31 ?_
      refine lv_topi (fun v_1061 ev_1061 => ?_)
      have qv_1061 := ba_add ev_1061 h_1060 (bkc (x := 1) (c := 1) (by decide)) (by decide)
      have bv_1061 : (1 : Int) ≤ v_1061.toInt ∧ v_1061.toInt ≤ 600 := bq_add qv_1061 h_1060 (bkc (x := 1) (c := 1) (by decide)) _ _ (by decide)
      have qv_1061 : v_1061.toInt = v_1038.toInt + (1) := qv_1061
      refine lv_istore_n (lv' := [(2, .int v_1061), (3, .int v_1037), (0, .ref ob), (1, .int a1)]) hx hb dX10_debtsOf_32 rfl hl (by decide) rfl (fun ls hl => ?_)
      obtain ⟨v_1062, ev_1062⟩ : ∃ z : Int32, z = v_1037 + 1 := ⟨_, rfl⟩
      have qv_1062 := ba_add ev_1062 nc_1052.1 (bkc (x := 1) (c := 1) (by decide)) (by decide)
      have bv_1062 : (1 : Int) ≤ v_1062.toInt ∧ v_1062.toInt ≤ 600 := bq_add qv_1062 nc_1052.1 (bkc (x := 1) (c := 1) (by decide)) _ _ (by decide)
      have qv_1062 : v_1062.toInt = v_1037.toInt + (1) := qv_1062
      refine lv_iinc (v := v_1062) (lv' := [(3, .int v_1062), (2, .int v_1061), (0, .ref ob), (1, .int a1)]) hx hb dX10_debtsOf_33 hl (k := 1) rfl (ev_1062.symm) (by decide) rfl (fun ls hl => ?_)
      refine lv_goto (tgt := 4) hx hb dX10_debtsOf_36 (by decide) ?_
      exact ih_1050 _ (ml_inc (hi := 600) hn_1050 qv_1062 (by decide) ((bw (0) (600) bv_1062 (by decide))).2) _ _ _ _ ⟨v_1062, v_1061, rfl, (bw (0) (600) bv_1062 (by decide)), (bw (0) (600) bv_1061 (by decide)), (by have lm1 : Int32.toInt (-1) = -1 := (by decide); have l91 : Int32.toInt 1 = 1 := (by decide); have l92 : Int32.toInt 2 = 2 := (by decide); have l93 : Int32.toInt 3 = 3 := (by decide); intro L H; exact ct_y (rl1038_0 L H) H.2 (by have h9 := H.1; omega) (fun d hd => decide_eq_true (by have h9 : (fob_world (1880 + 5 * v_1037.toInt.toNat)).toInt = d.1 := hd.1; have h8 : (fob_world (1881 + 5 * v_1037.toInt.toNat)).toInt = d.2.1 := hd.2.1; have h7 : (fob_world (1883 + 5 * v_1037.toInt.toNat)).toInt = d.2.2.2.1 := hd.2.2.2.1; omega)) (by omega) (by omega)), (by omega), (by omega), rfl, ⟨hP, hD⟩, hS, lv_sub hl [0, 1, 2, 3] rfl⟩

set_option maxHeartbeats 4000000 in
set_option maxRecDepth 100000 in
theorem gslightsOf (l : Launch) (G : va_G) (y : Nat → ClassId) (sz : Nat) (ob : Nat) (a1 : Int32) (ob_thrown : Int32) (ob_world : Nat) (ob_images : Nat) (ob_hasImage : Nat) (ob_tape : Nat) (ob_taped : Int32) (ob_five : Nat) (ob_size : Int32) (ob_at : Int32) (ob_from : Int32) (ob_token : Int32) (ob_value : Int32) (ob_faultKind : Int32) (ob_faultPlace : Int32) (ob_fresh : Nat) (ob_parts : Nat) (ob_houses : Nat) (ob_houseMany : Int32) (ob_worthOf : Nat) (ob_byCall : Nat) (ob_over : Nat) (ob_bestSet : Int32) (ob_bestOver : Int32) (ob_bestWorth : Int32) (ob_row : Nat) (ob_tenDebts : Nat) (ob_tenMany : Int32) (ob_fewestBy : Nat) (ob_covered : Nat) (ob_queue : Nat) (ob_cameBy : Nat) (ob_parent : Nat) (ob_met : Nat) (ob_calls : Nat) (ob_callMany : Int32) (ob_calledOn : Nat) (ob_saved : Nat) (ob_many : Nat) (ob_width : Nat) (ob_numbers : Nat) (ob_moving : Nat) (fob_world : Nat → Int32) (p_fob_world : RWw fob_world) (p_ob_taped : (0 : Int) ≤ ob_taped.toInt ∧ ob_taped.toInt ≤ 1400) (p_ob_size : (0 : Int) ≤ ob_size.toInt ∧ ob_size.toInt ≤ 1400) (p_ob_at : (0 : Int) ≤ ob_at.toInt ∧ ob_at.toInt ≤ 1400) (p_ob_from : (0 : Int) ≤ ob_from.toInt ∧ ob_from.toInt ≤ 1400) (p_ob_token : (0 : Int) ≤ ob_token.toInt ∧ ob_token.toInt ≤ 4) (p_ob_value : (0 : Int) ≤ ob_value.toInt ∧ ob_value.toInt ≤ 9999) (p_ob_faultKind : (0 : Int) ≤ ob_faultKind.toInt ∧ ob_faultKind.toInt ≤ 3) (p_ob_houseMany : (0 : Int) ≤ ob_houseMany.toInt ∧ ob_houseMany.toInt ≤ 10) (p_ob_bestSet : (0 : Int) ≤ ob_bestSet.toInt ∧ ob_bestSet.toInt ≤ 1023) (p_ob_bestOver : (-1 : Int) ≤ ob_bestOver.toInt ∧ ob_bestOver.toInt ≤ 180) (p_ob_tenMany : (0 : Int) ≤ ob_tenMany.toInt ∧ ob_tenMany.toInt ≤ 10) (p_ob_callMany : (0 : Int) ≤ ob_callMany.toInt ∧ ob_callMany.toInt ≤ 16) : Met l yX10_slightsOf (Cond.code yX10_slightsOf cX10_slightsOf 4 (some .int) :: wAll) ({ frames := 1, cells := 0, slots := 0, locals := 22 }) (va_Pc [.ref ob, .int a1] (kp G y sz [(ce_X10 ob ob_thrown ob_world ob_images ob_hasImage ob_tape ob_taped ob_five ob_size ob_at ob_from ob_token ob_value ob_faultKind ob_faultPlace ob_fresh ob_parts ob_houses ob_houseMany ob_worthOf ob_byCall ob_over ob_bestSet ob_bestOver ob_bestWorth ob_row ob_tenDebts ob_tenMany ob_fewestBy ob_covered ob_queue ob_cameBy ob_parent ob_met ob_calls ob_callMany ob_calledOn ob_saved ob_many ob_width ob_numbers ob_moving), (ce_i9080 y ob_world fob_world)])) (va_Qi (fun (r : Int32) (w : va_W) => (∃ (v_221 : Int32), ((0 : Int) ≤ v_221.toInt ∧ v_221.toInt ≤ 600) ∧ (∀ L, mB fob_world L → (v_221 : Int32).toInt = cnt (otB a1.toInt (fob_world 6).toInt) L) ∧ r = v_221 ∧ w = [(ce_X10 ob ob_thrown ob_world ob_images ob_hasImage ob_tape ob_taped ob_five ob_size ob_at ob_from ob_token ob_value ob_faultKind ob_faultPlace ob_fresh ob_parts ob_houses ob_houseMany ob_worthOf ob_byCall ob_over ob_bestSet ob_bestOver ob_bestWorth ob_row ob_tenDebts ob_tenMany ob_fewestBy ob_covered ob_queue ob_cameBy ob_parent ob_met ob_calls ob_callMany ob_calledOn ob_saved ob_many ob_width ob_numbers ob_moving), (ce_i9080 y ob_world fob_world)])) (kq G (va_A [(ce_X10 ob ob_thrown ob_world ob_images ob_hasImage ob_tape ob_taped ob_five ob_size ob_at ob_from ob_token ob_value ob_faultKind ob_faultPlace ob_fresh ob_parts ob_houses ob_houseMany ob_worthOf ob_byCall ob_over ob_bestSet ob_bestOver ob_bestWorth ob_row ob_tenDebts ob_tenMany ob_fewestBy ob_covered ob_queue ob_cameBy ob_parent ob_met ob_calls ob_callMany ob_calledOn ob_saved ob_many ob_width ob_numbers ob_moving), (ce_i9080 y ob_world fob_world)] sz)) (va_A [(ce_X10 ob ob_thrown ob_world ob_images ob_hasImage ob_tape ob_taped ob_five ob_size ob_at ob_from ob_token ob_value ob_faultKind ob_faultPlace ob_fresh ob_parts ob_houses ob_houseMany ob_worthOf ob_byCall ob_over ob_bestSet ob_bestOver ob_bestWorth ob_row ob_tenDebts ob_tenMany ob_fewestBy ob_covered ob_queue ob_cameBy ob_parent ob_met ob_calls ob_callMany ob_calledOn ob_saved ob_many ob_width ob_numbers ob_moving), (ce_i9080 y ob_world fob_world)] sz)) 0 0 (va_A [(ce_X10 ob ob_thrown ob_world ob_images ob_hasImage ob_tape ob_taped ob_five ob_size ob_at ob_from ob_token ob_value ob_faultKind ob_faultPlace ob_fresh ob_parts ob_houses ob_houseMany ob_worthOf ob_byCall ob_over ob_bestSet ob_bestOver ob_bestWorth ob_row ob_tenDebts ob_tenMany ob_fewestBy ob_covered ob_queue ob_cameBy ob_parent ob_met ob_calls ob_callMany ob_calledOn ob_saved ob_many ob_width ob_numbers ob_moving), (ce_i9080 y ob_world fob_world)] sz) := by
  refine Met.ofW (cc := cX10_slightsOf) (maxL := 4) (ret := (some .int)) (by decide) rfl ?_
  intro p e s m args below meth c s₁ B hml hv
  obtain ⟨rfl, hsz, hP, hK, hD0⟩ := hv
  have hx := B.exec
  have hb := B.bytes
  have hr := B.returns
  have hw0 : ∀ w ∈ wAll, w.before _ s = true := fun w h => atoms_spec (ws := Cond.code yX10_slightsOf cX10_slightsOf 4 (some .int) :: wAll) B.pre w (List.mem_cons_of_mem _ h)
  have hown : s.vm.findClass RX10 = some m.cls := findClass_of_methodNamed B.named
  subst hsz
  have hD := hD0.self (sz := s.heap.size)
  generalize hAe : va_A [(ce_X10 ob ob_thrown ob_world ob_images ob_hasImage ob_tape ob_taped ob_five ob_size ob_at ob_from ob_token ob_value ob_faultKind ob_faultPlace ob_fresh ob_parts ob_houses ob_houseMany ob_worthOf ob_byCall ob_over ob_bestSet ob_bestOver ob_bestWorth ob_row ob_tenDebts ob_tenMany ob_fewestBy ob_covered ob_queue ob_cameBy ob_parent ob_met ob_calls ob_callMany ob_calledOn ob_saved ob_many ob_width ob_numbers ob_moving), (ce_i9080 y ob_world fob_world)] s.heap.size = A at hD ⊢
  have hA : ∀ q : Nat, s.heap.size ≤ q → A q := fun q h => by rw [← hAe]; exact Or.inr h
  have hS : va_S A s.heap s.heap [] := va_S.rf
  have hP : va_P G vwCl [(ce_X10 ob ob_thrown ob_world ob_images ob_hasImage ob_tape ob_taped ob_five ob_size ob_at ob_from ob_token ob_value ob_faultKind ob_faultPlace ob_fresh ob_parts ob_houses ob_houseMany ob_worthOf ob_byCall ob_over ob_bestSet ob_bestOver ob_bestWorth ob_row ob_tenDebts ob_tenMany ob_fewestBy ob_covered ob_queue ob_cameBy ob_parent ob_met ob_calls ob_callMany ob_calledOn ob_saved ob_many ob_width ob_numbers ob_moving), (ce_i9080 y ob_world fob_world)] s.heap := hP
  have hl := lv_entry ([.ref ob, .int a1]) (n := 4) (Nat.le_of_ble_eq_true rfl)
  rw [lg_entry_eq]
  generalize (lg_sl ([.ref ob, .int a1]) ++ List.replicate (4 - (lg_sl ([.ref ob, .int a1])).length) Slot.unset).toArray = ls at hl ⊢
  have hl : lv_has ls 4 [(0, .ref ob), (1, .int a1)] := hl
  have hn7 : 0 ≤ (fob_world 7).toInt ∧ (fob_world 7).toInt ≤ 600 := by have h9 := (p_fob_world).1.1 7; have h8 : UBw 7 = 600 := (by decide); have h7 : LBw 7 = 0 := (by decide); omega
  refine lv_iconst (v := 0) hx hb dX10_slightsOf_0 (by decide) ?_
  refine lv_istore_n (lv' := [(2, .int 0), (0, .ref ob), (1, .int a1)]) hx hb dX10_slightsOf_1 rfl hl (by decide) rfl (fun ls hl => ?_)
  refine lv_iconst (v := 0) hx hb dX10_slightsOf_2 (by decide) ?_
  refine lv_istore_n (lv' := [(3, .int 0), (2, .int 0), (0, .ref ob), (1, .int a1)]) hx hb dX10_slightsOf_3 rfl hl (by decide) rfl (fun ls hl => ?_)
  refine loopX (fun n H locs ls st => ∃ (v_1065 : Int32) (v_1066 : Int32), (600 - v_1065.toInt).toNat = n ∧ ((0 : Int) ≤ v_1065.toInt ∧ v_1065.toInt ≤ 600) ∧ ((0 : Int) ≤ v_1066.toInt ∧ v_1066.toInt ≤ 600) ∧ (∀ L, mB fob_world L → ctI (otB a1.toInt (fob_world 6).toInt) L v_1065.toInt v_1066.toInt) ∧ (v_1065.toInt ≤ (fob_world 7).toInt) ∧ (v_1066.toInt ≤ v_1065.toInt) ∧ st = [] ∧ vPD G A H [(ce_X10 ob ob_thrown ob_world ob_images ob_hasImage ob_tape ob_taped ob_five ob_size ob_at ob_from ob_token ob_value ob_faultKind ob_faultPlace ob_fresh ob_parts ob_houses ob_houseMany ob_worthOf ob_byCall ob_over ob_bestSet ob_bestOver ob_bestWorth ob_row ob_tenDebts ob_tenMany ob_fewestBy ob_covered ob_queue ob_cameBy ob_parent ob_met ob_calls ob_callMany ob_calledOn ob_saved ob_many ob_width ob_numbers ob_moving), (ce_i9080 y ob_world fob_world)] ∧ va_S A s.heap H locs ∧ lv_has ls 4 [(3, .int v_1065), (2, .int v_1066), (0, .ref ob), (1, .int a1)]) ?_ (n := (600 - (0 : Int32).toInt).toNat) ⟨0, 0, rfl, (bw (0) (600) (bkc (x := 0) (c := 0) (by decide)) (by decide)), (bw (0) (600) (bkc (x := 0) (c := 0) (by decide)) (by decide)), (fun L H => ct_0 (by decide) (by decide)), (by have h90 : Int32.toInt 0 = 0 := (by decide); omega), (by have h90 : Int32.toInt 0 = 0 := (by decide); omega), rfl, ⟨hP, hD⟩, hS, lv_sub hl [0, 1, 2, 3] rfl⟩
  rintro n ih_1088 H locs ls st ⟨v_1065, v_1066, hn_1088, bv_1065, bv_1066, rl1066_0, rl1066_1, rl1066_2, rfl, ⟨hP, hD⟩, hS, hl⟩
  refine lv_iload_n hx hb dX10_slightsOf_4 rfl (lv_at hl 0 rfl) ?_
  refine lv_aload_n hx hb dX10_slightsOf_5 rfl (lv_at hl 2 rfl) ?_
  refine va_get (D := G) (ci := 10) (v := .ref ob_world) (C := RX10) (T := TX10) (N := 41) hx hb hw0 inA_wsX100 hown hK.1 hP 0 rfl rfl 1 (by decide) (hw0 _ m_352) (fun _ h9 => h9) rfl dX10_slightsOf_6 ?_
  refine lv_bipush (v := 7) hx hb dX10_slightsOf_9 (by decide) ?_
  refine va_iald hx hb hK.1 hP 1 1 rfl rfl (vi (bkc (x := 7) (c := 7) (by decide)) (by decide)) dX10_slightsOf_11 ?_
  refine lv_topi (fun v_1089 ev_1089 => ?_)
  have bv_1089 : (0 : Int) ≤ v_1089.toInt ∧ v_1089.toInt ≤ 600 := rdk ev_1089 (p_fob_world).1.1 (by decide)
  have yv_1089 : v_1089.toInt = (fob_world 7).toInt := congrArg Int32.toInt ev_1089
  refine lv_icmp_ge (tgt := 52) hx hb dX10_slightsOf_12 (by decide) (fun c_1090 => ?_) (fun c_1090 => ?_)
  · skip
    have nc_1090 := nb_le (600) (0) c_1090 bv_1089 bv_1065 (by decide)
    refine lv_iload_n hx hb dX10_slightsOf_52 rfl (lv_at hl 1 rfl) ?_
    exact W.iret (v := v_1066) hx hb hr (fun t ht hW => ⟨⟨v_1066, _, rfl, ⟨v_1066, bv_1066, (fun L H => ct_e (rl1066_0 L H) (by have h9 := H.1; omega)), rfl, rfl⟩, by rw [ht]; exact hP, hD⟩, hS.F ht⟩) hS.2.2 dX10_slightsOf_53
  · skip
    have nc_1090 := nb_nle (599) (1) c_1090 bv_1065 bv_1089 (by decide)
    refine lv_iload_n hx hb dX10_slightsOf_15 rfl (lv_at hl 1 rfl) ?_
    refine lv_aload_n hx hb dX10_slightsOf_16 rfl (lv_at hl 2 rfl) ?_
    refine lv_iload_n hx hb dX10_slightsOf_17 rfl (lv_at hl 0 rfl) ?_
    refine lv_iconst (v := 1) hx hb dX10_slightsOf_18 (by decide) ?_
    refine cVim (As := [.int v_1065, .int 1]) (rest := [.int v_1066]) ⟨hx, hb, hml, hown, hw0⟩ hA hK hP hD hS [true, true] (gofDebt1 l G y _ ob v_1065 ob_thrown ob_world ob_images ob_hasImage ob_tape ob_taped ob_five ob_size ob_at ob_from ob_token ob_value ob_faultKind ob_faultPlace ob_fresh ob_parts ob_houses ob_houseMany ob_worthOf ob_byCall ob_over ob_bestSet ob_bestOver ob_bestWorth ob_row ob_tenDebts ob_tenMany ob_fewestBy ob_covered ob_queue ob_cameBy ob_parent ob_met ob_calls ob_callMany ob_calledOn ob_saved ob_many ob_width ob_numbers ob_moving fob_world p_fob_world p_ob_taped p_ob_size p_ob_at p_ob_from p_ob_token p_ob_value p_ob_faultKind p_ob_houseMany p_ob_bestSet p_ob_bestOver p_ob_tenMany p_ob_callMany (bw (0) (959) nc_1090.1 (by decide))) rfl ⟨(callB_of 2 hw0 (gA m_576) rfl rfl rfl (hw0 _ m_41) (hw0 _ m_402) cb_X10_ofDebt ⟨Nat.le_of_ble_eq_true rfl, Nat.le_of_ble_eq_true rfl⟩), (hw0 _ m_403), (hw0 _ m_404)⟩ (ci := 10) (q := (RX10, TX10, 41)) rfl rfl rfl hl.1 (Nat.le_of_ble_eq_true rfl) dX10_slightsOf_19 ⟨Nat.le_of_ble_eq_true rfl, Nat.le_of_ble_eq_true rfl⟩ (fun r_1091 w_1091 H locs hw_1091 hP hD hS => ?_)
    obtain ⟨v_1092, bv_1092, h_1093, er_1091, rfl⟩ := hw_1091
    subst r_1091
    obtain ⟨hP, hD⟩ : vPD G A H [(ce_X10 ob ob_thrown ob_world ob_images ob_hasImage ob_tape ob_taped ob_five ob_size ob_at ob_from ob_token ob_value ob_faultKind ob_faultPlace ob_fresh ob_parts ob_houses ob_houseMany ob_worthOf ob_byCall ob_over ob_bestSet ob_bestOver ob_bestWorth ob_row ob_tenDebts ob_tenMany ob_fewestBy ob_covered ob_queue ob_cameBy ob_parent ob_met ob_calls ob_callMany ob_calledOn ob_saved ob_many ob_width ob_numbers ob_moving), (ce_i9080 y ob_world fob_world)] := ⟨hP, hD⟩
    refine lv_iload_n hx hb dX10_slightsOf_22 rfl (lv_at hl 3 rfl) ?_
    refine lv_icmp_ne (tgt := 43) hx hb dX10_slightsOf_23 (by decide) (fun c_1094 => ?_) (fun c_1094 => ?_)
    · skip
      have nc_1094 : v_1092.toInt ≠ a1.toInt := fun h9 => c_1094 (Int32.toInt_inj.mp h9)
      refine lv_iconst (v := 0) hx hb dX10_slightsOf_43 (by decide) ?_
      have h_1095 : (0 : Int) ≤ v_1066.toInt ∧ v_1066.toInt ≤ 599 := by omega
      refine lv_iadd hx hb dX10_slightsOf_44 ?_
      refine lv_topi (fun v_1096 ev_1096 => ?_)
      have qv_1096 := ba_add ev_1096 h_1095 (bkc (x := 0) (c := 0) (by decide)) (by decide)
      have bv_1096 : (0 : Int) ≤ v_1096.toInt ∧ v_1096.toInt ≤ 599 := bq_add qv_1096 h_1095 (bkc (x := 0) (c := 0) (by decide)) _ _ (by decide)
      have qv_1096 : v_1096.toInt = v_1066.toInt + (0) := qv_1096
      refine lv_istore_n (lv' := [(2, .int v_1096), (3, .int v_1065), (0, .ref ob), (1, .int a1)]) hx hb dX10_slightsOf_45 rfl hl (by decide) rfl (fun ls hl => ?_)
      obtain ⟨v_1097, ev_1097⟩ : ∃ z : Int32, z = v_1065 + 1 := ⟨_, rfl⟩
      have qv_1097 := ba_add ev_1097 nc_1090.1 (bkc (x := 1) (c := 1) (by decide)) (by decide)
      have bv_1097 : (1 : Int) ≤ v_1097.toInt ∧ v_1097.toInt ≤ 600 := bq_add qv_1097 nc_1090.1 (bkc (x := 1) (c := 1) (by decide)) _ _ (by decide)
      have qv_1097 : v_1097.toInt = v_1065.toInt + (1) := qv_1097
      refine lv_iinc (v := v_1097) (lv' := [(3, .int v_1097), (2, .int v_1096), (0, .ref ob), (1, .int a1)]) hx hb dX10_slightsOf_46 hl (k := 1) rfl (ev_1097.symm) (by decide) rfl (fun ls hl => ?_)
      refine lv_goto (tgt := 4) hx hb dX10_slightsOf_49 (by decide) ?_
      exact ih_1088 _ (ml_inc (hi := 600) hn_1088 qv_1097 (by decide) ((bw (0) (600) bv_1097 (by decide))).2) _ _ _ _ ⟨v_1097, v_1096, rfl, (bw (0) (600) bv_1097 (by decide)), (bw (0) (600) bv_1096 (by decide)), (by have lm1 : Int32.toInt (-1) = -1 := (by decide); have l91 : Int32.toInt 1 = 1 := (by decide); have l92 : Int32.toInt 2 = 2 := (by decide); have l93 : Int32.toInt 3 = 3 := (by decide); intro L H; exact ct_n (rl1066_0 L H) H.2 (by have h9 := H.1; omega) (fun d hd => decide_eq_false (by have h9 : (fob_world (1880 + 5 * v_1065.toInt.toNat)).toInt = d.1 := hd.1; have h8 : (fob_world (1881 + 5 * v_1065.toInt.toNat)).toInt = d.2.1 := hd.2.1; have h7 : (fob_world (1883 + 5 * v_1065.toInt.toNat)).toInt = d.2.2.2.1 := hd.2.2.2.1; omega)) (by omega) (by omega)), (by omega), (by omega), rfl, ⟨hP, hD⟩, hS, lv_sub hl [0, 1, 2, 3] rfl⟩
    · skip
      have nc_1094 := nb_eq (0) (15) c_1094 bv_1092 (btop a1) (by decide)
      refine lv_aload_n hx hb dX10_slightsOf_26 rfl (lv_at hl 2 rfl) ?_
      refine lv_iload_n hx hb dX10_slightsOf_27 rfl (lv_at hl 0 rfl) ?_
      refine lv_iconst (v := 3) hx hb dX10_slightsOf_28 (by decide) ?_
      refine cVim (As := [.int v_1065, .int 3]) (rest := [.int v_1066]) ⟨hx, hb, hml, hown, hw0⟩ hA hK hP hD hS [true, true] (gofDebt3 l G y _ ob v_1065 ob_thrown ob_world ob_images ob_hasImage ob_tape ob_taped ob_five ob_size ob_at ob_from ob_token ob_value ob_faultKind ob_faultPlace ob_fresh ob_parts ob_houses ob_houseMany ob_worthOf ob_byCall ob_over ob_bestSet ob_bestOver ob_bestWorth ob_row ob_tenDebts ob_tenMany ob_fewestBy ob_covered ob_queue ob_cameBy ob_parent ob_met ob_calls ob_callMany ob_calledOn ob_saved ob_many ob_width ob_numbers ob_moving fob_world p_fob_world p_ob_taped p_ob_size p_ob_at p_ob_from p_ob_token p_ob_value p_ob_faultKind p_ob_houseMany p_ob_bestSet p_ob_bestOver p_ob_tenMany p_ob_callMany (bw (0) (959) nc_1090.1 (by decide))) rfl ⟨(callB_of 2 hw0 (gA m_576) rfl rfl rfl (hw0 _ m_41) (hw0 _ m_402) cb_X10_ofDebt ⟨Nat.le_of_ble_eq_true rfl, Nat.le_of_ble_eq_true rfl⟩), (hw0 _ m_403), (hw0 _ m_404)⟩ (ci := 10) (q := (RX10, TX10, 41)) rfl rfl rfl hl.1 (Nat.le_of_ble_eq_true rfl) dX10_slightsOf_29 ⟨Nat.le_of_ble_eq_true rfl, Nat.le_of_ble_eq_true rfl⟩ (fun r_1098 w_1098 H locs hw_1098 hP hD hS => ?_)
      obtain ⟨v_1099, h_1100, er_1098, rfl⟩ := hw_1098
      subst r_1098
      obtain ⟨hP, hD⟩ : vPD G A H [(ce_X10 ob ob_thrown ob_world ob_images ob_hasImage ob_tape ob_taped ob_five ob_size ob_at ob_from ob_token ob_value ob_faultKind ob_faultPlace ob_fresh ob_parts ob_houses ob_houseMany ob_worthOf ob_byCall ob_over ob_bestSet ob_bestOver ob_bestWorth ob_row ob_tenDebts ob_tenMany ob_fewestBy ob_covered ob_queue ob_cameBy ob_parent ob_met ob_calls ob_callMany ob_calledOn ob_saved ob_many ob_width ob_numbers ob_moving), (ce_i9080 y ob_world fob_world)] := ⟨hP, hD⟩
      refine lv_aload_n hx hb dX10_slightsOf_32 rfl (lv_at hl 2 rfl) ?_
      refine cVim (As := []) (rest := [.int v_1099, .int v_1066]) ⟨hx, hb, hml, hown, hw0⟩ hA hK hP hD hS [true, true] (sX10_today l G y _ ob ob_thrown ob_world ob_images ob_hasImage ob_tape ob_taped ob_five ob_size ob_at ob_from ob_token ob_value ob_faultKind ob_faultPlace ob_fresh ob_parts ob_houses ob_houseMany ob_worthOf ob_byCall ob_over ob_bestSet ob_bestOver ob_bestWorth ob_row ob_tenDebts ob_tenMany ob_fewestBy ob_covered ob_queue ob_cameBy ob_parent ob_met ob_calls ob_callMany ob_calledOn ob_saved ob_many ob_width ob_numbers ob_moving fob_world p_fob_world p_ob_taped p_ob_size p_ob_at p_ob_from p_ob_token p_ob_value p_ob_faultKind p_ob_houseMany p_ob_bestSet p_ob_bestOver p_ob_tenMany p_ob_callMany) rfl ⟨(callB_of 0 hw0 (gA m_689) rfl rfl rfl (hw0 _ m_41) (hw0 _ m_373) cb_X10_today ⟨Nat.le_of_ble_eq_true rfl, Nat.le_of_ble_eq_true rfl⟩), (hw0 _ m_374), (hw0 _ m_375)⟩ (ci := 10) (q := (RX10, TX10, 41)) rfl rfl rfl hl.1 (Nat.le_of_ble_eq_true rfl) dX10_slightsOf_33 ⟨Nat.le_of_ble_eq_true rfl, Nat.le_of_ble_eq_true rfl⟩ (fun r_1101 w_1101 H locs hw_1101 hP hD hS => ?_)
      obtain ⟨v_1102, bv_1102, h_1103, er_1101, rfl⟩ := hw_1101
      subst r_1101
      obtain ⟨hP, hD⟩ : vPD G A H [(ce_X10 ob ob_thrown ob_world ob_images ob_hasImage ob_tape ob_taped ob_five ob_size ob_at ob_from ob_token ob_value ob_faultKind ob_faultPlace ob_fresh ob_parts ob_houses ob_houseMany ob_worthOf ob_byCall ob_over ob_bestSet ob_bestOver ob_bestWorth ob_row ob_tenDebts ob_tenMany ob_fewestBy ob_covered ob_queue ob_cameBy ob_parent ob_met ob_calls ob_callMany ob_calledOn ob_saved ob_many ob_width ob_numbers ob_moving), (ce_i9080 y ob_world fob_world)] := ⟨hP, hD⟩
      refine lv_icmp_ge (tgt := 43) hx hb dX10_slightsOf_36 (by decide) (fun c_1104 => ?_) (fun c_1104 => ?_)
      · skip
        have nc_1104 := nb_le (399) (0) c_1104 bv_1102 (btop v_1099) (by decide)
        refine lv_iconst (v := 0) hx hb dX10_slightsOf_43 (by decide) ?_
        have h_1105 : (0 : Int) ≤ v_1066.toInt ∧ v_1066.toInt ≤ 599 := by omega
        refine lv_iadd hx hb dX10_slightsOf_44 ?_
        refine lv_topi (fun v_1106 ev_1106 => ?_)
        have qv_1106 := ba_add ev_1106 h_1105 (bkc (x := 0) (c := 0) (by decide)) (by decide)
        have bv_1106 : (0 : Int) ≤ v_1106.toInt ∧ v_1106.toInt ≤ 599 := bq_add qv_1106 h_1105 (bkc (x := 0) (c := 0) (by decide)) _ _ (by decide)
        have qv_1106 : v_1106.toInt = v_1066.toInt + (0) := qv_1106
        refine lv_istore_n (lv' := [(2, .int v_1106), (3, .int v_1065), (0, .ref ob), (1, .int a1)]) hx hb dX10_slightsOf_45 rfl hl (by decide) rfl (fun ls hl => ?_)
        obtain ⟨v_1107, ev_1107⟩ : ∃ z : Int32, z = v_1065 + 1 := ⟨_, rfl⟩
        have qv_1107 := ba_add ev_1107 nc_1090.1 (bkc (x := 1) (c := 1) (by decide)) (by decide)
        have bv_1107 : (1 : Int) ≤ v_1107.toInt ∧ v_1107.toInt ≤ 600 := bq_add qv_1107 nc_1090.1 (bkc (x := 1) (c := 1) (by decide)) _ _ (by decide)
        have qv_1107 : v_1107.toInt = v_1065.toInt + (1) := qv_1107
        refine lv_iinc (v := v_1107) (lv' := [(3, .int v_1107), (2, .int v_1106), (0, .ref ob), (1, .int a1)]) hx hb dX10_slightsOf_46 hl (k := 1) rfl (ev_1107.symm) (by decide) rfl (fun ls hl => ?_)
        refine lv_goto (tgt := 4) hx hb dX10_slightsOf_49 (by decide) ?_
        exact ih_1088 _ (ml_inc (hi := 600) hn_1088 qv_1107 (by decide) ((bw (0) (600) bv_1107 (by decide))).2) _ _ _ _ ⟨v_1107, v_1106, rfl, (bw (0) (600) bv_1107 (by decide)), (bw (0) (600) bv_1106 (by decide)), (by have lm1 : Int32.toInt (-1) = -1 := (by decide); have l91 : Int32.toInt 1 = 1 := (by decide); have l92 : Int32.toInt 2 = 2 := (by decide); have l93 : Int32.toInt 3 = 3 := (by decide); intro L H; exact ct_n (rl1066_0 L H) H.2 (by have h9 := H.1; omega) (fun d hd => decide_eq_false (by have h9 : (fob_world (1880 + 5 * v_1065.toInt.toNat)).toInt = d.1 := hd.1; have h8 : (fob_world (1881 + 5 * v_1065.toInt.toNat)).toInt = d.2.1 := hd.2.1; have h7 : (fob_world (1883 + 5 * v_1065.toInt.toNat)).toInt = d.2.2.2.1 := hd.2.2.2.1; omega)) (by omega) (by omega)), (by omega), (by omega), rfl, ⟨hP, hD⟩, hS, lv_sub hl [0, 1, 2, 3] rfl⟩
      · skip
        have nc_1104 := nb_nle (398) (0) c_1104 (btop v_1099) bv_1102 (by decide)
        refine lv_iconst (v := 1) hx hb dX10_slightsOf_39 (by decide) ?_
        refine lv_goto (tgt := 44) hx hb dX10_slightsOf_40 (by decide) ?_
        have h_1108 : (0 : Int) ≤ v_1066.toInt ∧ v_1066.toInt ≤ 599 := by omega
        refine lv_iadd hx hb dX10_slightsOf_44 ?_
        refine lv_topi (fun v_1109 ev_1109 => ?_)
        have qv_1109 := ba_add ev_1109 h_1108 (bkc (x := 1) (c := 1) (by decide)) (by decide)
        have bv_1109 : (1 : Int) ≤ v_1109.toInt ∧ v_1109.toInt ≤ 600 := bq_add qv_1109 h_1108 (bkc (x := 1) (c := 1) (by decide)) _ _ (by decide)
        have qv_1109 : v_1109.toInt = v_1066.toInt + (1) := qv_1109
        refine lv_istore_n (lv' := [(2, .int v_1109), (3, .int v_1065), (0, .ref ob), (1, .int a1)]) hx hb dX10_slightsOf_45 rfl hl (by decide) rfl (fun ls hl => ?_)
        obtain ⟨v_1110, ev_1110⟩ : ∃ z : Int32, z = v_1065 + 1 := ⟨_, rfl⟩
        have qv_1110 := ba_add ev_1110 nc_1090.1 (bkc (x := 1) (c := 1) (by decide)) (by decide)
        have bv_1110 : (1 : Int) ≤ v_1110.toInt ∧ v_1110.toInt ≤ 600 := bq_add qv_1110 nc_1090.1 (bkc (x := 1) (c := 1) (by decide)) _ _ (by decide)
        have qv_1110 : v_1110.toInt = v_1065.toInt + (1) := qv_1110
        refine lv_iinc (v := v_1110) (lv' := [(3, .int v_1110), (2, .int v_1109), (0, .ref ob), (1, .int a1)]) hx hb dX10_slightsOf_46 hl (k := 1) rfl (ev_1110.symm) (by decide) rfl (fun ls hl => ?_)
        refine lv_goto (tgt := 4) hx hb dX10_slightsOf_49 (by decide) ?_
        exact ih_1088 _ (ml_inc (hi := 600) hn_1088 qv_1110 (by decide) ((bw (0) (600) bv_1110 (by decide))).2) _ _ _ _ ⟨v_1110, v_1109, rfl, (bw (0) (600) bv_1110 (by decide)), (bw (0) (600) bv_1109 (by decide)), (by have lm1 : Int32.toInt (-1) = -1 := (by decide); have l91 : Int32.toInt 1 = 1 := (by decide); have l92 : Int32.toInt 2 = 2 := (by decide); have l93 : Int32.toInt 3 = 3 := (by decide); intro L H; exact ct_y (rl1066_0 L H) H.2 (by have h9 := H.1; omega) (fun d hd => decide_eq_true (by have h9 : (fob_world (1880 + 5 * v_1065.toInt.toNat)).toInt = d.1 := hd.1; have h8 : (fob_world (1881 + 5 * v_1065.toInt.toNat)).toInt = d.2.1 := hd.2.1; have h7 : (fob_world (1883 + 5 * v_1065.toInt.toNat)).toInt = d.2.2.2.1 := hd.2.2.2.1; omega)) (by omega) (by omega)), (by omega), (by omega), rfl, ⟨hP, hD⟩, hS, lv_sub hl [0, 1, 2, 3] rfl⟩

set_option maxHeartbeats 4000000 in
set_option maxRecDepth 100000 in
theorem gdrops (l : Launch) (G : va_G) (y : Nat → ClassId) (sz : Nat) (ob : Nat) (a1 : Int32) (ob_thrown : Int32) (ob_world : Nat) (ob_images : Nat) (ob_hasImage : Nat) (ob_tape : Nat) (ob_taped : Int32) (ob_five : Nat) (ob_size : Int32) (ob_at : Int32) (ob_from : Int32) (ob_token : Int32) (ob_value : Int32) (ob_faultKind : Int32) (ob_faultPlace : Int32) (ob_fresh : Nat) (ob_parts : Nat) (ob_houses : Nat) (ob_houseMany : Int32) (ob_worthOf : Nat) (ob_byCall : Nat) (ob_over : Nat) (ob_bestSet : Int32) (ob_bestOver : Int32) (ob_bestWorth : Int32) (ob_row : Nat) (ob_tenDebts : Nat) (ob_tenMany : Int32) (ob_fewestBy : Nat) (ob_covered : Nat) (ob_queue : Nat) (ob_cameBy : Nat) (ob_parent : Nat) (ob_met : Nat) (ob_calls : Nat) (ob_callMany : Int32) (ob_calledOn : Nat) (ob_saved : Nat) (ob_many : Nat) (ob_width : Nat) (ob_numbers : Nat) (ob_moving : Nat) (fob_world : Nat → Int32) (p_fob_world : RWw fob_world) (p_ob_taped : (0 : Int) ≤ ob_taped.toInt ∧ ob_taped.toInt ≤ 1400) (p_ob_size : (0 : Int) ≤ ob_size.toInt ∧ ob_size.toInt ≤ 1400) (p_ob_at : (0 : Int) ≤ ob_at.toInt ∧ ob_at.toInt ≤ 1400) (p_ob_from : (0 : Int) ≤ ob_from.toInt ∧ ob_from.toInt ≤ 1400) (p_ob_token : (0 : Int) ≤ ob_token.toInt ∧ ob_token.toInt ≤ 4) (p_ob_value : (0 : Int) ≤ ob_value.toInt ∧ ob_value.toInt ≤ 9999) (p_ob_faultKind : (0 : Int) ≤ ob_faultKind.toInt ∧ ob_faultKind.toInt ≤ 3) (p_ob_houseMany : (0 : Int) ≤ ob_houseMany.toInt ∧ ob_houseMany.toInt ≤ 10) (p_ob_bestSet : (0 : Int) ≤ ob_bestSet.toInt ∧ ob_bestSet.toInt ≤ 1023) (p_ob_bestOver : (-1 : Int) ≤ ob_bestOver.toInt ∧ ob_bestOver.toInt ≤ 180) (p_ob_tenMany : (0 : Int) ≤ ob_tenMany.toInt ∧ ob_tenMany.toInt ≤ 10) (p_ob_callMany : (0 : Int) ≤ ob_callMany.toInt ∧ ob_callMany.toInt ≤ 16) (p_a1 : (0 : Int) ≤ a1.toInt ∧ a1.toInt ≤ 599) (hq0 : 1 ≤ (fob_world 7).toInt) : Met l yX10_drops (Cond.code yX10_drops cX10_drops 3 none :: wAll) ({ frames := 0, cells := 0, slots := 0, locals := 0 }) (va_Pc [.ref ob, .int a1] (kp G y sz [(ce_X10 ob ob_thrown ob_world ob_images ob_hasImage ob_tape ob_taped ob_five ob_size ob_at ob_from ob_token ob_value ob_faultKind ob_faultPlace ob_fresh ob_parts ob_houses ob_houseMany ob_worthOf ob_byCall ob_over ob_bestSet ob_bestOver ob_bestWorth ob_row ob_tenDebts ob_tenMany ob_fewestBy ob_covered ob_queue ob_cameBy ob_parent ob_met ob_calls ob_callMany ob_calledOn ob_saved ob_many ob_width ob_numbers ob_moving), (ce_i9080 y ob_world fob_world)])) (va_Qv (fun (w : va_W) => (∃ (f_123 : Nat → Int32), (RWw f_123) ∧ ((f_123 7).toInt = (fob_world 7).toInt - 1 ∧ (f_123 8).toInt = (fob_world 8).toInt) ∧ (∀ P d Q, mB fob_world (P ++ d :: Q) → (P.length : Int) = a1.toInt → mB f_123 (P ++ Q)) ∧ ((f_123 9).toInt = (fob_world 9).toInt) ∧ (wfr fob_world f_123) ∧ (tgd fob_world f_123) ∧ w = [(ce_X10 ob ob_thrown ob_world ob_images ob_hasImage ob_tape ob_taped ob_five ob_size ob_at ob_from ob_token ob_value ob_faultKind ob_faultPlace ob_fresh ob_parts ob_houses ob_houseMany ob_worthOf ob_byCall ob_over ob_bestSet ob_bestOver ob_bestWorth ob_row ob_tenDebts ob_tenMany ob_fewestBy ob_covered ob_queue ob_cameBy ob_parent ob_met ob_calls ob_callMany ob_calledOn ob_saved ob_many ob_width ob_numbers ob_moving), (ce_i9080 y ob_world f_123)])) (kq G (va_A [(ce_X10 ob ob_thrown ob_world ob_images ob_hasImage ob_tape ob_taped ob_five ob_size ob_at ob_from ob_token ob_value ob_faultKind ob_faultPlace ob_fresh ob_parts ob_houses ob_houseMany ob_worthOf ob_byCall ob_over ob_bestSet ob_bestOver ob_bestWorth ob_row ob_tenDebts ob_tenMany ob_fewestBy ob_covered ob_queue ob_cameBy ob_parent ob_met ob_calls ob_callMany ob_calledOn ob_saved ob_many ob_width ob_numbers ob_moving), (ce_i9080 y ob_world fob_world)] sz)) (va_A [(ce_X10 ob ob_thrown ob_world ob_images ob_hasImage ob_tape ob_taped ob_five ob_size ob_at ob_from ob_token ob_value ob_faultKind ob_faultPlace ob_fresh ob_parts ob_houses ob_houseMany ob_worthOf ob_byCall ob_over ob_bestSet ob_bestOver ob_bestWorth ob_row ob_tenDebts ob_tenMany ob_fewestBy ob_covered ob_queue ob_cameBy ob_parent ob_met ob_calls ob_callMany ob_calledOn ob_saved ob_many ob_width ob_numbers ob_moving), (ce_i9080 y ob_world fob_world)] sz)) 0 0 (va_A [(ce_X10 ob ob_thrown ob_world ob_images ob_hasImage ob_tape ob_taped ob_five ob_size ob_at ob_from ob_token ob_value ob_faultKind ob_faultPlace ob_fresh ob_parts ob_houses ob_houseMany ob_worthOf ob_byCall ob_over ob_bestSet ob_bestOver ob_bestWorth ob_row ob_tenDebts ob_tenMany ob_fewestBy ob_covered ob_queue ob_cameBy ob_parent ob_met ob_calls ob_callMany ob_calledOn ob_saved ob_many ob_width ob_numbers ob_moving), (ce_i9080 y ob_world fob_world)] sz) := by
  refine Met.ofW (cc := cX10_drops) (maxL := 3) (ret := none) (by decide) rfl ?_
  intro p e s m args below meth c s₁ B hml hv
  obtain ⟨rfl, hsz, hP, hK, hD0⟩ := hv
  have hx := B.exec
  have hb := B.bytes
  have hr := B.returns
  have hw0 : ∀ w ∈ wAll, w.before _ s = true := fun w h => atoms_spec (ws := Cond.code yX10_drops cX10_drops 3 none :: wAll) B.pre w (List.mem_cons_of_mem _ h)
  have hown : s.vm.findClass RX10 = some m.cls := findClass_of_methodNamed B.named
  subst hsz
  have hD := hD0.self (sz := s.heap.size)
  generalize hAe : va_A [(ce_X10 ob ob_thrown ob_world ob_images ob_hasImage ob_tape ob_taped ob_five ob_size ob_at ob_from ob_token ob_value ob_faultKind ob_faultPlace ob_fresh ob_parts ob_houses ob_houseMany ob_worthOf ob_byCall ob_over ob_bestSet ob_bestOver ob_bestWorth ob_row ob_tenDebts ob_tenMany ob_fewestBy ob_covered ob_queue ob_cameBy ob_parent ob_met ob_calls ob_callMany ob_calledOn ob_saved ob_many ob_width ob_numbers ob_moving), (ce_i9080 y ob_world fob_world)] s.heap.size = A at hD ⊢
  have hA : ∀ q : Nat, s.heap.size ≤ q → A q := fun q h => by rw [← hAe]; exact Or.inr h
  have hS : va_S A s.heap s.heap [] := va_S.rf
  have hP : va_P G vwCl [(ce_X10 ob ob_thrown ob_world ob_images ob_hasImage ob_tape ob_taped ob_five ob_size ob_at ob_from ob_token ob_value ob_faultKind ob_faultPlace ob_fresh ob_parts ob_houses ob_houseMany ob_worthOf ob_byCall ob_over ob_bestSet ob_bestOver ob_bestWorth ob_row ob_tenDebts ob_tenMany ob_fewestBy ob_covered ob_queue ob_cameBy ob_parent ob_met ob_calls ob_callMany ob_calledOn ob_saved ob_many ob_width ob_numbers ob_moving), (ce_i9080 y ob_world fob_world)] s.heap := hP
  have hl := lv_entry ([.ref ob, .int a1]) (n := 3) (Nat.le_of_ble_eq_true rfl)
  rw [lg_entry_eq]
  generalize (lg_sl ([.ref ob, .int a1]) ++ List.replicate (3 - (lg_sl ([.ref ob, .int a1])).length) Slot.unset).toArray = ls at hl ⊢
  have hl : lv_has ls 3 [(0, .ref ob), (1, .int a1)] := hl
  have hn7 : 0 ≤ (fob_world 7).toInt ∧ (fob_world 7).toInt ≤ 600 := by have h9 := (p_fob_world).1.1 7; have h8 : UBw 7 = 600 := (by decide); have h7 : LBw 7 = 0 := (by decide); omega
  refine lv_iconst (v := 5) hx hb dX10_drops_0 (by decide) ?_
  refine lv_iload_n hx hb dX10_drops_1 rfl (lv_at hl 1 rfl) ?_
  refine lv_imul hx hb dX10_drops_2 ?_
  refine lv_topi (fun v_1001 ev_1001 => ?_)
  have qv_1001 := ba_mul 5 (ev_1001.trans (Int32.mul_comm _ _)) p_a1 (by decide) (by decide) (by decide)
  have bv_1001 : (0 : Int) ≤ v_1001.toInt ∧ v_1001.toInt ≤ 2995 := qv_1001.2
  refine lv_istore_n (lv' := [(2, .int v_1001), (0, .ref ob), (1, .int a1)]) hx hb dX10_drops_3 rfl hl (by decide) rfl (fun ls hl => ?_)
  refine loopX (fun n H locs ls st => ∃ (v_1036 : Int32) (f_1037 : Nat → Int32), (2995 - v_1036.toInt).toNat = n ∧ ((0 : Int) ≤ v_1036.toInt ∧ v_1036.toInt ≤ 2995) ∧ (RWw f_1037) ∧ ((f_1037 7).toInt = (fob_world 7).toInt ∧ (f_1037 8).toInt = (fob_world 8).toInt) ∧ ((f_1037 9).toInt = (fob_world 9).toInt) ∧ (shI fob_world f_1037 (5 * a1.toInt) v_1036.toInt) ∧ (5 * a1.toInt ≤ v_1036.toInt) ∧ (wfr fob_world f_1037) ∧ (tgd fob_world f_1037) ∧ st = [] ∧ vPD G A H [(ce_X10 ob ob_thrown ob_world ob_images ob_hasImage ob_tape ob_taped ob_five ob_size ob_at ob_from ob_token ob_value ob_faultKind ob_faultPlace ob_fresh ob_parts ob_houses ob_houseMany ob_worthOf ob_byCall ob_over ob_bestSet ob_bestOver ob_bestWorth ob_row ob_tenDebts ob_tenMany ob_fewestBy ob_covered ob_queue ob_cameBy ob_parent ob_met ob_calls ob_callMany ob_calledOn ob_saved ob_many ob_width ob_numbers ob_moving), (ce_i9080 y ob_world f_1037)] ∧ va_S A s.heap H locs ∧ lv_has ls 3 [(2, .int v_1036), (0, .ref ob)]) ?_ (n := (2995 - v_1001.toInt).toNat) ⟨v_1001, fob_world, rfl, bv_1001, p_fob_world, (by omega), (by omega), (sh_0 (by omega)), (by omega), wfr_r, tgd_r, rfl, ⟨hP, hD⟩, hS, lv_sub hl [0, 1] rfl⟩
  rintro n ih_1047 H locs ls st ⟨v_1036, f_1037, hn_1047, bv_1036, bf_1037, rl1037_0, rl1037_1, rl1037_2, rl1037_3, rl1037_4, rl1037_5, rfl, ⟨hP, hD⟩, hS, hl⟩
  refine lv_iload_n hx hb dX10_drops_4 rfl (lv_at hl 0 rfl) ?_
  refine lv_iconst (v := 5) hx hb dX10_drops_5 (by decide) ?_
  refine lv_aload_n hx hb dX10_drops_6 rfl (lv_at hl 1 rfl) ?_
  refine va_get (D := G) (ci := 10) (v := .ref ob_world) (C := RX10) (T := TX10) (N := 41) hx hb hw0 inA_wsX100 hown hK.1 hP 0 rfl rfl 1 (by decide) (hw0 _ m_352) (fun _ h9 => h9) rfl dX10_drops_7 ?_
  refine lv_bipush (v := 7) hx hb dX10_drops_10 (by decide) ?_
  refine va_iald hx hb hK.1 hP 1 1 rfl rfl (vi (bkc (x := 7) (c := 7) (by decide)) (by decide)) dX10_drops_12 ?_
  refine lv_topi (fun v_1048 ev_1048 => ?_)
  have bv_1048 : (0 : Int) ≤ v_1048.toInt ∧ v_1048.toInt ≤ 600 := rdk ev_1048 (bf_1037).1.1 (by decide)
  have yv_1048 : v_1048.toInt = (f_1037 7).toInt := congrArg Int32.toInt ev_1048
  refine lv_iconst (v := 1) hx hb dX10_drops_13 (by decide) ?_
  refine lv_isub hx hb dX10_drops_14 ?_
  refine lv_topi (fun v_1049 ev_1049 => ?_)
  have qv_1049 := ba_sub ev_1049 bv_1048 (bkc (x := 1) (c := 1) (by decide)) (by decide)
  have bv_1049 : (-1 : Int) ≤ v_1049.toInt ∧ v_1049.toInt ≤ 599 := bq_sub qv_1049 bv_1048 (bkc (x := 1) (c := 1) (by decide)) _ _ (by decide)
  have qv_1049 : v_1049.toInt = v_1048.toInt - (1) := qv_1049
  refine lv_imul hx hb dX10_drops_15 ?_
  refine lv_topi (fun v_1050 ev_1050 => ?_)
  have qv_1050 := ba_mul 5 (ev_1050.trans (Int32.mul_comm _ _)) bv_1049 (by decide) (by decide) (by decide)
  have bv_1050 : (-5 : Int) ≤ v_1050.toInt ∧ v_1050.toInt ≤ 2995 := qv_1050.2
  refine lv_icmp_ge (tgt := 47) hx hb dX10_drops_16 (by decide) (fun c_1051 => ?_) (fun c_1051 => ?_)
  · skip
    have nc_1051 := nb_le (2995) (0) c_1051 bv_1050 bv_1036 (by decide)
    refine lv_aload_n hx hb dX10_drops_47 rfl (lv_at hl 1 rfl) ?_
    refine va_get (D := G) (ci := 10) (v := .ref ob_world) (C := RX10) (T := TX10) (N := 41) hx hb hw0 inA_wsX100 hown hK.1 hP 0 rfl rfl 1 (by decide) (hw0 _ m_352) (fun _ h9 => h9) rfl dX10_drops_48 ?_
    refine lv_bipush (v := 7) hx hb dX10_drops_51 (by decide) ?_
    refine lv_dup2_11 hx hb dX10_drops_53 rfl rfl ?_
    refine va_iald hx hb hK.1 hP 1 1 rfl rfl (vi (bkc (x := 7) (c := 7) (by decide)) (by decide)) dX10_drops_54 ?_
    refine lv_topi (fun v_1052 ev_1052 => ?_)
    obtain rfl : v_1048 = v_1052 := (ev_1052.trans (ev_1048.symm)).symm
    refine lv_iconst (v := 1) hx hb dX10_drops_55 (by decide) ?_
    refine lv_isub hx hb dX10_drops_56 ?_
    refine lv_topi (fun v_1053 ev_1053 => ?_)
    obtain rfl : v_1049 = v_1053 := (ev_1053.trans (ev_1049.symm)).symm
    have h_1054 : (0 : Int) ≤ v_1049.toInt ∧ v_1049.toInt ≤ 599 := by omega
    refine va_iast hx hb hK.1 hP hD hS 1 1 rfl rfl (vi (bkc (x := 7) (c := 7) (by decide)) (by decide)) dX10_drops_57 (fun H locs hP hD hS => ?_)
    generalize hf_1055 : (upd f_1037 (7 : Int32).toNatClampNeg v_1049) = f_1055 at hP hD
    have zf_1055_7 : (f_1055 7).toInt = (v_1049 : Int32).toInt := hf_1055 ▸ pin_eq (by decide)
    have zf_1055_8 : (f_1055 8).toInt = (f_1037 8).toInt := hf_1055 ▸ pin_ne (ix_not (bkc (x := 7) (c := 7) (by decide)) (by decide))
    have zf_1055_9 : (f_1055 9).toInt = (f_1037 9).toInt := hf_1055 ▸ pin_ne (ix_not (bkc (x := 7) (c := 7) (by decide)) (by decide))
    have bf_1055 : RBw f_1055 := hf_1055 ▸ upk (bf_1037).1.1 h_1054 (by decide)
    have cf_1055 : RVw f_1055 := ⟨bf_1055, by have h97 : (f_1037 7).toInt ≤ (f_1037 8).toInt := ((bf_1037).1).2; unfold W7; omega⟩
    have df_1055 : RWw f_1055 := ⟨cf_1055, hf_1055 ▸ WQ_up (bf_1037).1.1 (bf_1037).2 (qf_ix (bkc (x := 7) (c := 7) (by decide)) (by decide))⟩
    obtain ⟨hP, hD⟩ : vPD G A H [(ce_X10 ob ob_thrown ob_world ob_images ob_hasImage ob_tape ob_taped ob_five ob_size ob_at ob_from ob_token ob_value ob_faultKind ob_faultPlace ob_fresh ob_parts ob_houses ob_houseMany ob_worthOf ob_byCall ob_over ob_bestSet ob_bestOver ob_bestWorth ob_row ob_tenDebts ob_tenMany ob_fewestBy ob_covered ob_queue ob_cameBy ob_parent ob_met ob_calls ob_callMany ob_calledOn ob_saved ob_many ob_width ob_numbers ob_moving), (ce_i9080 y ob_world f_1055)] := ⟨hP, hD⟩
    exact W.vret hx hb hr (fun t ht hW => ⟨⟨_, rfl, ⟨f_1055, df_1055, by omega, (by have lm1 : Int32.toInt (-1) = -1 := (by decide); have l91 : Int32.toInt 1 = 1 := (by decide); have l92 : Int32.toInt 2 = 2 := (by decide); have l93 : Int32.toInt 3 = 3 := (by decide); intro P d Q H hP; exact sh_e (v := v_1049) rl1037_2 (by omega) (by omega) hf_1055 (by omega) H hP), by omega, (wfr_u rl1037_4 hf_1055 (ix_wfr (bkc (x := 7) (c := 7) (by decide)) (by decide))), (tgd_u rl1037_5 hf_1055 (ix_tgd (bkc (x := 7) (c := 7) (by decide)) (by decide))), rfl⟩, by rw [ht]; exact hP, hD⟩, hS.F ht⟩) hS.2.2 dX10_drops_58
  · skip
    have nc_1051 := nb_nle (2994) (1) c_1051 bv_1036 bv_1050 (by decide)
    refine lv_aload_n hx hb dX10_drops_19 rfl (lv_at hl 1 rfl) ?_
    refine va_get (D := G) (ci := 10) (v := .ref ob_world) (C := RX10) (T := TX10) (N := 41) hx hb hw0 inA_wsX100 hown hK.1 hP 0 rfl rfl 1 (by decide) (hw0 _ m_352) (fun _ h9 => h9) rfl dX10_drops_20 ?_
    refine lv_sipush (v := 1880) hx hb dX10_drops_23 (by decide) ?_
    refine lv_iload_n hx hb dX10_drops_26 rfl (lv_at hl 0 rfl) ?_
    refine lv_iadd hx hb dX10_drops_27 ?_
    refine lv_topi (fun v_1056 ev_1056 => ?_)
    have qv_1056 := ba_add ev_1056 (bkc (x := 1880) (c := 1880) (by decide)) nc_1051.1 (by decide)
    have bv_1056 : (1880 : Int) ≤ v_1056.toInt ∧ v_1056.toInt ≤ 4874 := bq_add qv_1056 (bkc (x := 1880) (c := 1880) (by decide)) nc_1051.1 _ _ (by decide)
    have qv_1056 : v_1056.toInt = (1880) + v_1036.toInt := qv_1056
    refine lv_aload_n hx hb dX10_drops_28 rfl (lv_at hl 1 rfl) ?_
    refine va_get (D := G) (ci := 10) (v := .ref ob_world) (C := RX10) (T := TX10) (N := 41) hx hb hw0 inA_wsX100 hown hK.1 hP 0 rfl rfl 1 (by decide) (hw0 _ m_352) (fun _ h9 => h9) rfl dX10_drops_29 ?_
    refine lv_sipush (v := 1880) hx hb dX10_drops_32 (by decide) ?_
    refine lv_iload_n hx hb dX10_drops_35 rfl (lv_at hl 0 rfl) ?_
    refine lv_iadd hx hb dX10_drops_36 ?_
    refine lv_topi (fun v_1057 ev_1057 => ?_)
    obtain rfl : v_1056 = v_1057 := (ev_1057.trans (ev_1056.symm)).symm
    refine lv_iconst (v := 5) hx hb dX10_drops_37 (by decide) ?_
    refine lv_iadd hx hb dX10_drops_38 ?_
    refine lv_topi (fun v_1058 ev_1058 => ?_)
    have qv_1058 := ba_add ev_1058 bv_1056 (bkc (x := 5) (c := 5) (by decide)) (by decide)
    have bv_1058 : (1885 : Int) ≤ v_1058.toInt ∧ v_1058.toInt ≤ 4879 := bq_add qv_1058 bv_1056 (bkc (x := 5) (c := 5) (by decide)) _ _ (by decide)
    have qv_1058 : v_1058.toInt = v_1056.toInt + (5) := qv_1058
    refine va_iald hx hb hK.1 hP 1 1 rfl rfl (vi bv_1058 (by decide)) dX10_drops_39 ?_
    refine lv_topi (fun v_1059 ev_1059 => ?_)
    refine va_iast hx hb hK.1 hP hD hS 1 1 rfl rfl (vi bv_1056 (by decide)) dX10_drops_40 (fun H locs hP hD hS => ?_)
    generalize hf_1060 : (upd f_1037 (v_1056 : Int32).toNatClampNeg v_1059) = f_1060 at hP hD
    have zf_1060_7 : (f_1060 7).toInt = (f_1037 7).toInt := hf_1060 ▸ pin_ne (ix_not bv_1056 (by decide))
    have zf_1060_8 : (f_1060 8).toInt = (f_1037 8).toInt := hf_1060 ▸ pin_ne (ix_not bv_1056 (by decide))
    have zf_1060_9 : (f_1060 9).toInt = (f_1037 9).toInt := hf_1060 ▸ pin_ne (ix_not bv_1056 (by decide))
    have bf_1060 : RBw f_1060 := hf_1060 ▸ up_5 (bf_1037).1.1 ev_1059 (by omega) bv_1056 (by decide)
    have cf_1060 : RVw f_1060 := hf_1060 ▸ RV_up (bf_1037).1 (hf_1060 ▸ bf_1060) (ix_out bv_1056 (by decide))
    have df_1060 : RWw f_1060 := ⟨cf_1060, hf_1060 ▸ WQ_up (bf_1037).1.1 (bf_1037).2 (qf_ix bv_1056 (by decide))⟩
    obtain ⟨hP, hD⟩ : vPD G A H [(ce_X10 ob ob_thrown ob_world ob_images ob_hasImage ob_tape ob_taped ob_five ob_size ob_at ob_from ob_token ob_value ob_faultKind ob_faultPlace ob_fresh ob_parts ob_houses ob_houseMany ob_worthOf ob_byCall ob_over ob_bestSet ob_bestOver ob_bestWorth ob_row ob_tenDebts ob_tenMany ob_fewestBy ob_covered ob_queue ob_cameBy ob_parent ob_met ob_calls ob_callMany ob_calledOn ob_saved ob_many ob_width ob_numbers ob_moving), (ce_i9080 y ob_world f_1060)] := ⟨hP, hD⟩
    obtain ⟨v_1061, ev_1061⟩ : ∃ z : Int32, z = v_1036 + 1 := ⟨_, rfl⟩
    have qv_1061 := ba_add ev_1061 nc_1051.1 (bkc (x := 1) (c := 1) (by decide)) (by decide)
    have bv_1061 : (1 : Int) ≤ v_1061.toInt ∧ v_1061.toInt ≤ 2995 := bq_add qv_1061 nc_1051.1 (bkc (x := 1) (c := 1) (by decide)) _ _ (by decide)
    have qv_1061 : v_1061.toInt = v_1036.toInt + (1) := qv_1061
    refine lv_iinc (v := v_1061) (lv' := [(2, .int v_1061), (0, .ref ob)]) hx hb dX10_drops_41 hl (k := 0) rfl (ev_1061.symm) (by decide) rfl (fun ls hl => ?_)
    refine lv_goto (tgt := 4) hx hb dX10_drops_44 (by decide) ?_
    exact ih_1047 _ (ml_inc (hi := 2995) hn_1047 qv_1061 (by decide) ((bw (0) (2995) bv_1061 (by decide))).2) _ _ _ _ ⟨v_1061, f_1060, rfl, (bw (0) (2995) bv_1061 (by decide)), df_1060, (by omega), (by omega), (sh_s rl1037_2 hf_1060 ev_1059 (by omega) (by omega) ⟨by omega, by omega⟩ (by omega)), (by omega), (wfr_u rl1037_4 hf_1060 (ix_wfr bv_1056 (by decide))), (tgd_u rl1037_5 hf_1060 (ix_tgd bv_1056 (by decide))), rfl, ⟨hP, hD⟩, hS, lv_sub hl [0, 1] rfl⟩

set_option maxHeartbeats 4000000 in
set_option maxRecDepth 100000 in
theorem gpays (l : Launch) (G : va_G) (y : Nat → ClassId) (sz : Nat) (ob : Nat) (a1 : Int32) (a2 : Int32) (a3 : Int32) (ob_thrown : Int32) (ob_world : Nat) (ob_images : Nat) (ob_hasImage : Nat) (ob_tape : Nat) (ob_taped : Int32) (ob_five : Nat) (ob_size : Int32) (ob_at : Int32) (ob_from : Int32) (ob_token : Int32) (ob_value : Int32) (ob_faultKind : Int32) (ob_faultPlace : Int32) (ob_fresh : Nat) (ob_parts : Nat) (ob_houses : Nat) (ob_houseMany : Int32) (ob_worthOf : Nat) (ob_byCall : Nat) (ob_over : Nat) (ob_bestSet : Int32) (ob_bestOver : Int32) (ob_bestWorth : Int32) (ob_row : Nat) (ob_tenDebts : Nat) (ob_tenMany : Int32) (ob_fewestBy : Nat) (ob_covered : Nat) (ob_queue : Nat) (ob_cameBy : Nat) (ob_parent : Nat) (ob_met : Nat) (ob_calls : Nat) (ob_callMany : Int32) (ob_calledOn : Nat) (ob_saved : Nat) (ob_many : Nat) (ob_width : Nat) (ob_numbers : Nat) (ob_moving : Nat) (fob_world : Nat → Int32) (p_fob_world : RWw fob_world) (p_ob_taped : (0 : Int) ≤ ob_taped.toInt ∧ ob_taped.toInt ≤ 1400) (p_ob_size : (0 : Int) ≤ ob_size.toInt ∧ ob_size.toInt ≤ 1400) (p_ob_at : (0 : Int) ≤ ob_at.toInt ∧ ob_at.toInt ≤ 1400) (p_ob_from : (0 : Int) ≤ ob_from.toInt ∧ ob_from.toInt ≤ 1400) (p_ob_token : (0 : Int) ≤ ob_token.toInt ∧ ob_token.toInt ≤ 4) (p_ob_value : (0 : Int) ≤ ob_value.toInt ∧ ob_value.toInt ≤ 9999) (p_ob_faultKind : (0 : Int) ≤ ob_faultKind.toInt ∧ ob_faultKind.toInt ≤ 3) (p_ob_houseMany : (0 : Int) ≤ ob_houseMany.toInt ∧ ob_houseMany.toInt ≤ 10) (p_ob_bestSet : (0 : Int) ≤ ob_bestSet.toInt ∧ ob_bestSet.toInt ≤ 1023) (p_ob_bestOver : (-1 : Int) ≤ ob_bestOver.toInt ∧ ob_bestOver.toInt ≤ 180) (p_ob_tenMany : (0 : Int) ≤ ob_tenMany.toInt ∧ ob_tenMany.toInt ≤ 10) (p_ob_callMany : (0 : Int) ≤ ob_callMany.toInt ∧ ob_callMany.toInt ≤ 16) : Met l yX10_pays (Cond.code yX10_pays cX10_pays 6 (some .int) :: wAll) ({ frames := 1, cells := 0, slots := 0, locals := 22 }) (va_Pc [.ref ob, .int a1, .int a2, .int a3] (kp G y sz [(ce_X10 ob ob_thrown ob_world ob_images ob_hasImage ob_tape ob_taped ob_five ob_size ob_at ob_from ob_token ob_value ob_faultKind ob_faultPlace ob_fresh ob_parts ob_houses ob_houseMany ob_worthOf ob_byCall ob_over ob_bestSet ob_bestOver ob_bestWorth ob_row ob_tenDebts ob_tenMany ob_fewestBy ob_covered ob_queue ob_cameBy ob_parent ob_met ob_calls ob_callMany ob_calledOn ob_saved ob_many ob_width ob_numbers ob_moving), (ce_i9080 y ob_world fob_world)])) (va_Qi (fun (r : Int32) (w : va_W) => (∃ (v_279 : Int32) (f_280 : Nat → Int32), ((0 : Int) ≤ v_279.toInt ∧ v_279.toInt ≤ 600) ∧ (RWw f_280) ∧ ((f_280 7).toInt ≤ (fob_world 7).toInt ∧ (f_280 8).toInt = (fob_world 8).toInt) ∧ (∀ L, mB fob_world L → (v_279 : Int32).toInt = (L.length : Int) - ((L.filter (kpB a1.toInt a2.toInt a3.toInt)).length : Int) ∧ mB f_280 (L.filter (kpB a1.toInt a2.toInt a3.toInt))) ∧ (0 ≤ (v_279 : Int32).toInt ∧ (v_279 : Int32).toInt ≤ 600) ∧ ((f_280 9).toInt = (fob_world 9).toInt) ∧ (wfr fob_world f_280) ∧ (tgd fob_world f_280) ∧ r = v_279 ∧ w = [(ce_X10 ob ob_thrown ob_world ob_images ob_hasImage ob_tape ob_taped ob_five ob_size ob_at ob_from ob_token ob_value ob_faultKind ob_faultPlace ob_fresh ob_parts ob_houses ob_houseMany ob_worthOf ob_byCall ob_over ob_bestSet ob_bestOver ob_bestWorth ob_row ob_tenDebts ob_tenMany ob_fewestBy ob_covered ob_queue ob_cameBy ob_parent ob_met ob_calls ob_callMany ob_calledOn ob_saved ob_many ob_width ob_numbers ob_moving), (ce_i9080 y ob_world f_280)])) (kq G (va_A [(ce_X10 ob ob_thrown ob_world ob_images ob_hasImage ob_tape ob_taped ob_five ob_size ob_at ob_from ob_token ob_value ob_faultKind ob_faultPlace ob_fresh ob_parts ob_houses ob_houseMany ob_worthOf ob_byCall ob_over ob_bestSet ob_bestOver ob_bestWorth ob_row ob_tenDebts ob_tenMany ob_fewestBy ob_covered ob_queue ob_cameBy ob_parent ob_met ob_calls ob_callMany ob_calledOn ob_saved ob_many ob_width ob_numbers ob_moving), (ce_i9080 y ob_world fob_world)] sz)) (va_A [(ce_X10 ob ob_thrown ob_world ob_images ob_hasImage ob_tape ob_taped ob_five ob_size ob_at ob_from ob_token ob_value ob_faultKind ob_faultPlace ob_fresh ob_parts ob_houses ob_houseMany ob_worthOf ob_byCall ob_over ob_bestSet ob_bestOver ob_bestWorth ob_row ob_tenDebts ob_tenMany ob_fewestBy ob_covered ob_queue ob_cameBy ob_parent ob_met ob_calls ob_callMany ob_calledOn ob_saved ob_many ob_width ob_numbers ob_moving), (ce_i9080 y ob_world fob_world)] sz)) 0 0 (va_A [(ce_X10 ob ob_thrown ob_world ob_images ob_hasImage ob_tape ob_taped ob_five ob_size ob_at ob_from ob_token ob_value ob_faultKind ob_faultPlace ob_fresh ob_parts ob_houses ob_houseMany ob_worthOf ob_byCall ob_over ob_bestSet ob_bestOver ob_bestWorth ob_row ob_tenDebts ob_tenMany ob_fewestBy ob_covered ob_queue ob_cameBy ob_parent ob_met ob_calls ob_callMany ob_calledOn ob_saved ob_many ob_width ob_numbers ob_moving), (ce_i9080 y ob_world fob_world)] sz) := by
  refine Met.ofW (cc := cX10_pays) (maxL := 6) (ret := (some .int)) (by decide) rfl ?_
  intro p e s m args below meth c s₁ B hml hv
  obtain ⟨rfl, hsz, hP, hK, hD0⟩ := hv
  have hx := B.exec
  have hb := B.bytes
  have hr := B.returns
  have hw0 : ∀ w ∈ wAll, w.before _ s = true := fun w h => atoms_spec (ws := Cond.code yX10_pays cX10_pays 6 (some .int) :: wAll) B.pre w (List.mem_cons_of_mem _ h)
  have hown : s.vm.findClass RX10 = some m.cls := findClass_of_methodNamed B.named
  subst hsz
  have hD := hD0.self (sz := s.heap.size)
  generalize hAe : va_A [(ce_X10 ob ob_thrown ob_world ob_images ob_hasImage ob_tape ob_taped ob_five ob_size ob_at ob_from ob_token ob_value ob_faultKind ob_faultPlace ob_fresh ob_parts ob_houses ob_houseMany ob_worthOf ob_byCall ob_over ob_bestSet ob_bestOver ob_bestWorth ob_row ob_tenDebts ob_tenMany ob_fewestBy ob_covered ob_queue ob_cameBy ob_parent ob_met ob_calls ob_callMany ob_calledOn ob_saved ob_many ob_width ob_numbers ob_moving), (ce_i9080 y ob_world fob_world)] s.heap.size = A at hD ⊢
  have hA : ∀ q : Nat, s.heap.size ≤ q → A q := fun q h => by rw [← hAe]; exact Or.inr h
  have hS : va_S A s.heap s.heap [] := va_S.rf
  have hP : va_P G vwCl [(ce_X10 ob ob_thrown ob_world ob_images ob_hasImage ob_tape ob_taped ob_five ob_size ob_at ob_from ob_token ob_value ob_faultKind ob_faultPlace ob_fresh ob_parts ob_houses ob_houseMany ob_worthOf ob_byCall ob_over ob_bestSet ob_bestOver ob_bestWorth ob_row ob_tenDebts ob_tenMany ob_fewestBy ob_covered ob_queue ob_cameBy ob_parent ob_met ob_calls ob_callMany ob_calledOn ob_saved ob_many ob_width ob_numbers ob_moving), (ce_i9080 y ob_world fob_world)] s.heap := hP
  have hl := lv_entry ([.ref ob, .int a1, .int a2, .int a3]) (n := 6) (Nat.le_of_ble_eq_true rfl)
  rw [lg_entry_eq]
  generalize (lg_sl ([.ref ob, .int a1, .int a2, .int a3]) ++ List.replicate (6 - (lg_sl ([.ref ob, .int a1, .int a2, .int a3])).length) Slot.unset).toArray = ls at hl ⊢
  have hl : lv_has ls 6 [(0, .ref ob), (1, .int a1), (2, .int a2), (3, .int a3)] := hl
  have hn7 : 0 ≤ (fob_world 7).toInt ∧ (fob_world 7).toInt ≤ 600 := by have h9 := (p_fob_world).1.1 7; have h8 : UBw 7 = 600 := (by decide); have h7 : LBw 7 = 0 := (by decide); omega
  refine lv_iconst (v := 0) hx hb dX10_pays_0 (by decide) ?_
  refine lv_istore (lv' := [(4, .int 0), (0, .ref ob), (1, .int a1), (2, .int a2), (3, .int a3)]) hx hb dX10_pays_1 hl (by decide) rfl (fun ls hl => ?_)
  refine lv_aload_n hx hb dX10_pays_3 rfl (lv_at hl 1 rfl) ?_
  refine va_get (D := G) (ci := 10) (v := .ref ob_world) (C := RX10) (T := TX10) (N := 41) hx hb hw0 inA_wsX100 hown hK.1 hP 0 rfl rfl 1 (by decide) (hw0 _ m_352) (fun _ h9 => h9) rfl dX10_pays_4 ?_
  refine lv_bipush (v := 7) hx hb dX10_pays_7 (by decide) ?_
  refine va_iald hx hb hK.1 hP 1 1 rfl rfl (vi (bkc (x := 7) (c := 7) (by decide)) (by decide)) dX10_pays_9 ?_
  refine lv_topi (fun v_1001 ev_1001 => ?_)
  have bv_1001 : (0 : Int) ≤ v_1001.toInt ∧ v_1001.toInt ≤ 600 := rdk ev_1001 (p_fob_world).1.1 (by decide)
  have yv_1001 : v_1001.toInt = (fob_world 7).toInt := congrArg Int32.toInt ev_1001
  refine lv_iconst (v := 1) hx hb dX10_pays_10 (by decide) ?_
  refine lv_isub hx hb dX10_pays_11 ?_
  refine lv_topi (fun v_1002 ev_1002 => ?_)
  have qv_1002 := ba_sub ev_1002 bv_1001 (bkc (x := 1) (c := 1) (by decide)) (by decide)
  have bv_1002 : (-1 : Int) ≤ v_1002.toInt ∧ v_1002.toInt ≤ 599 := bq_sub qv_1002 bv_1001 (bkc (x := 1) (c := 1) (by decide)) _ _ (by decide)
  have qv_1002 : v_1002.toInt = v_1001.toInt - (1) := qv_1002
  refine lv_istore (lv' := [(5, .int v_1002), (4, .int 0), (0, .ref ob), (1, .int a1), (2, .int a2), (3, .int a3)]) hx hb dX10_pays_12 hl (by decide) rfl (fun ls hl => ?_)
  refine loopX (fun n H locs ls st => ∃ (v_1085 : Int32) (v_1086 : Int32) (f_1087 : Nat → Int32), (v_1085.toInt - (-1)).toNat = n ∧ ((-1 : Int) ≤ v_1085.toInt ∧ v_1085.toInt ≤ 599) ∧ ((0 : Int) ≤ v_1086.toInt ∧ v_1086.toInt ≤ 600) ∧ (RWw f_1087) ∧ ((f_1087 7).toInt ≤ (fob_world 7).toInt ∧ (f_1087 8).toInt = (fob_world 8).toInt) ∧ (v_1085.toInt < (f_1087 7).toInt) ∧ (∀ L, mB fob_world L → pyI a1.toInt a2.toInt a3.toInt L f_1087 v_1085.toInt v_1086.toInt) ∧ (v_1086.toInt + (f_1087 7).toInt = (fob_world 7).toInt) ∧ ((f_1087 9).toInt = (fob_world 9).toInt) ∧ (wfr fob_world f_1087) ∧ (tgd fob_world f_1087) ∧ st = [] ∧ vPD G A H [(ce_X10 ob ob_thrown ob_world ob_images ob_hasImage ob_tape ob_taped ob_five ob_size ob_at ob_from ob_token ob_value ob_faultKind ob_faultPlace ob_fresh ob_parts ob_houses ob_houseMany ob_worthOf ob_byCall ob_over ob_bestSet ob_bestOver ob_bestWorth ob_row ob_tenDebts ob_tenMany ob_fewestBy ob_covered ob_queue ob_cameBy ob_parent ob_met ob_calls ob_callMany ob_calledOn ob_saved ob_many ob_width ob_numbers ob_moving), (ce_i9080 y ob_world f_1087)] ∧ va_S A s.heap H locs ∧ lv_has ls 6 [(5, .int v_1085), (4, .int v_1086), (0, .ref ob), (1, .int a1), (2, .int a2), (3, .int a3)]) ?_ (n := (v_1002.toInt - (-1)).toNat) ⟨v_1002, 0, fob_world, rfl, bv_1002, (bw (0) (600) (bkc (x := 0) (c := 0) (by decide)) (by decide)), p_fob_world, (by have h90 : Int32.toInt 0 = 0 := (by decide); omega), (by have h90 : Int32.toInt 0 = 0 := (by decide); omega), (by have lm1 : Int32.toInt (-1) = -1 := (by decide); have l91 : Int32.toInt 1 = 1 := (by decide); have l92 : Int32.toInt 2 = 2 := (by decide); have l93 : Int32.toInt 3 = 3 := (by decide); have h90 : Int32.toInt 0 = 0 := (by decide); exact fun L H => py_0 H (by omega) (by omega)), (by have h90 : Int32.toInt 0 = 0 := (by decide); omega), (by have h90 : Int32.toInt 0 = 0 := (by decide); omega), wfr_r, tgd_r, rfl, ⟨hP, hD⟩, hS, lv_sub hl [0, 1, 2, 3, 4, 5] rfl⟩
  rintro n ih_1113 H locs ls st ⟨v_1085, v_1086, f_1087, hn_1113, bv_1085, bv_1086, bf_1087, rl1087_0, rl1087_1, rl1087_2, rl1087_3, rl1087_4, rl1087_5, rl1087_6, rfl, ⟨hP, hD⟩, hS, hl⟩
  refine lv_iload hx hb dX10_pays_14 (lv_at hl 0 rfl) ?_
  refine lv_if_lt (tgt := 70) hx hb dX10_pays_16 (by decide) (fun c_1114 => ?_) (fun c_1114 => ?_)
  · skip
    have nc_1114 := nb_lt (-1) (0) c_1114 bv_1085 (bkc (x := 0) (c := 0) (by decide)) (by decide)
    refine lv_iload hx hb dX10_pays_70 (lv_at hl 1 rfl) ?_
    exact W.iret (v := v_1086) hx hb hr (fun t ht hW => ⟨⟨v_1086, _, rfl, ⟨v_1086, f_1087, bv_1086, bf_1087, by omega, (fun L H => py_e (rl1087_2 L H) (by omega)), by omega, by omega, rl1087_5, rl1087_6, rfl, rfl⟩, by rw [ht]; exact hP, hD⟩, hS.F ht⟩) hS.2.2 dX10_pays_72
  · skip
    have nc_1114 := nb_nlt (0) (0) c_1114 (bkc (x := 0) (c := 0) (by decide)) bv_1085 (by decide)
    refine lv_aload_n hx hb dX10_pays_19 rfl (lv_at hl 2 rfl) ?_
    refine lv_iload hx hb dX10_pays_20 (lv_at hl 0 rfl) ?_
    refine lv_iconst (v := 0) hx hb dX10_pays_22 (by decide) ?_
    refine cVim (As := [.int v_1085, .int 0]) (rest := []) ⟨hx, hb, hml, hown, hw0⟩ hA hK hP hD hS [true, true] (gofDebt0 l G y _ ob v_1085 ob_thrown ob_world ob_images ob_hasImage ob_tape ob_taped ob_five ob_size ob_at ob_from ob_token ob_value ob_faultKind ob_faultPlace ob_fresh ob_parts ob_houses ob_houseMany ob_worthOf ob_byCall ob_over ob_bestSet ob_bestOver ob_bestWorth ob_row ob_tenDebts ob_tenMany ob_fewestBy ob_covered ob_queue ob_cameBy ob_parent ob_met ob_calls ob_callMany ob_calledOn ob_saved ob_many ob_width ob_numbers ob_moving f_1087 bf_1087 p_ob_taped p_ob_size p_ob_at p_ob_from p_ob_token p_ob_value p_ob_faultKind p_ob_houseMany p_ob_bestSet p_ob_bestOver p_ob_tenMany p_ob_callMany (bw (0) (959) nc_1114.2.1 (by decide))) rfl ⟨(callB_of 2 hw0 (gA m_576) rfl rfl rfl (hw0 _ m_41) (hw0 _ m_402) cb_X10_ofDebt ⟨Nat.le_of_ble_eq_true rfl, Nat.le_of_ble_eq_true rfl⟩), (hw0 _ m_403), (hw0 _ m_404)⟩ (ci := 10) (q := (RX10, TX10, 41)) rfl rfl rfl hl.1 (Nat.le_of_ble_eq_true rfl) dX10_pays_23 ⟨Nat.le_of_ble_eq_true rfl, Nat.le_of_ble_eq_true rfl⟩ (fun r_1115 w_1115 H locs hw_1115 hP hD hS => ?_)
    obtain ⟨v_1116, bv_1116, h_1117, er_1115, rfl⟩ := hw_1115
    subst r_1115
    obtain ⟨hP, hD⟩ : vPD G A H [(ce_X10 ob ob_thrown ob_world ob_images ob_hasImage ob_tape ob_taped ob_five ob_size ob_at ob_from ob_token ob_value ob_faultKind ob_faultPlace ob_fresh ob_parts ob_houses ob_houseMany ob_worthOf ob_byCall ob_over ob_bestSet ob_bestOver ob_bestWorth ob_row ob_tenDebts ob_tenMany ob_fewestBy ob_covered ob_queue ob_cameBy ob_parent ob_met ob_calls ob_callMany ob_calledOn ob_saved ob_many ob_width ob_numbers ob_moving), (ce_i9080 y ob_world f_1087)] := ⟨hP, hD⟩
    refine lv_iload_n hx hb dX10_pays_26 rfl (lv_at hl 3 rfl) ?_
    refine lv_icmp_ne (tgt := 64) hx hb dX10_pays_27 (by decide) (fun c_1118 => ?_) (fun c_1118 => ?_)
    · skip
      have nc_1118 : v_1116.toInt ≠ a1.toInt := fun h9 => c_1118 (Int32.toInt_inj.mp h9)
      obtain ⟨v_1119, ev_1119⟩ : ∃ z : Int32, z = v_1085 + (-1) := ⟨_, rfl⟩
      have qv_1119 := ba_add ev_1119 nc_1114.2.1 (bkc (x := (-1)) (c := -1) (by decide)) (by decide)
      have bv_1119 : (-1 : Int) ≤ v_1119.toInt ∧ v_1119.toInt ≤ 598 := bq_add qv_1119 nc_1114.2.1 (bkc (x := (-1)) (c := -1) (by decide)) _ _ (by decide)
      have qv_1119 : v_1119.toInt = v_1085.toInt + (-1) := qv_1119
      refine lv_iinc (v := v_1119) (lv' := [(5, .int v_1119), (4, .int v_1086), (0, .ref ob), (1, .int a1), (2, .int a2), (3, .int a3)]) hx hb dX10_pays_64 hl (k := 0) rfl (ev_1119.symm) (by decide) rfl (fun ls hl => ?_)
      refine lv_goto (tgt := 14) hx hb dX10_pays_67 (by decide) ?_
      exact ih_1113 _ (ml_dec (lo := -1) hn_1113 qv_1119 (by decide) ((bw (-1) (599) bv_1119 (by decide))).1) _ _ _ _ ⟨v_1119, v_1086, f_1087, rfl, (bw (-1) (599) bv_1119 (by decide)), bv_1086, bf_1087, (by omega), (by omega), (fun L H => py_k (rl1087_2 L H) (by omega) (by omega) (by omega) (by omega)), (by omega), (by omega), rl1087_5, rl1087_6, rfl, ⟨hP, hD⟩, hS, lv_sub hl [0, 1, 2, 3, 4, 5] rfl⟩
    · skip
      have nc_1118 := nb_eq (0) (15) c_1118 bv_1116 (btop a1) (by decide)
      refine lv_aload_n hx hb dX10_pays_30 rfl (lv_at hl 2 rfl) ?_
      refine lv_iload hx hb dX10_pays_31 (lv_at hl 0 rfl) ?_
      refine lv_iconst (v := 1) hx hb dX10_pays_33 (by decide) ?_
      refine cVim (As := [.int v_1085, .int 1]) (rest := []) ⟨hx, hb, hml, hown, hw0⟩ hA hK hP hD hS [true, true] (gofDebt1 l G y _ ob v_1085 ob_thrown ob_world ob_images ob_hasImage ob_tape ob_taped ob_five ob_size ob_at ob_from ob_token ob_value ob_faultKind ob_faultPlace ob_fresh ob_parts ob_houses ob_houseMany ob_worthOf ob_byCall ob_over ob_bestSet ob_bestOver ob_bestWorth ob_row ob_tenDebts ob_tenMany ob_fewestBy ob_covered ob_queue ob_cameBy ob_parent ob_met ob_calls ob_callMany ob_calledOn ob_saved ob_many ob_width ob_numbers ob_moving f_1087 bf_1087 p_ob_taped p_ob_size p_ob_at p_ob_from p_ob_token p_ob_value p_ob_faultKind p_ob_houseMany p_ob_bestSet p_ob_bestOver p_ob_tenMany p_ob_callMany (bw (0) (959) nc_1114.2.1 (by decide))) rfl ⟨(callB_of 2 hw0 (gA m_576) rfl rfl rfl (hw0 _ m_41) (hw0 _ m_402) cb_X10_ofDebt ⟨Nat.le_of_ble_eq_true rfl, Nat.le_of_ble_eq_true rfl⟩), (hw0 _ m_403), (hw0 _ m_404)⟩ (ci := 10) (q := (RX10, TX10, 41)) rfl rfl rfl hl.1 (Nat.le_of_ble_eq_true rfl) dX10_pays_34 ⟨Nat.le_of_ble_eq_true rfl, Nat.le_of_ble_eq_true rfl⟩ (fun r_1120 w_1120 H locs hw_1120 hP hD hS => ?_)
      obtain ⟨v_1121, bv_1121, h_1122, er_1120, rfl⟩ := hw_1120
      subst r_1120
      obtain ⟨hP, hD⟩ : vPD G A H [(ce_X10 ob ob_thrown ob_world ob_images ob_hasImage ob_tape ob_taped ob_five ob_size ob_at ob_from ob_token ob_value ob_faultKind ob_faultPlace ob_fresh ob_parts ob_houses ob_houseMany ob_worthOf ob_byCall ob_over ob_bestSet ob_bestOver ob_bestWorth ob_row ob_tenDebts ob_tenMany ob_fewestBy ob_covered ob_queue ob_cameBy ob_parent ob_met ob_calls ob_callMany ob_calledOn ob_saved ob_many ob_width ob_numbers ob_moving), (ce_i9080 y ob_world f_1087)] := ⟨hP, hD⟩
      refine lv_iload_n hx hb dX10_pays_37 rfl (lv_at hl 4 rfl) ?_
      refine lv_icmp_ne (tgt := 64) hx hb dX10_pays_38 (by decide) (fun c_1123 => ?_) (fun c_1123 => ?_)
      · skip
        have nc_1123 : v_1121.toInt ≠ a2.toInt := fun h9 => c_1123 (Int32.toInt_inj.mp h9)
        obtain ⟨v_1124, ev_1124⟩ : ∃ z : Int32, z = v_1085 + (-1) := ⟨_, rfl⟩
        have qv_1124 := ba_add ev_1124 nc_1114.2.1 (bkc (x := (-1)) (c := -1) (by decide)) (by decide)
        have bv_1124 : (-1 : Int) ≤ v_1124.toInt ∧ v_1124.toInt ≤ 598 := bq_add qv_1124 nc_1114.2.1 (bkc (x := (-1)) (c := -1) (by decide)) _ _ (by decide)
        have qv_1124 : v_1124.toInt = v_1085.toInt + (-1) := qv_1124
        refine lv_iinc (v := v_1124) (lv' := [(5, .int v_1124), (4, .int v_1086), (0, .ref ob), (1, .int a1), (2, .int a2), (3, .int a3)]) hx hb dX10_pays_64 hl (k := 0) rfl (ev_1124.symm) (by decide) rfl (fun ls hl => ?_)
        refine lv_goto (tgt := 14) hx hb dX10_pays_67 (by decide) ?_
        exact ih_1113 _ (ml_dec (lo := -1) hn_1113 qv_1124 (by decide) ((bw (-1) (599) bv_1124 (by decide))).1) _ _ _ _ ⟨v_1124, v_1086, f_1087, rfl, (bw (-1) (599) bv_1124 (by decide)), bv_1086, bf_1087, (by omega), (by omega), (fun L H => py_k (rl1087_2 L H) (by omega) (by omega) (by omega) (by omega)), (by omega), (by omega), rl1087_5, rl1087_6, rfl, ⟨hP, hD⟩, hS, lv_sub hl [0, 1, 2, 3, 4, 5] rfl⟩
      · skip
        have nc_1123 := nb_eq (0) (15) c_1123 bv_1121 (btop a2) (by decide)
        refine lv_aload_n hx hb dX10_pays_41 rfl (lv_at hl 2 rfl) ?_
        refine lv_iload hx hb dX10_pays_42 (lv_at hl 0 rfl) ?_
        refine lv_iconst (v := 2) hx hb dX10_pays_44 (by decide) ?_
        refine cVim (As := [.int v_1085, .int 2]) (rest := []) ⟨hx, hb, hml, hown, hw0⟩ hA hK hP hD hS [true, true] (gofDebt2 l G y _ ob v_1085 ob_thrown ob_world ob_images ob_hasImage ob_tape ob_taped ob_five ob_size ob_at ob_from ob_token ob_value ob_faultKind ob_faultPlace ob_fresh ob_parts ob_houses ob_houseMany ob_worthOf ob_byCall ob_over ob_bestSet ob_bestOver ob_bestWorth ob_row ob_tenDebts ob_tenMany ob_fewestBy ob_covered ob_queue ob_cameBy ob_parent ob_met ob_calls ob_callMany ob_calledOn ob_saved ob_many ob_width ob_numbers ob_moving f_1087 bf_1087 p_ob_taped p_ob_size p_ob_at p_ob_from p_ob_token p_ob_value p_ob_faultKind p_ob_houseMany p_ob_bestSet p_ob_bestOver p_ob_tenMany p_ob_callMany (bw (0) (959) nc_1114.2.1 (by decide))) rfl ⟨(callB_of 2 hw0 (gA m_576) rfl rfl rfl (hw0 _ m_41) (hw0 _ m_402) cb_X10_ofDebt ⟨Nat.le_of_ble_eq_true rfl, Nat.le_of_ble_eq_true rfl⟩), (hw0 _ m_403), (hw0 _ m_404)⟩ (ci := 10) (q := (RX10, TX10, 41)) rfl rfl rfl hl.1 (Nat.le_of_ble_eq_true rfl) dX10_pays_45 ⟨Nat.le_of_ble_eq_true rfl, Nat.le_of_ble_eq_true rfl⟩ (fun r_1125 w_1125 H locs hw_1125 hP hD hS => ?_)
        obtain ⟨v_1126, h_1127, er_1125, rfl⟩ := hw_1125
        subst r_1125
        obtain ⟨hP, hD⟩ : vPD G A H [(ce_X10 ob ob_thrown ob_world ob_images ob_hasImage ob_tape ob_taped ob_five ob_size ob_at ob_from ob_token ob_value ob_faultKind ob_faultPlace ob_fresh ob_parts ob_houses ob_houseMany ob_worthOf ob_byCall ob_over ob_bestSet ob_bestOver ob_bestWorth ob_row ob_tenDebts ob_tenMany ob_fewestBy ob_covered ob_queue ob_cameBy ob_parent ob_met ob_calls ob_callMany ob_calledOn ob_saved ob_many ob_width ob_numbers ob_moving), (ce_i9080 y ob_world f_1087)] := ⟨hP, hD⟩
        refine lv_iload_n hx hb dX10_pays_48 rfl (lv_at hl 5 rfl) ?_
        refine lv_icmp_le (tgt := 55) hx hb dX10_pays_49 (by decide) (fun c_1128 => ?_) (fun c_1128 => ?_)
        · skip
          have nc_1128 := nb_le (2147483647) (-2147483648) c_1128 (btop v_1126) (btop a3) (by decide)
          refine lv_aload_n hx hb dX10_pays_55 rfl (lv_at hl 2 rfl) ?_
          refine lv_iload hx hb dX10_pays_56 (lv_at hl 0 rfl) ?_
          refine cVvm (As := [.int v_1085]) (rest := []) ⟨hx, hb, hml, hown, hw0⟩ hA hK hP hD hS [true, true] (gdrops l G y _ ob v_1085 ob_thrown ob_world ob_images ob_hasImage ob_tape ob_taped ob_five ob_size ob_at ob_from ob_token ob_value ob_faultKind ob_faultPlace ob_fresh ob_parts ob_houses ob_houseMany ob_worthOf ob_byCall ob_over ob_bestSet ob_bestOver ob_bestWorth ob_row ob_tenDebts ob_tenMany ob_fewestBy ob_covered ob_queue ob_cameBy ob_parent ob_met ob_calls ob_callMany ob_calledOn ob_saved ob_many ob_width ob_numbers ob_moving f_1087 bf_1087 p_ob_taped p_ob_size p_ob_at p_ob_from p_ob_token p_ob_value p_ob_faultKind p_ob_houseMany p_ob_bestSet p_ob_bestOver p_ob_tenMany p_ob_callMany nc_1114.2.1 (by omega)) rfl ⟨(callB_of 1 hw0 (gA m_450) rfl rfl rfl (hw0 _ m_41) (hw0 _ m_596) cb_X10_drops ⟨Nat.le_of_ble_eq_true rfl, Nat.le_of_ble_eq_true rfl⟩), (hw0 _ m_597), (hw0 _ m_598)⟩ (ci := 10) (q := (RX10, TX10, 41)) rfl rfl rfl hl.1 (Nat.le_of_ble_eq_true rfl) dX10_pays_58 ⟨Nat.le_of_ble_eq_true rfl, Nat.le_of_ble_eq_true rfl⟩ (fun w_1129 H locs hw_1129 hP hD hS => ?_)
          obtain ⟨f_1130, bf_1130, h_1131, h_1132, h_1133, h_1134, h_1135, rfl⟩ := hw_1129
          obtain ⟨hP, hD⟩ : vPD G A H [(ce_X10 ob ob_thrown ob_world ob_images ob_hasImage ob_tape ob_taped ob_five ob_size ob_at ob_from ob_token ob_value ob_faultKind ob_faultPlace ob_fresh ob_parts ob_houses ob_houseMany ob_worthOf ob_byCall ob_over ob_bestSet ob_bestOver ob_bestWorth ob_row ob_tenDebts ob_tenMany ob_fewestBy ob_covered ob_queue ob_cameBy ob_parent ob_met ob_calls ob_callMany ob_calledOn ob_saved ob_many ob_width ob_numbers ob_moving), (ce_i9080 y ob_world f_1130)] := ⟨hP, hD⟩
          have h_1136 : (0 : Int) ≤ v_1086.toInt ∧ v_1086.toInt ≤ 599 := by have h9 := (p_fob_world).1.1 7; have h8 : UBw 7 = 600 := (by decide); omega
          obtain ⟨v_1137, ev_1137⟩ : ∃ z : Int32, z = v_1086 + 1 := ⟨_, rfl⟩
          have qv_1137 := ba_add ev_1137 h_1136 (bkc (x := 1) (c := 1) (by decide)) (by decide)
          have bv_1137 : (1 : Int) ≤ v_1137.toInt ∧ v_1137.toInt ≤ 600 := bq_add qv_1137 h_1136 (bkc (x := 1) (c := 1) (by decide)) _ _ (by decide)
          have qv_1137 : v_1137.toInt = v_1086.toInt + (1) := qv_1137
          refine lv_iinc (v := v_1137) (lv' := [(4, .int v_1137), (5, .int v_1085), (0, .ref ob), (1, .int a1), (2, .int a2), (3, .int a3)]) hx hb dX10_pays_61 hl (k := 1) rfl (ev_1137.symm) (by decide) rfl (fun ls hl => ?_)
          obtain ⟨v_1138, ev_1138⟩ : ∃ z : Int32, z = v_1085 + (-1) := ⟨_, rfl⟩
          have qv_1138 := ba_add ev_1138 nc_1114.2.1 (bkc (x := (-1)) (c := -1) (by decide)) (by decide)
          have bv_1138 : (-1 : Int) ≤ v_1138.toInt ∧ v_1138.toInt ≤ 598 := bq_add qv_1138 nc_1114.2.1 (bkc (x := (-1)) (c := -1) (by decide)) _ _ (by decide)
          have qv_1138 : v_1138.toInt = v_1085.toInt + (-1) := qv_1138
          refine lv_iinc (v := v_1138) (lv' := [(5, .int v_1138), (4, .int v_1137), (0, .ref ob), (1, .int a1), (2, .int a2), (3, .int a3)]) hx hb dX10_pays_64 hl (k := 1) rfl (ev_1138.symm) (by decide) rfl (fun ls hl => ?_)
          refine lv_goto (tgt := 14) hx hb dX10_pays_67 (by decide) ?_
          exact ih_1113 _ (ml_dec (lo := -1) hn_1113 qv_1138 (by decide) ((bw (-1) (599) bv_1138 (by decide))).1) _ _ _ _ ⟨v_1138, v_1137, f_1130, rfl, (bw (-1) (599) bv_1138 (by decide)), (bw (0) (600) bv_1137 (by decide)), bf_1130, (by omega), (by omega), (fun L H => py_d (rl1087_2 L H) (by omega) ⟨by omega, by omega, by omega⟩ h_1132 (by omega) (by omega)), (by omega), (by omega), (wfr_t rl1087_5 h_1134), (tgd_t rl1087_6 h_1135), rfl, ⟨hP, hD⟩, hS, lv_sub hl [0, 1, 2, 3, 4, 5] rfl⟩
        · skip
          have nc_1128 := nb_nle (2147483646) (-2147483647) c_1128 (btop a3) (btop v_1126) (by decide)
          refine lv_goto (tgt := 64) hx hb dX10_pays_52 (by decide) ?_
          obtain ⟨v_1139, ev_1139⟩ : ∃ z : Int32, z = v_1085 + (-1) := ⟨_, rfl⟩
          have qv_1139 := ba_add ev_1139 nc_1114.2.1 (bkc (x := (-1)) (c := -1) (by decide)) (by decide)
          have bv_1139 : (-1 : Int) ≤ v_1139.toInt ∧ v_1139.toInt ≤ 598 := bq_add qv_1139 nc_1114.2.1 (bkc (x := (-1)) (c := -1) (by decide)) _ _ (by decide)
          have qv_1139 : v_1139.toInt = v_1085.toInt + (-1) := qv_1139
          refine lv_iinc (v := v_1139) (lv' := [(5, .int v_1139), (4, .int v_1086), (0, .ref ob), (1, .int a1), (2, .int a2), (3, .int a3)]) hx hb dX10_pays_64 hl (k := 0) rfl (ev_1139.symm) (by decide) rfl (fun ls hl => ?_)
          refine lv_goto (tgt := 14) hx hb dX10_pays_67 (by decide) ?_
          exact ih_1113 _ (ml_dec (lo := -1) hn_1113 qv_1139 (by decide) ((bw (-1) (599) bv_1139 (by decide))).1) _ _ _ _ ⟨v_1139, v_1086, f_1087, rfl, (bw (-1) (599) bv_1139 (by decide)), bv_1086, bf_1087, (by omega), (by omega), (fun L H => py_k (rl1087_2 L H) (by omega) (by omega) (by omega) (by omega)), (by omega), (by omega), rl1087_5, rl1087_6, rfl, ⟨hP, hD⟩, hS, lv_sub hl [0, 1, 2, 3, 4, 5] rfl⟩

set_option maxHeartbeats 4000000 in
set_option maxRecDepth 100000 in
theorem gowesAlready (l : Launch) (G : va_G) (y : Nat → ClassId) (sz : Nat) (ob : Nat) (a1 : Int32) (a2 : Int32) (a3 : Int32) (ob_thrown : Int32) (ob_world : Nat) (ob_images : Nat) (ob_hasImage : Nat) (ob_tape : Nat) (ob_taped : Int32) (ob_five : Nat) (ob_size : Int32) (ob_at : Int32) (ob_from : Int32) (ob_token : Int32) (ob_value : Int32) (ob_faultKind : Int32) (ob_faultPlace : Int32) (ob_fresh : Nat) (ob_parts : Nat) (ob_houses : Nat) (ob_houseMany : Int32) (ob_worthOf : Nat) (ob_byCall : Nat) (ob_over : Nat) (ob_bestSet : Int32) (ob_bestOver : Int32) (ob_bestWorth : Int32) (ob_row : Nat) (ob_tenDebts : Nat) (ob_tenMany : Int32) (ob_fewestBy : Nat) (ob_covered : Nat) (ob_queue : Nat) (ob_cameBy : Nat) (ob_parent : Nat) (ob_met : Nat) (ob_calls : Nat) (ob_callMany : Int32) (ob_calledOn : Nat) (ob_saved : Nat) (ob_many : Nat) (ob_width : Nat) (ob_numbers : Nat) (ob_moving : Nat) (fob_world : Nat → Int32) (p_fob_world : RWw fob_world) (p_ob_taped : (0 : Int) ≤ ob_taped.toInt ∧ ob_taped.toInt ≤ 1400) (p_ob_size : (0 : Int) ≤ ob_size.toInt ∧ ob_size.toInt ≤ 1400) (p_ob_at : (0 : Int) ≤ ob_at.toInt ∧ ob_at.toInt ≤ 1400) (p_ob_from : (0 : Int) ≤ ob_from.toInt ∧ ob_from.toInt ≤ 1400) (p_ob_token : (0 : Int) ≤ ob_token.toInt ∧ ob_token.toInt ≤ 4) (p_ob_value : (0 : Int) ≤ ob_value.toInt ∧ ob_value.toInt ≤ 9999) (p_ob_faultKind : (0 : Int) ≤ ob_faultKind.toInt ∧ ob_faultKind.toInt ≤ 3) (p_ob_houseMany : (0 : Int) ≤ ob_houseMany.toInt ∧ ob_houseMany.toInt ≤ 10) (p_ob_bestSet : (0 : Int) ≤ ob_bestSet.toInt ∧ ob_bestSet.toInt ≤ 1023) (p_ob_bestOver : (-1 : Int) ≤ ob_bestOver.toInt ∧ ob_bestOver.toInt ≤ 180) (p_ob_tenMany : (0 : Int) ≤ ob_tenMany.toInt ∧ ob_tenMany.toInt ≤ 10) (p_ob_callMany : (0 : Int) ≤ ob_callMany.toInt ∧ ob_callMany.toInt ≤ 16) : Met l yX10_owesAlready (Cond.code yX10_owesAlready cX10_owesAlready 5 (some .boolean) :: wAll) ({ frames := 1, cells := 0, slots := 0, locals := 22 }) (va_Pc [.ref ob, .int a1, .int a2, .int a3] (kp G y sz [(ce_X10 ob ob_thrown ob_world ob_images ob_hasImage ob_tape ob_taped ob_five ob_size ob_at ob_from ob_token ob_value ob_faultKind ob_faultPlace ob_fresh ob_parts ob_houses ob_houseMany ob_worthOf ob_byCall ob_over ob_bestSet ob_bestOver ob_bestWorth ob_row ob_tenDebts ob_tenMany ob_fewestBy ob_covered ob_queue ob_cameBy ob_parent ob_met ob_calls ob_callMany ob_calledOn ob_saved ob_many ob_width ob_numbers ob_moving), (ce_i9080 y ob_world fob_world)])) (va_Qi (fun (r : Int32) (w : va_W) => ((∀ L, mB fob_world L → ¬ hasB a1.toInt a2.toInt a3.toInt L) ∧ r = 0 ∧ w = [(ce_X10 ob ob_thrown ob_world ob_images ob_hasImage ob_tape ob_taped ob_five ob_size ob_at ob_from ob_token ob_value ob_faultKind ob_faultPlace ob_fresh ob_parts ob_houses ob_houseMany ob_worthOf ob_byCall ob_over ob_bestSet ob_bestOver ob_bestWorth ob_row ob_tenDebts ob_tenMany ob_fewestBy ob_covered ob_queue ob_cameBy ob_parent ob_met ob_calls ob_callMany ob_calledOn ob_saved ob_many ob_width ob_numbers ob_moving), (ce_i9080 y ob_world fob_world)]) ∨ (((0 : Int) ≤ a1.toInt ∧ a1.toInt ≤ 15) ∧ ((0 : Int) ≤ a2.toInt ∧ a2.toInt ≤ 15) ∧ (∀ L, mB fob_world L → hasB a1.toInt a2.toInt a3.toInt L) ∧ r = 1 ∧ w = [(ce_X10 ob ob_thrown ob_world ob_images ob_hasImage ob_tape ob_taped ob_five ob_size ob_at ob_from ob_token ob_value ob_faultKind ob_faultPlace ob_fresh ob_parts ob_houses ob_houseMany ob_worthOf ob_byCall ob_over ob_bestSet ob_bestOver ob_bestWorth ob_row ob_tenDebts ob_tenMany ob_fewestBy ob_covered ob_queue ob_cameBy ob_parent ob_met ob_calls ob_callMany ob_calledOn ob_saved ob_many ob_width ob_numbers ob_moving), (ce_i9080 y ob_world fob_world)])) (kq G (va_A [(ce_X10 ob ob_thrown ob_world ob_images ob_hasImage ob_tape ob_taped ob_five ob_size ob_at ob_from ob_token ob_value ob_faultKind ob_faultPlace ob_fresh ob_parts ob_houses ob_houseMany ob_worthOf ob_byCall ob_over ob_bestSet ob_bestOver ob_bestWorth ob_row ob_tenDebts ob_tenMany ob_fewestBy ob_covered ob_queue ob_cameBy ob_parent ob_met ob_calls ob_callMany ob_calledOn ob_saved ob_many ob_width ob_numbers ob_moving), (ce_i9080 y ob_world fob_world)] sz)) (va_A [(ce_X10 ob ob_thrown ob_world ob_images ob_hasImage ob_tape ob_taped ob_five ob_size ob_at ob_from ob_token ob_value ob_faultKind ob_faultPlace ob_fresh ob_parts ob_houses ob_houseMany ob_worthOf ob_byCall ob_over ob_bestSet ob_bestOver ob_bestWorth ob_row ob_tenDebts ob_tenMany ob_fewestBy ob_covered ob_queue ob_cameBy ob_parent ob_met ob_calls ob_callMany ob_calledOn ob_saved ob_many ob_width ob_numbers ob_moving), (ce_i9080 y ob_world fob_world)] sz)) 0 0 (va_A [(ce_X10 ob ob_thrown ob_world ob_images ob_hasImage ob_tape ob_taped ob_five ob_size ob_at ob_from ob_token ob_value ob_faultKind ob_faultPlace ob_fresh ob_parts ob_houses ob_houseMany ob_worthOf ob_byCall ob_over ob_bestSet ob_bestOver ob_bestWorth ob_row ob_tenDebts ob_tenMany ob_fewestBy ob_covered ob_queue ob_cameBy ob_parent ob_met ob_calls ob_callMany ob_calledOn ob_saved ob_many ob_width ob_numbers ob_moving), (ce_i9080 y ob_world fob_world)] sz) := by
  refine Met.ofW (cc := cX10_owesAlready) (maxL := 5) (ret := (some .boolean)) (by decide) rfl ?_
  intro p e s m args below meth c s₁ B hml hv
  obtain ⟨rfl, hsz, hP, hK, hD0⟩ := hv
  have hx := B.exec
  have hb := B.bytes
  have hr := B.returns
  have hw0 : ∀ w ∈ wAll, w.before _ s = true := fun w h => atoms_spec (ws := Cond.code yX10_owesAlready cX10_owesAlready 5 (some .boolean) :: wAll) B.pre w (List.mem_cons_of_mem _ h)
  have hown : s.vm.findClass RX10 = some m.cls := findClass_of_methodNamed B.named
  subst hsz
  have hD := hD0.self (sz := s.heap.size)
  generalize hAe : va_A [(ce_X10 ob ob_thrown ob_world ob_images ob_hasImage ob_tape ob_taped ob_five ob_size ob_at ob_from ob_token ob_value ob_faultKind ob_faultPlace ob_fresh ob_parts ob_houses ob_houseMany ob_worthOf ob_byCall ob_over ob_bestSet ob_bestOver ob_bestWorth ob_row ob_tenDebts ob_tenMany ob_fewestBy ob_covered ob_queue ob_cameBy ob_parent ob_met ob_calls ob_callMany ob_calledOn ob_saved ob_many ob_width ob_numbers ob_moving), (ce_i9080 y ob_world fob_world)] s.heap.size = A at hD ⊢
  have hA : ∀ q : Nat, s.heap.size ≤ q → A q := fun q h => by rw [← hAe]; exact Or.inr h
  have hS : va_S A s.heap s.heap [] := va_S.rf
  have hP : va_P G vwCl [(ce_X10 ob ob_thrown ob_world ob_images ob_hasImage ob_tape ob_taped ob_five ob_size ob_at ob_from ob_token ob_value ob_faultKind ob_faultPlace ob_fresh ob_parts ob_houses ob_houseMany ob_worthOf ob_byCall ob_over ob_bestSet ob_bestOver ob_bestWorth ob_row ob_tenDebts ob_tenMany ob_fewestBy ob_covered ob_queue ob_cameBy ob_parent ob_met ob_calls ob_callMany ob_calledOn ob_saved ob_many ob_width ob_numbers ob_moving), (ce_i9080 y ob_world fob_world)] s.heap := hP
  have hl := lv_entry ([.ref ob, .int a1, .int a2, .int a3]) (n := 5) (Nat.le_of_ble_eq_true rfl)
  rw [lg_entry_eq]
  generalize (lg_sl ([.ref ob, .int a1, .int a2, .int a3]) ++ List.replicate (5 - (lg_sl ([.ref ob, .int a1, .int a2, .int a3])).length) Slot.unset).toArray = ls at hl ⊢
  have hl : lv_has ls 5 [(0, .ref ob), (1, .int a1), (2, .int a2), (3, .int a3)] := hl
  have hn7 : 0 ≤ (fob_world 7).toInt ∧ (fob_world 7).toInt ≤ 600 := by have h9 := (p_fob_world).1.1 7; have h8 : UBw 7 = 600 := (by decide); have h7 : LBw 7 = 0 := (by decide); omega
  refine lv_iconst (v := 0) hx hb dX10_owesAlready_0 (by decide) ?_
  refine lv_istore (lv' := [(4, .int 0), (0, .ref ob), (1, .int a1), (2, .int a2), (3, .int a3)]) hx hb dX10_owesAlready_1 hl (by decide) rfl (fun ls hl => ?_)
  refine loopX (fun n H locs ls st => ∃ (v_1051 : Int32), (600 - v_1051.toInt).toNat = n ∧ ((0 : Int) ≤ v_1051.toInt ∧ v_1051.toInt ≤ 600) ∧ (∀ L, mB fob_world L → noI a1.toInt a2.toInt a3.toInt L v_1051.toInt) ∧ (v_1051.toInt ≤ (fob_world 7).toInt) ∧ st = [] ∧ vPD G A H [(ce_X10 ob ob_thrown ob_world ob_images ob_hasImage ob_tape ob_taped ob_five ob_size ob_at ob_from ob_token ob_value ob_faultKind ob_faultPlace ob_fresh ob_parts ob_houses ob_houseMany ob_worthOf ob_byCall ob_over ob_bestSet ob_bestOver ob_bestWorth ob_row ob_tenDebts ob_tenMany ob_fewestBy ob_covered ob_queue ob_cameBy ob_parent ob_met ob_calls ob_callMany ob_calledOn ob_saved ob_many ob_width ob_numbers ob_moving), (ce_i9080 y ob_world fob_world)] ∧ va_S A s.heap H locs ∧ lv_has ls 5 [(4, .int v_1051), (0, .ref ob), (1, .int a1), (2, .int a2), (3, .int a3)]) ?_ (n := (600 - (0 : Int32).toInt).toNat) ⟨0, rfl, (bw (0) (600) (bkc (x := 0) (c := 0) (by decide)) (by decide)), (fun L H => no_0 (by decide)), (by have h90 : Int32.toInt 0 = 0 := (by decide); omega), rfl, ⟨hP, hD⟩, hS, lv_sub hl [0, 1, 2, 3, 4] rfl⟩
  rintro n ih_1068 H locs ls st ⟨v_1051, hn_1068, bv_1051, rl1051_0, rl1051_1, rfl, ⟨hP, hD⟩, hS, hl⟩
  refine lv_iload hx hb dX10_owesAlready_3 (lv_at hl 0 rfl) ?_
  refine lv_aload_n hx hb dX10_owesAlready_5 rfl (lv_at hl 1 rfl) ?_
  refine va_get (D := G) (ci := 10) (v := .ref ob_world) (C := RX10) (T := TX10) (N := 41) hx hb hw0 inA_wsX100 hown hK.1 hP 0 rfl rfl 1 (by decide) (hw0 _ m_352) (fun _ h9 => h9) rfl dX10_owesAlready_6 ?_
  refine lv_bipush (v := 7) hx hb dX10_owesAlready_9 (by decide) ?_
  refine va_iald hx hb hK.1 hP 1 1 rfl rfl (vi (bkc (x := 7) (c := 7) (by decide)) (by decide)) dX10_owesAlready_11 ?_
  refine lv_topi (fun v_1069 ev_1069 => ?_)
  have bv_1069 : (0 : Int) ≤ v_1069.toInt ∧ v_1069.toInt ≤ 600 := rdk ev_1069 (p_fob_world).1.1 (by decide)
  have yv_1069 : v_1069.toInt = (fob_world 7).toInt := congrArg Int32.toInt ev_1069
  refine lv_icmp_ge (tgt := 56) hx hb dX10_owesAlready_12 (by decide) (fun c_1070 => ?_) (fun c_1070 => ?_)
  · skip
    have nc_1070 := nb_le (600) (0) c_1070 bv_1069 bv_1051 (by decide)
    refine lv_iconst (v := 0) hx hb dX10_owesAlready_56 (by decide) ?_
    exact W.zret (v := 0) hx hb hr rfl (fun t ht hW => ⟨⟨0, _, rfl, Or.inl (⟨(fun L H => no_e (rl1051_0 L H) (by have h9 := H.1; omega)), rfl, rfl⟩), by rw [ht]; exact hP, hD⟩, hS.F ht⟩) hS.2.2 dX10_owesAlready_57
  · skip
    have nc_1070 := nb_nle (599) (1) c_1070 bv_1051 bv_1069 (by decide)
    refine lv_aload_n hx hb dX10_owesAlready_15 rfl (lv_at hl 1 rfl) ?_
    refine lv_iload hx hb dX10_owesAlready_16 (lv_at hl 0 rfl) ?_
    refine lv_iconst (v := 0) hx hb dX10_owesAlready_18 (by decide) ?_
    refine cVim (As := [.int v_1051, .int 0]) (rest := []) ⟨hx, hb, hml, hown, hw0⟩ hA hK hP hD hS [true, true] (gofDebt0 l G y _ ob v_1051 ob_thrown ob_world ob_images ob_hasImage ob_tape ob_taped ob_five ob_size ob_at ob_from ob_token ob_value ob_faultKind ob_faultPlace ob_fresh ob_parts ob_houses ob_houseMany ob_worthOf ob_byCall ob_over ob_bestSet ob_bestOver ob_bestWorth ob_row ob_tenDebts ob_tenMany ob_fewestBy ob_covered ob_queue ob_cameBy ob_parent ob_met ob_calls ob_callMany ob_calledOn ob_saved ob_many ob_width ob_numbers ob_moving fob_world p_fob_world p_ob_taped p_ob_size p_ob_at p_ob_from p_ob_token p_ob_value p_ob_faultKind p_ob_houseMany p_ob_bestSet p_ob_bestOver p_ob_tenMany p_ob_callMany (bw (0) (959) nc_1070.1 (by decide))) rfl ⟨(callB_of 2 hw0 (gA m_576) rfl rfl rfl (hw0 _ m_41) (hw0 _ m_402) cb_X10_ofDebt ⟨Nat.le_of_ble_eq_true rfl, Nat.le_of_ble_eq_true rfl⟩), (hw0 _ m_403), (hw0 _ m_404)⟩ (ci := 10) (q := (RX10, TX10, 41)) rfl rfl rfl hl.1 (Nat.le_of_ble_eq_true rfl) dX10_owesAlready_19 ⟨Nat.le_of_ble_eq_true rfl, Nat.le_of_ble_eq_true rfl⟩ (fun r_1071 w_1071 H locs hw_1071 hP hD hS => ?_)
    obtain ⟨v_1072, bv_1072, h_1073, er_1071, rfl⟩ := hw_1071
    subst r_1071
    obtain ⟨hP, hD⟩ : vPD G A H [(ce_X10 ob ob_thrown ob_world ob_images ob_hasImage ob_tape ob_taped ob_five ob_size ob_at ob_from ob_token ob_value ob_faultKind ob_faultPlace ob_fresh ob_parts ob_houses ob_houseMany ob_worthOf ob_byCall ob_over ob_bestSet ob_bestOver ob_bestWorth ob_row ob_tenDebts ob_tenMany ob_fewestBy ob_covered ob_queue ob_cameBy ob_parent ob_met ob_calls ob_callMany ob_calledOn ob_saved ob_many ob_width ob_numbers ob_moving), (ce_i9080 y ob_world fob_world)] := ⟨hP, hD⟩
    refine lv_iload_n hx hb dX10_owesAlready_22 rfl (lv_at hl 2 rfl) ?_
    refine lv_icmp_ne (tgt := 50) hx hb dX10_owesAlready_23 (by decide) (fun c_1074 => ?_) (fun c_1074 => ?_)
    · skip
      have nc_1074 : v_1072.toInt ≠ a1.toInt := fun h9 => c_1074 (Int32.toInt_inj.mp h9)
      obtain ⟨v_1075, ev_1075⟩ : ∃ z : Int32, z = v_1051 + 1 := ⟨_, rfl⟩
      have qv_1075 := ba_add ev_1075 nc_1070.1 (bkc (x := 1) (c := 1) (by decide)) (by decide)
      have bv_1075 : (1 : Int) ≤ v_1075.toInt ∧ v_1075.toInt ≤ 600 := bq_add qv_1075 nc_1070.1 (bkc (x := 1) (c := 1) (by decide)) _ _ (by decide)
      have qv_1075 : v_1075.toInt = v_1051.toInt + (1) := qv_1075
      refine lv_iinc (v := v_1075) (lv' := [(4, .int v_1075), (0, .ref ob), (1, .int a1), (2, .int a2), (3, .int a3)]) hx hb dX10_owesAlready_50 hl (k := 0) rfl (ev_1075.symm) (by decide) rfl (fun ls hl => ?_)
      refine lv_goto (tgt := 3) hx hb dX10_owesAlready_53 (by decide) ?_
      exact ih_1068 _ (ml_inc (hi := 600) hn_1068 qv_1075 (by decide) ((bw (0) (600) bv_1075 (by decide))).2) _ _ _ _ ⟨v_1075, rfl, (bw (0) (600) bv_1075 (by decide)), (fun L H => no_s (rl1051_0 L H) H (by have h9 := H.1; omega) (by omega) (by omega)), (by omega), rfl, ⟨hP, hD⟩, hS, lv_sub hl [0, 1, 2, 3, 4] rfl⟩
    · skip
      have nc_1074 := nb_eq (0) (15) c_1074 bv_1072 (btop a1) (by decide)
      refine lv_aload_n hx hb dX10_owesAlready_26 rfl (lv_at hl 1 rfl) ?_
      refine lv_iload hx hb dX10_owesAlready_27 (lv_at hl 0 rfl) ?_
      refine lv_iconst (v := 1) hx hb dX10_owesAlready_29 (by decide) ?_
      refine cVim (As := [.int v_1051, .int 1]) (rest := []) ⟨hx, hb, hml, hown, hw0⟩ hA hK hP hD hS [true, true] (gofDebt1 l G y _ ob v_1051 ob_thrown ob_world ob_images ob_hasImage ob_tape ob_taped ob_five ob_size ob_at ob_from ob_token ob_value ob_faultKind ob_faultPlace ob_fresh ob_parts ob_houses ob_houseMany ob_worthOf ob_byCall ob_over ob_bestSet ob_bestOver ob_bestWorth ob_row ob_tenDebts ob_tenMany ob_fewestBy ob_covered ob_queue ob_cameBy ob_parent ob_met ob_calls ob_callMany ob_calledOn ob_saved ob_many ob_width ob_numbers ob_moving fob_world p_fob_world p_ob_taped p_ob_size p_ob_at p_ob_from p_ob_token p_ob_value p_ob_faultKind p_ob_houseMany p_ob_bestSet p_ob_bestOver p_ob_tenMany p_ob_callMany (bw (0) (959) nc_1070.1 (by decide))) rfl ⟨(callB_of 2 hw0 (gA m_576) rfl rfl rfl (hw0 _ m_41) (hw0 _ m_402) cb_X10_ofDebt ⟨Nat.le_of_ble_eq_true rfl, Nat.le_of_ble_eq_true rfl⟩), (hw0 _ m_403), (hw0 _ m_404)⟩ (ci := 10) (q := (RX10, TX10, 41)) rfl rfl rfl hl.1 (Nat.le_of_ble_eq_true rfl) dX10_owesAlready_30 ⟨Nat.le_of_ble_eq_true rfl, Nat.le_of_ble_eq_true rfl⟩ (fun r_1076 w_1076 H locs hw_1076 hP hD hS => ?_)
      obtain ⟨v_1077, bv_1077, h_1078, er_1076, rfl⟩ := hw_1076
      subst r_1076
      obtain ⟨hP, hD⟩ : vPD G A H [(ce_X10 ob ob_thrown ob_world ob_images ob_hasImage ob_tape ob_taped ob_five ob_size ob_at ob_from ob_token ob_value ob_faultKind ob_faultPlace ob_fresh ob_parts ob_houses ob_houseMany ob_worthOf ob_byCall ob_over ob_bestSet ob_bestOver ob_bestWorth ob_row ob_tenDebts ob_tenMany ob_fewestBy ob_covered ob_queue ob_cameBy ob_parent ob_met ob_calls ob_callMany ob_calledOn ob_saved ob_many ob_width ob_numbers ob_moving), (ce_i9080 y ob_world fob_world)] := ⟨hP, hD⟩
      refine lv_iload_n hx hb dX10_owesAlready_33 rfl (lv_at hl 3 rfl) ?_
      refine lv_icmp_ne (tgt := 50) hx hb dX10_owesAlready_34 (by decide) (fun c_1079 => ?_) (fun c_1079 => ?_)
      · skip
        have nc_1079 : v_1077.toInt ≠ a2.toInt := fun h9 => c_1079 (Int32.toInt_inj.mp h9)
        obtain ⟨v_1080, ev_1080⟩ : ∃ z : Int32, z = v_1051 + 1 := ⟨_, rfl⟩
        have qv_1080 := ba_add ev_1080 nc_1070.1 (bkc (x := 1) (c := 1) (by decide)) (by decide)
        have bv_1080 : (1 : Int) ≤ v_1080.toInt ∧ v_1080.toInt ≤ 600 := bq_add qv_1080 nc_1070.1 (bkc (x := 1) (c := 1) (by decide)) _ _ (by decide)
        have qv_1080 : v_1080.toInt = v_1051.toInt + (1) := qv_1080
        refine lv_iinc (v := v_1080) (lv' := [(4, .int v_1080), (0, .ref ob), (1, .int a1), (2, .int a2), (3, .int a3)]) hx hb dX10_owesAlready_50 hl (k := 0) rfl (ev_1080.symm) (by decide) rfl (fun ls hl => ?_)
        refine lv_goto (tgt := 3) hx hb dX10_owesAlready_53 (by decide) ?_
        exact ih_1068 _ (ml_inc (hi := 600) hn_1068 qv_1080 (by decide) ((bw (0) (600) bv_1080 (by decide))).2) _ _ _ _ ⟨v_1080, rfl, (bw (0) (600) bv_1080 (by decide)), (fun L H => no_s (rl1051_0 L H) H (by have h9 := H.1; omega) (by omega) (by omega)), (by omega), rfl, ⟨hP, hD⟩, hS, lv_sub hl [0, 1, 2, 3, 4] rfl⟩
      · skip
        have nc_1079 := nb_eq (0) (15) c_1079 bv_1077 (btop a2) (by decide)
        refine lv_aload_n hx hb dX10_owesAlready_37 rfl (lv_at hl 1 rfl) ?_
        refine lv_iload hx hb dX10_owesAlready_38 (lv_at hl 0 rfl) ?_
        refine lv_iconst (v := 2) hx hb dX10_owesAlready_40 (by decide) ?_
        refine cVim (As := [.int v_1051, .int 2]) (rest := []) ⟨hx, hb, hml, hown, hw0⟩ hA hK hP hD hS [true, true] (gofDebt2 l G y _ ob v_1051 ob_thrown ob_world ob_images ob_hasImage ob_tape ob_taped ob_five ob_size ob_at ob_from ob_token ob_value ob_faultKind ob_faultPlace ob_fresh ob_parts ob_houses ob_houseMany ob_worthOf ob_byCall ob_over ob_bestSet ob_bestOver ob_bestWorth ob_row ob_tenDebts ob_tenMany ob_fewestBy ob_covered ob_queue ob_cameBy ob_parent ob_met ob_calls ob_callMany ob_calledOn ob_saved ob_many ob_width ob_numbers ob_moving fob_world p_fob_world p_ob_taped p_ob_size p_ob_at p_ob_from p_ob_token p_ob_value p_ob_faultKind p_ob_houseMany p_ob_bestSet p_ob_bestOver p_ob_tenMany p_ob_callMany (bw (0) (959) nc_1070.1 (by decide))) rfl ⟨(callB_of 2 hw0 (gA m_576) rfl rfl rfl (hw0 _ m_41) (hw0 _ m_402) cb_X10_ofDebt ⟨Nat.le_of_ble_eq_true rfl, Nat.le_of_ble_eq_true rfl⟩), (hw0 _ m_403), (hw0 _ m_404)⟩ (ci := 10) (q := (RX10, TX10, 41)) rfl rfl rfl hl.1 (Nat.le_of_ble_eq_true rfl) dX10_owesAlready_41 ⟨Nat.le_of_ble_eq_true rfl, Nat.le_of_ble_eq_true rfl⟩ (fun r_1081 w_1081 H locs hw_1081 hP hD hS => ?_)
        obtain ⟨v_1082, h_1083, er_1081, rfl⟩ := hw_1081
        subst r_1081
        obtain ⟨hP, hD⟩ : vPD G A H [(ce_X10 ob ob_thrown ob_world ob_images ob_hasImage ob_tape ob_taped ob_five ob_size ob_at ob_from ob_token ob_value ob_faultKind ob_faultPlace ob_fresh ob_parts ob_houses ob_houseMany ob_worthOf ob_byCall ob_over ob_bestSet ob_bestOver ob_bestWorth ob_row ob_tenDebts ob_tenMany ob_fewestBy ob_covered ob_queue ob_cameBy ob_parent ob_met ob_calls ob_callMany ob_calledOn ob_saved ob_many ob_width ob_numbers ob_moving), (ce_i9080 y ob_world fob_world)] := ⟨hP, hD⟩
        refine lv_iload_n hx hb dX10_owesAlready_44 rfl (lv_at hl 4 rfl) ?_
        refine lv_icmp_ne (tgt := 50) hx hb dX10_owesAlready_45 (by decide) (fun c_1084 => ?_) (fun c_1084 => ?_)
        · skip
          have nc_1084 : v_1082.toInt ≠ a3.toInt := fun h9 => c_1084 (Int32.toInt_inj.mp h9)
          obtain ⟨v_1085, ev_1085⟩ : ∃ z : Int32, z = v_1051 + 1 := ⟨_, rfl⟩
          have qv_1085 := ba_add ev_1085 nc_1070.1 (bkc (x := 1) (c := 1) (by decide)) (by decide)
          have bv_1085 : (1 : Int) ≤ v_1085.toInt ∧ v_1085.toInt ≤ 600 := bq_add qv_1085 nc_1070.1 (bkc (x := 1) (c := 1) (by decide)) _ _ (by decide)
          have qv_1085 : v_1085.toInt = v_1051.toInt + (1) := qv_1085
          refine lv_iinc (v := v_1085) (lv' := [(4, .int v_1085), (0, .ref ob), (1, .int a1), (2, .int a2), (3, .int a3)]) hx hb dX10_owesAlready_50 hl (k := 0) rfl (ev_1085.symm) (by decide) rfl (fun ls hl => ?_)
          refine lv_goto (tgt := 3) hx hb dX10_owesAlready_53 (by decide) ?_
          exact ih_1068 _ (ml_inc (hi := 600) hn_1068 qv_1085 (by decide) ((bw (0) (600) bv_1085 (by decide))).2) _ _ _ _ ⟨v_1085, rfl, (bw (0) (600) bv_1085 (by decide)), (fun L H => no_s (rl1051_0 L H) H (by have h9 := H.1; omega) (by omega) (by omega)), (by omega), rfl, ⟨hP, hD⟩, hS, lv_sub hl [0, 1, 2, 3, 4] rfl⟩
        · skip
          have nc_1084 := nb_eq (-2147483648) (2147483647) c_1084 (btop v_1082) (btop a3) (by decide)
          refine lv_iconst (v := 1) hx hb dX10_owesAlready_48 (by decide) ?_
          exact W.zret (v := 1) hx hb hr rfl (fun t ht hW => ⟨⟨1, _, rfl, Or.inr (⟨nc_1074.2.1, nc_1079.2.1, (by have lm1 : Int32.toInt (-1) = -1 := (by decide); have l91 : Int32.toInt 1 = 1 := (by decide); have l92 : Int32.toInt 2 = 2 := (by decide); have l93 : Int32.toInt 3 = 3 := (by decide); have h90 : Int32.toInt 1 = 1 := (by decide); intro L H; exact no_h (i := v_1051.toInt) H (by omega) (by have h9 := H.1; omega) ⟨by omega, by omega, by omega⟩), rfl, rfl⟩), by rw [ht]; exact hP, hD⟩, hS.F ht⟩) hS.2.2 dX10_owesAlready_49

set_option maxHeartbeats 4000000 in
set_option maxRecDepth 100000 in
theorem gcomes (l : Launch) (G : va_G) (y : Nat → ClassId) (sz : Nat) (ob : Nat) (a1 : Int32) (a2 : Int32) (a3 : Int32) (a4 : Int32) (a5 : Int32) (ob_thrown : Int32) (ob_world : Nat) (ob_images : Nat) (ob_hasImage : Nat) (ob_tape : Nat) (ob_taped : Int32) (ob_five : Nat) (ob_size : Int32) (ob_at : Int32) (ob_from : Int32) (ob_token : Int32) (ob_value : Int32) (ob_faultKind : Int32) (ob_faultPlace : Int32) (ob_fresh : Nat) (ob_parts : Nat) (ob_houses : Nat) (ob_houseMany : Int32) (ob_worthOf : Nat) (ob_byCall : Nat) (ob_over : Nat) (ob_bestSet : Int32) (ob_bestOver : Int32) (ob_bestWorth : Int32) (ob_row : Nat) (ob_tenDebts : Nat) (ob_tenMany : Int32) (ob_fewestBy : Nat) (ob_covered : Nat) (ob_queue : Nat) (ob_cameBy : Nat) (ob_parent : Nat) (ob_met : Nat) (ob_calls : Nat) (ob_callMany : Int32) (ob_calledOn : Nat) (ob_saved : Nat) (ob_many : Nat) (ob_width : Nat) (ob_numbers : Nat) (ob_moving : Nat) (fob_world : Nat → Int32) (p_fob_world : RWw fob_world) (p_ob_taped : (0 : Int) ≤ ob_taped.toInt ∧ ob_taped.toInt ≤ 1400) (p_ob_size : (0 : Int) ≤ ob_size.toInt ∧ ob_size.toInt ≤ 1400) (p_ob_at : (0 : Int) ≤ ob_at.toInt ∧ ob_at.toInt ≤ 1400) (p_ob_from : (0 : Int) ≤ ob_from.toInt ∧ ob_from.toInt ≤ 1400) (p_ob_token : (0 : Int) ≤ ob_token.toInt ∧ ob_token.toInt ≤ 4) (p_ob_value : (0 : Int) ≤ ob_value.toInt ∧ ob_value.toInt ≤ 9999) (p_ob_faultKind : (0 : Int) ≤ ob_faultKind.toInt ∧ ob_faultKind.toInt ≤ 3) (p_ob_houseMany : (0 : Int) ≤ ob_houseMany.toInt ∧ ob_houseMany.toInt ≤ 10) (p_ob_bestSet : (0 : Int) ≤ ob_bestSet.toInt ∧ ob_bestSet.toInt ≤ 1023) (p_ob_bestOver : (-1 : Int) ≤ ob_bestOver.toInt ∧ ob_bestOver.toInt ≤ 180) (p_ob_tenMany : (0 : Int) ≤ ob_tenMany.toInt ∧ ob_tenMany.toInt ≤ 10) (p_ob_callMany : (0 : Int) ≤ ob_callMany.toInt ∧ ob_callMany.toInt ≤ 16) (p_a1 : (0 : Int) ≤ a1.toInt ∧ a1.toInt ≤ 15) (p_a2 : (0 : Int) ≤ a2.toInt ∧ a2.toInt ≤ 15) (hq0 : (fob_world 7).toInt < (fob_world 8).toInt) : Met l yX10_comes (Cond.code yX10_comes cX10_comes 7 none :: wAll) ({ frames := 0, cells := 0, slots := 0, locals := 0 }) (va_Pc [.ref ob, .int a1, .int a2, .int a3, .int a4, .int a5] (kp G y sz [(ce_X10 ob ob_thrown ob_world ob_images ob_hasImage ob_tape ob_taped ob_five ob_size ob_at ob_from ob_token ob_value ob_faultKind ob_faultPlace ob_fresh ob_parts ob_houses ob_houseMany ob_worthOf ob_byCall ob_over ob_bestSet ob_bestOver ob_bestWorth ob_row ob_tenDebts ob_tenMany ob_fewestBy ob_covered ob_queue ob_cameBy ob_parent ob_met ob_calls ob_callMany ob_calledOn ob_saved ob_many ob_width ob_numbers ob_moving), (ce_i9080 y ob_world fob_world)])) (va_Qv (fun (w : va_W) => (∃ (f_35 : Nat → Int32), (RWw f_35) ∧ ((f_35 7).toInt = (fob_world 7).toInt + 1 ∧ (f_35 8).toInt = (fob_world 8).toInt) ∧ (∀ L, mB fob_world L → mB f_35 (L ++ [(a1.toInt, a2.toInt, a3.toInt, a4.toInt, a5.toInt)])) ∧ ((f_35 9).toInt = (fob_world 9).toInt) ∧ (wfr fob_world f_35) ∧ (tgd fob_world f_35) ∧ w = [(ce_X10 ob ob_thrown ob_world ob_images ob_hasImage ob_tape ob_taped ob_five ob_size ob_at ob_from ob_token ob_value ob_faultKind ob_faultPlace ob_fresh ob_parts ob_houses ob_houseMany ob_worthOf ob_byCall ob_over ob_bestSet ob_bestOver ob_bestWorth ob_row ob_tenDebts ob_tenMany ob_fewestBy ob_covered ob_queue ob_cameBy ob_parent ob_met ob_calls ob_callMany ob_calledOn ob_saved ob_many ob_width ob_numbers ob_moving), (ce_i9080 y ob_world f_35)])) (kq G (va_A [(ce_X10 ob ob_thrown ob_world ob_images ob_hasImage ob_tape ob_taped ob_five ob_size ob_at ob_from ob_token ob_value ob_faultKind ob_faultPlace ob_fresh ob_parts ob_houses ob_houseMany ob_worthOf ob_byCall ob_over ob_bestSet ob_bestOver ob_bestWorth ob_row ob_tenDebts ob_tenMany ob_fewestBy ob_covered ob_queue ob_cameBy ob_parent ob_met ob_calls ob_callMany ob_calledOn ob_saved ob_many ob_width ob_numbers ob_moving), (ce_i9080 y ob_world fob_world)] sz)) (va_A [(ce_X10 ob ob_thrown ob_world ob_images ob_hasImage ob_tape ob_taped ob_five ob_size ob_at ob_from ob_token ob_value ob_faultKind ob_faultPlace ob_fresh ob_parts ob_houses ob_houseMany ob_worthOf ob_byCall ob_over ob_bestSet ob_bestOver ob_bestWorth ob_row ob_tenDebts ob_tenMany ob_fewestBy ob_covered ob_queue ob_cameBy ob_parent ob_met ob_calls ob_callMany ob_calledOn ob_saved ob_many ob_width ob_numbers ob_moving), (ce_i9080 y ob_world fob_world)] sz)) 0 0 (va_A [(ce_X10 ob ob_thrown ob_world ob_images ob_hasImage ob_tape ob_taped ob_five ob_size ob_at ob_from ob_token ob_value ob_faultKind ob_faultPlace ob_fresh ob_parts ob_houses ob_houseMany ob_worthOf ob_byCall ob_over ob_bestSet ob_bestOver ob_bestWorth ob_row ob_tenDebts ob_tenMany ob_fewestBy ob_covered ob_queue ob_cameBy ob_parent ob_met ob_calls ob_callMany ob_calledOn ob_saved ob_many ob_width ob_numbers ob_moving), (ce_i9080 y ob_world fob_world)] sz) := by
  refine Met.ofW (cc := cX10_comes) (maxL := 7) (ret := none) (by decide) rfl ?_
  intro p e s m args below meth c s₁ B hml hv
  obtain ⟨rfl, hsz, hP, hK, hD0⟩ := hv
  have hx := B.exec
  have hb := B.bytes
  have hr := B.returns
  have hw0 : ∀ w ∈ wAll, w.before _ s = true := fun w h => atoms_spec (ws := Cond.code yX10_comes cX10_comes 7 none :: wAll) B.pre w (List.mem_cons_of_mem _ h)
  have hown : s.vm.findClass RX10 = some m.cls := findClass_of_methodNamed B.named
  subst hsz
  have hD := hD0.self (sz := s.heap.size)
  generalize hAe : va_A [(ce_X10 ob ob_thrown ob_world ob_images ob_hasImage ob_tape ob_taped ob_five ob_size ob_at ob_from ob_token ob_value ob_faultKind ob_faultPlace ob_fresh ob_parts ob_houses ob_houseMany ob_worthOf ob_byCall ob_over ob_bestSet ob_bestOver ob_bestWorth ob_row ob_tenDebts ob_tenMany ob_fewestBy ob_covered ob_queue ob_cameBy ob_parent ob_met ob_calls ob_callMany ob_calledOn ob_saved ob_many ob_width ob_numbers ob_moving), (ce_i9080 y ob_world fob_world)] s.heap.size = A at hD ⊢
  have hA : ∀ q : Nat, s.heap.size ≤ q → A q := fun q h => by rw [← hAe]; exact Or.inr h
  have hS : va_S A s.heap s.heap [] := va_S.rf
  have hP : va_P G vwCl [(ce_X10 ob ob_thrown ob_world ob_images ob_hasImage ob_tape ob_taped ob_five ob_size ob_at ob_from ob_token ob_value ob_faultKind ob_faultPlace ob_fresh ob_parts ob_houses ob_houseMany ob_worthOf ob_byCall ob_over ob_bestSet ob_bestOver ob_bestWorth ob_row ob_tenDebts ob_tenMany ob_fewestBy ob_covered ob_queue ob_cameBy ob_parent ob_met ob_calls ob_callMany ob_calledOn ob_saved ob_many ob_width ob_numbers ob_moving), (ce_i9080 y ob_world fob_world)] s.heap := hP
  have hl := lv_entry ([.ref ob, .int a1, .int a2, .int a3, .int a4, .int a5]) (n := 7) (Nat.le_of_ble_eq_true rfl)
  rw [lg_entry_eq]
  generalize (lg_sl ([.ref ob, .int a1, .int a2, .int a3, .int a4, .int a5]) ++ List.replicate (7 - (lg_sl ([.ref ob, .int a1, .int a2, .int a3, .int a4, .int a5])).length) Slot.unset).toArray = ls at hl ⊢
  have hl : lv_has ls 7 [(0, .ref ob), (1, .int a1), (2, .int a2), (3, .int a3), (4, .int a4), (5, .int a5)] := hl
  have hn7 : 0 ≤ (fob_world 7).toInt ∧ (fob_world 7).toInt ≤ 600 := by have h9 := (p_fob_world).1.1 7; have h8 : UBw 7 = 600 := (by decide); have h7 : LBw 7 = 0 := (by decide); omega
  refine lv_sipush (v := 1880) hx hb dX10_comes_0 (by decide) ?_
  refine lv_iconst (v := 5) hx hb dX10_comes_3 (by decide) ?_
  refine lv_aload_n hx hb dX10_comes_4 rfl (lv_at hl 0 rfl) ?_
  refine va_get (D := G) (ci := 10) (v := .ref ob_world) (C := RX10) (T := TX10) (N := 41) hx hb hw0 inA_wsX100 hown hK.1 hP 0 rfl rfl 1 (by decide) (hw0 _ m_352) (fun _ h9 => h9) rfl dX10_comes_5 ?_
  refine lv_bipush (v := 7) hx hb dX10_comes_8 (by decide) ?_
  refine va_iald hx hb hK.1 hP 1 1 rfl rfl (vi (bkc (x := 7) (c := 7) (by decide)) (by decide)) dX10_comes_10 ?_
  refine lv_topi (fun v_1001 ev_1001 => ?_)
  have bv_1001 : (0 : Int) ≤ v_1001.toInt ∧ v_1001.toInt ≤ 600 := rdk ev_1001 (p_fob_world).1.1 (by decide)
  have yv_1001 : v_1001.toInt = (fob_world 7).toInt := congrArg Int32.toInt ev_1001
  have h_1002 : (0 : Int) ≤ v_1001.toInt ∧ v_1001.toInt ≤ 599 := by have h9 := (p_fob_world).1.1 8; have h8 : UBw 8 = 600 := (by decide); omega
  refine lv_imul hx hb dX10_comes_11 ?_
  refine lv_topi (fun v_1003 ev_1003 => ?_)
  have qv_1003 := ba_mul 5 (ev_1003.trans (Int32.mul_comm _ _)) h_1002 (by decide) (by decide) (by decide)
  have bv_1003 : (0 : Int) ≤ v_1003.toInt ∧ v_1003.toInt ≤ 2995 := qv_1003.2
  refine lv_iadd hx hb dX10_comes_12 ?_
  refine lv_topi (fun v_1004 ev_1004 => ?_)
  have qv_1004 := ba_add ev_1004 (bkc (x := 1880) (c := 1880) (by decide)) bv_1003 (by decide)
  have bv_1004 : (1880 : Int) ≤ v_1004.toInt ∧ v_1004.toInt ≤ 4875 := bq_add qv_1004 (bkc (x := 1880) (c := 1880) (by decide)) bv_1003 _ _ (by decide)
  have qv_1004 : v_1004.toInt = (1880) + v_1003.toInt := qv_1004
  refine lv_istore (lv' := [(6, .int v_1004), (0, .ref ob), (1, .int a1), (2, .int a2), (3, .int a3), (4, .int a4), (5, .int a5)]) hx hb dX10_comes_13 hl (by decide) rfl (fun ls hl => ?_)
  refine lv_aload_n hx hb dX10_comes_15 rfl (lv_at hl 1 rfl) ?_
  refine va_get (D := G) (ci := 10) (v := .ref ob_world) (C := RX10) (T := TX10) (N := 41) hx hb hw0 inA_wsX100 hown hK.1 hP 0 rfl rfl 1 (by decide) (hw0 _ m_352) (fun _ h9 => h9) rfl dX10_comes_16 ?_
  refine lv_iload hx hb dX10_comes_19 (lv_at hl 0 rfl) ?_
  refine lv_iload_n hx hb dX10_comes_21 rfl (lv_at hl 2 rfl) ?_
  refine va_iast hx hb hK.1 hP hD hS 1 1 rfl rfl (vi bv_1004 (by decide)) dX10_comes_22 (fun H locs hP hD hS => ?_)
  generalize hf_1005 : (upd fob_world (v_1004 : Int32).toNatClampNeg a1) = f_1005 at hP hD
  have zf_1005_7 : (f_1005 7).toInt = (fob_world 7).toInt := hf_1005 ▸ pin_ne (ix_not bv_1004 (by decide))
  have zf_1005_8 : (f_1005 8).toInt = (fob_world 8).toInt := hf_1005 ▸ pin_ne (ix_not bv_1004 (by decide))
  have zf_1005_9 : (f_1005 9).toInt = (fob_world 9).toInt := hf_1005 ▸ pin_ne (ix_not bv_1004 (by decide))
  have bf_1005 : RBw f_1005 := hf_1005 ▸ upw (p_fob_world).1.1 pl_15 (by omega) (h_1002) p_a1
  have cf_1005 : RVw f_1005 := hf_1005 ▸ RV_up (p_fob_world).1 (hf_1005 ▸ bf_1005) (ix_out bv_1004 (by decide))
  have df_1005 : RWw f_1005 := ⟨cf_1005, hf_1005 ▸ WQ_up (p_fob_world).1.1 (p_fob_world).2 (qf_ix bv_1004 (by decide))⟩
  obtain ⟨hP, hD⟩ : vPD G A H [(ce_X10 ob ob_thrown ob_world ob_images ob_hasImage ob_tape ob_taped ob_five ob_size ob_at ob_from ob_token ob_value ob_faultKind ob_faultPlace ob_fresh ob_parts ob_houses ob_houseMany ob_worthOf ob_byCall ob_over ob_bestSet ob_bestOver ob_bestWorth ob_row ob_tenDebts ob_tenMany ob_fewestBy ob_covered ob_queue ob_cameBy ob_parent ob_met ob_calls ob_callMany ob_calledOn ob_saved ob_many ob_width ob_numbers ob_moving), (ce_i9080 y ob_world f_1005)] := ⟨hP, hD⟩
  refine lv_aload_n hx hb dX10_comes_23 rfl (lv_at hl 1 rfl) ?_
  refine va_get (D := G) (ci := 10) (v := .ref ob_world) (C := RX10) (T := TX10) (N := 41) hx hb hw0 inA_wsX100 hown hK.1 hP 0 rfl rfl 1 (by decide) (hw0 _ m_352) (fun _ h9 => h9) rfl dX10_comes_24 ?_
  refine lv_iload hx hb dX10_comes_27 (lv_at hl 0 rfl) ?_
  refine lv_iconst (v := 1) hx hb dX10_comes_29 (by decide) ?_
  refine lv_iadd hx hb dX10_comes_30 ?_
  refine lv_topi (fun v_1006 ev_1006 => ?_)
  have qv_1006 := ba_add ev_1006 bv_1004 (bkc (x := 1) (c := 1) (by decide)) (by decide)
  have bv_1006 : (1881 : Int) ≤ v_1006.toInt ∧ v_1006.toInt ≤ 4876 := bq_add qv_1006 bv_1004 (bkc (x := 1) (c := 1) (by decide)) _ _ (by decide)
  have qv_1006 : v_1006.toInt = v_1004.toInt + (1) := qv_1006
  refine lv_iload_n hx hb dX10_comes_31 rfl (lv_at hl 3 rfl) ?_
  refine va_iast hx hb hK.1 hP hD hS 1 1 rfl rfl (vi bv_1006 (by decide)) dX10_comes_32 (fun H locs hP hD hS => ?_)
  generalize hf_1007 : (upd f_1005 (v_1006 : Int32).toNatClampNeg a2) = f_1007 at hP hD
  have zf_1007_7 : (f_1007 7).toInt = (f_1005 7).toInt := hf_1007 ▸ pin_ne (ix_not bv_1006 (by decide))
  have zf_1007_8 : (f_1007 8).toInt = (f_1005 8).toInt := hf_1007 ▸ pin_ne (ix_not bv_1006 (by decide))
  have zf_1007_9 : (f_1007 9).toInt = (f_1005 9).toInt := hf_1007 ▸ pin_ne (ix_not bv_1006 (by decide))
  have bf_1007 : RBw f_1007 := hf_1007 ▸ upw (df_1005).1.1 pl_39 (by omega) (h_1002) p_a2
  have cf_1007 : RVw f_1007 := hf_1007 ▸ RV_up (df_1005).1 (hf_1007 ▸ bf_1007) (ix_out bv_1006 (by decide))
  have df_1007 : RWw f_1007 := ⟨cf_1007, hf_1007 ▸ WQ_up (df_1005).1.1 (df_1005).2 (qf_ix bv_1006 (by decide))⟩
  obtain ⟨hP, hD⟩ : vPD G A H [(ce_X10 ob ob_thrown ob_world ob_images ob_hasImage ob_tape ob_taped ob_five ob_size ob_at ob_from ob_token ob_value ob_faultKind ob_faultPlace ob_fresh ob_parts ob_houses ob_houseMany ob_worthOf ob_byCall ob_over ob_bestSet ob_bestOver ob_bestWorth ob_row ob_tenDebts ob_tenMany ob_fewestBy ob_covered ob_queue ob_cameBy ob_parent ob_met ob_calls ob_callMany ob_calledOn ob_saved ob_many ob_width ob_numbers ob_moving), (ce_i9080 y ob_world f_1007)] := ⟨hP, hD⟩
  refine lv_aload_n hx hb dX10_comes_33 rfl (lv_at hl 1 rfl) ?_
  refine va_get (D := G) (ci := 10) (v := .ref ob_world) (C := RX10) (T := TX10) (N := 41) hx hb hw0 inA_wsX100 hown hK.1 hP 0 rfl rfl 1 (by decide) (hw0 _ m_352) (fun _ h9 => h9) rfl dX10_comes_34 ?_
  refine lv_iload hx hb dX10_comes_37 (lv_at hl 0 rfl) ?_
  refine lv_iconst (v := 2) hx hb dX10_comes_39 (by decide) ?_
  refine lv_iadd hx hb dX10_comes_40 ?_
  refine lv_topi (fun v_1008 ev_1008 => ?_)
  have qv_1008 := ba_add ev_1008 bv_1004 (bkc (x := 2) (c := 2) (by decide)) (by decide)
  have bv_1008 : (1882 : Int) ≤ v_1008.toInt ∧ v_1008.toInt ≤ 4877 := bq_add qv_1008 bv_1004 (bkc (x := 2) (c := 2) (by decide)) _ _ (by decide)
  have qv_1008 : v_1008.toInt = v_1004.toInt + (2) := qv_1008
  refine lv_iload_n hx hb dX10_comes_41 rfl (lv_at hl 4 rfl) ?_
  refine va_iast hx hb hK.1 hP hD hS 1 1 rfl rfl (vi bv_1008 (by decide)) dX10_comes_42 (fun H locs hP hD hS => ?_)
  generalize hf_1009 : (upd f_1007 (v_1008 : Int32).toNatClampNeg a3) = f_1009 at hP hD
  have zf_1009_7 : (f_1009 7).toInt = (f_1007 7).toInt := hf_1009 ▸ pin_ne (ix_not bv_1008 (by decide))
  have zf_1009_8 : (f_1009 8).toInt = (f_1007 8).toInt := hf_1009 ▸ pin_ne (ix_not bv_1008 (by decide))
  have zf_1009_9 : (f_1009 9).toInt = (f_1007 9).toInt := hf_1009 ▸ pin_ne (ix_not bv_1008 (by decide))
  have bf_1009 : RBw f_1009 := hf_1009 ▸ upw (df_1007).1.1 pl_40 (by omega) (h_1002) (btop a3)
  have cf_1009 : RVw f_1009 := hf_1009 ▸ RV_up (df_1007).1 (hf_1009 ▸ bf_1009) (ix_out bv_1008 (by decide))
  have df_1009 : RWw f_1009 := ⟨cf_1009, hf_1009 ▸ WQ_up (df_1007).1.1 (df_1007).2 (qf_ix bv_1008 (by decide))⟩
  obtain ⟨hP, hD⟩ : vPD G A H [(ce_X10 ob ob_thrown ob_world ob_images ob_hasImage ob_tape ob_taped ob_five ob_size ob_at ob_from ob_token ob_value ob_faultKind ob_faultPlace ob_fresh ob_parts ob_houses ob_houseMany ob_worthOf ob_byCall ob_over ob_bestSet ob_bestOver ob_bestWorth ob_row ob_tenDebts ob_tenMany ob_fewestBy ob_covered ob_queue ob_cameBy ob_parent ob_met ob_calls ob_callMany ob_calledOn ob_saved ob_many ob_width ob_numbers ob_moving), (ce_i9080 y ob_world f_1009)] := ⟨hP, hD⟩
  refine lv_aload_n hx hb dX10_comes_43 rfl (lv_at hl 1 rfl) ?_
  refine va_get (D := G) (ci := 10) (v := .ref ob_world) (C := RX10) (T := TX10) (N := 41) hx hb hw0 inA_wsX100 hown hK.1 hP 0 rfl rfl 1 (by decide) (hw0 _ m_352) (fun _ h9 => h9) rfl dX10_comes_44 ?_
  refine lv_iload hx hb dX10_comes_47 (lv_at hl 0 rfl) ?_
  refine lv_iconst (v := 3) hx hb dX10_comes_49 (by decide) ?_
  refine lv_iadd hx hb dX10_comes_50 ?_
  refine lv_topi (fun v_1010 ev_1010 => ?_)
  have qv_1010 := ba_add ev_1010 bv_1004 (bkc (x := 3) (c := 3) (by decide)) (by decide)
  have bv_1010 : (1883 : Int) ≤ v_1010.toInt ∧ v_1010.toInt ≤ 4878 := bq_add qv_1010 bv_1004 (bkc (x := 3) (c := 3) (by decide)) _ _ (by decide)
  have qv_1010 : v_1010.toInt = v_1004.toInt + (3) := qv_1010
  refine lv_iload hx hb dX10_comes_51 (lv_at hl 5 rfl) ?_
  refine va_iast hx hb hK.1 hP hD hS 1 1 rfl rfl (vi bv_1010 (by decide)) dX10_comes_53 (fun H locs hP hD hS => ?_)
  generalize hf_1011 : (upd f_1009 (v_1010 : Int32).toNatClampNeg a4) = f_1011 at hP hD
  have zf_1011_7 : (f_1011 7).toInt = (f_1009 7).toInt := hf_1011 ▸ pin_ne (ix_not bv_1010 (by decide))
  have zf_1011_8 : (f_1011 8).toInt = (f_1009 8).toInt := hf_1011 ▸ pin_ne (ix_not bv_1010 (by decide))
  have zf_1011_9 : (f_1011 9).toInt = (f_1009 9).toInt := hf_1011 ▸ pin_ne (ix_not bv_1010 (by decide))
  have bf_1011 : RBw f_1011 := hf_1011 ▸ upw (df_1009).1.1 pl_41 (by omega) (h_1002) (btop a4)
  have cf_1011 : RVw f_1011 := hf_1011 ▸ RV_up (df_1009).1 (hf_1011 ▸ bf_1011) (ix_out bv_1010 (by decide))
  have df_1011 : RWw f_1011 := ⟨cf_1011, hf_1011 ▸ WQ_up (df_1009).1.1 (df_1009).2 (qf_ix bv_1010 (by decide))⟩
  obtain ⟨hP, hD⟩ : vPD G A H [(ce_X10 ob ob_thrown ob_world ob_images ob_hasImage ob_tape ob_taped ob_five ob_size ob_at ob_from ob_token ob_value ob_faultKind ob_faultPlace ob_fresh ob_parts ob_houses ob_houseMany ob_worthOf ob_byCall ob_over ob_bestSet ob_bestOver ob_bestWorth ob_row ob_tenDebts ob_tenMany ob_fewestBy ob_covered ob_queue ob_cameBy ob_parent ob_met ob_calls ob_callMany ob_calledOn ob_saved ob_many ob_width ob_numbers ob_moving), (ce_i9080 y ob_world f_1011)] := ⟨hP, hD⟩
  refine lv_aload_n hx hb dX10_comes_54 rfl (lv_at hl 1 rfl) ?_
  refine va_get (D := G) (ci := 10) (v := .ref ob_world) (C := RX10) (T := TX10) (N := 41) hx hb hw0 inA_wsX100 hown hK.1 hP 0 rfl rfl 1 (by decide) (hw0 _ m_352) (fun _ h9 => h9) rfl dX10_comes_55 ?_
  refine lv_iload hx hb dX10_comes_58 (lv_at hl 0 rfl) ?_
  refine lv_iconst (v := 4) hx hb dX10_comes_60 (by decide) ?_
  refine lv_iadd hx hb dX10_comes_61 ?_
  refine lv_topi (fun v_1012 ev_1012 => ?_)
  have qv_1012 := ba_add ev_1012 bv_1004 (bkc (x := 4) (c := 4) (by decide)) (by decide)
  have bv_1012 : (1884 : Int) ≤ v_1012.toInt ∧ v_1012.toInt ≤ 4879 := bq_add qv_1012 bv_1004 (bkc (x := 4) (c := 4) (by decide)) _ _ (by decide)
  have qv_1012 : v_1012.toInt = v_1004.toInt + (4) := qv_1012
  refine lv_iload hx hb dX10_comes_62 (lv_at hl 6 rfl) ?_
  refine va_iast hx hb hK.1 hP hD hS 1 1 rfl rfl (vi bv_1012 (by decide)) dX10_comes_64 (fun H locs hP hD hS => ?_)
  generalize hf_1013 : (upd f_1011 (v_1012 : Int32).toNatClampNeg a5) = f_1013 at hP hD
  have zf_1013_7 : (f_1013 7).toInt = (f_1011 7).toInt := hf_1013 ▸ pin_ne (ix_not bv_1012 (by decide))
  have zf_1013_8 : (f_1013 8).toInt = (f_1011 8).toInt := hf_1013 ▸ pin_ne (ix_not bv_1012 (by decide))
  have zf_1013_9 : (f_1013 9).toInt = (f_1011 9).toInt := hf_1013 ▸ pin_ne (ix_not bv_1012 (by decide))
  have bf_1013 : RBw f_1013 := hf_1013 ▸ upw (df_1011).1.1 pl_42 (by omega) (h_1002) (btop a5)
  have cf_1013 : RVw f_1013 := hf_1013 ▸ RV_up (df_1011).1 (hf_1013 ▸ bf_1013) (ix_out bv_1012 (by decide))
  have df_1013 : RWw f_1013 := ⟨cf_1013, hf_1013 ▸ WQ_up (df_1011).1.1 (df_1011).2 (qf_ix bv_1012 (by decide))⟩
  obtain ⟨hP, hD⟩ : vPD G A H [(ce_X10 ob ob_thrown ob_world ob_images ob_hasImage ob_tape ob_taped ob_five ob_size ob_at ob_from ob_token ob_value ob_faultKind ob_faultPlace ob_fresh ob_parts ob_houses ob_houseMany ob_worthOf ob_byCall ob_over ob_bestSet ob_bestOver ob_bestWorth ob_row ob_tenDebts ob_tenMany ob_fewestBy ob_covered ob_queue ob_cameBy ob_parent ob_met ob_calls ob_callMany ob_calledOn ob_saved ob_many ob_width ob_numbers ob_moving), (ce_i9080 y ob_world f_1013)] := ⟨hP, hD⟩
  refine lv_aload_n hx hb dX10_comes_65 rfl (lv_at hl 1 rfl) ?_
  refine va_get (D := G) (ci := 10) (v := .ref ob_world) (C := RX10) (T := TX10) (N := 41) hx hb hw0 inA_wsX100 hown hK.1 hP 0 rfl rfl 1 (by decide) (hw0 _ m_352) (fun _ h9 => h9) rfl dX10_comes_66 ?_
  refine lv_bipush (v := 7) hx hb dX10_comes_69 (by decide) ?_
  refine lv_dup2_11 hx hb dX10_comes_71 rfl rfl ?_
  refine va_iald hx hb hK.1 hP 1 1 rfl rfl (vi (bkc (x := 7) (c := 7) (by decide)) (by decide)) dX10_comes_72 ?_
  refine lv_topi (fun v_1014 ev_1014 => ?_)
  have bv_1014 : (0 : Int) ≤ v_1014.toInt ∧ v_1014.toInt ≤ 600 := rdk ev_1014 (df_1013).1.1 (by decide)
  have yv_1014 : v_1014.toInt = (f_1013 7).toInt := congrArg Int32.toInt ev_1014
  refine lv_iconst (v := 1) hx hb dX10_comes_73 (by decide) ?_
  refine lv_iadd hx hb dX10_comes_74 ?_
  refine lv_topi (fun v_1015 ev_1015 => ?_)
  have qv_1015 := ba_add ev_1015 bv_1014 (bkc (x := 1) (c := 1) (by decide)) (by decide)
  have bv_1015 : (1 : Int) ≤ v_1015.toInt ∧ v_1015.toInt ≤ 601 := bq_add qv_1015 bv_1014 (bkc (x := 1) (c := 1) (by decide)) _ _ (by decide)
  have qv_1015 : v_1015.toInt = v_1014.toInt + (1) := qv_1015
  have h_1016 : (0 : Int) ≤ v_1015.toInt ∧ v_1015.toInt ≤ 600 := by have h9 := (p_fob_world).1.1 8; have h8 : UBw 8 = 600 := (by decide); omega
  refine va_iast hx hb hK.1 hP hD hS 1 1 rfl rfl (vi (bkc (x := 7) (c := 7) (by decide)) (by decide)) dX10_comes_75 (fun H locs hP hD hS => ?_)
  generalize hf_1017 : (upd f_1013 (7 : Int32).toNatClampNeg v_1015) = f_1017 at hP hD
  have zf_1017_7 : (f_1017 7).toInt = (v_1015 : Int32).toInt := hf_1017 ▸ pin_eq (by decide)
  have zf_1017_8 : (f_1017 8).toInt = (f_1013 8).toInt := hf_1017 ▸ pin_ne (ix_not (bkc (x := 7) (c := 7) (by decide)) (by decide))
  have zf_1017_9 : (f_1017 9).toInt = (f_1013 9).toInt := hf_1017 ▸ pin_ne (ix_not (bkc (x := 7) (c := 7) (by decide)) (by decide))
  have bf_1017 : RBw f_1017 := hf_1017 ▸ upk (df_1013).1.1 h_1016 (by decide)
  have cf_1017 : RVw f_1017 := ⟨bf_1017, by have h97 : (f_1013 7).toInt ≤ (f_1013 8).toInt := ((df_1013).1).2; unfold W7; omega⟩
  have df_1017 : RWw f_1017 := ⟨cf_1017, hf_1017 ▸ WQ_up (df_1013).1.1 (df_1013).2 (qf_ix (bkc (x := 7) (c := 7) (by decide)) (by decide))⟩
  obtain ⟨hP, hD⟩ : vPD G A H [(ce_X10 ob ob_thrown ob_world ob_images ob_hasImage ob_tape ob_taped ob_five ob_size ob_at ob_from ob_token ob_value ob_faultKind ob_faultPlace ob_fresh ob_parts ob_houses ob_houseMany ob_worthOf ob_byCall ob_over ob_bestSet ob_bestOver ob_bestWorth ob_row ob_tenDebts ob_tenMany ob_fewestBy ob_covered ob_queue ob_cameBy ob_parent ob_met ob_calls ob_callMany ob_calledOn ob_saved ob_many ob_width ob_numbers ob_moving), (ce_i9080 y ob_world f_1017)] := ⟨hP, hD⟩
  exact W.vret hx hb hr (fun t ht hW => ⟨⟨_, rfl, ⟨f_1017, df_1017, by omega, (by have lm1 : Int32.toInt (-1) = -1 := (by decide); have l91 : Int32.toInt 1 = 1 := (by decide); have l92 : Int32.toInt 2 = 2 := (by decide); have l93 : Int32.toInt 3 = 3 := (by decide); intro L H; exact co_m H hf_1005 hf_1007 hf_1009 hf_1011 hf_1013 hf_1017 (by omega) (by omega) (by omega) (by omega) (by omega) (by omega)), by omega, (wfr_u (wfr_u (wfr_u (wfr_u (wfr_u (wfr_u wfr_r hf_1005 (ix_wfr bv_1004 (by decide))) hf_1007 (ix_wfr bv_1006 (by decide))) hf_1009 (ix_wfr bv_1008 (by decide))) hf_1011 (ix_wfr bv_1010 (by decide))) hf_1013 (ix_wfr bv_1012 (by decide))) hf_1017 (ix_wfr (bkc (x := 7) (c := 7) (by decide)) (by decide))), (tgd_u (tgd_u (tgd_u (tgd_u (tgd_u (tgd_u tgd_r hf_1005 (ix_tgd bv_1004 (by decide))) hf_1007 (ix_tgd bv_1006 (by decide))) hf_1009 (ix_tgd bv_1008 (by decide))) hf_1011 (ix_tgd bv_1010 (by decide))) hf_1013 (ix_tgd bv_1012 (by decide))) hf_1017 (ix_tgd (bkc (x := 7) (c := 7) (by decide)) (by decide))), rfl⟩, by rw [ht]; exact hP, hD⟩, hS.F ht⟩) hS.2.2 dX10_comes_76

set_option maxHeartbeats 4000000 in
set_option maxRecDepth 100000 in
theorem gplaceOf (l : Launch) (G : va_G) (y : Nat → ClassId) (sz : Nat) (ob : Nat) (a1 : Int32) (a2 : Int32) (ob_thrown : Int32) (ob_world : Nat) (ob_images : Nat) (ob_hasImage : Nat) (ob_tape : Nat) (ob_taped : Int32) (ob_five : Nat) (ob_size : Int32) (ob_at : Int32) (ob_from : Int32) (ob_token : Int32) (ob_value : Int32) (ob_faultKind : Int32) (ob_faultPlace : Int32) (ob_fresh : Nat) (ob_parts : Nat) (ob_houses : Nat) (ob_houseMany : Int32) (ob_worthOf : Nat) (ob_byCall : Nat) (ob_over : Nat) (ob_bestSet : Int32) (ob_bestOver : Int32) (ob_bestWorth : Int32) (ob_row : Nat) (ob_tenDebts : Nat) (ob_tenMany : Int32) (ob_fewestBy : Nat) (ob_covered : Nat) (ob_queue : Nat) (ob_cameBy : Nat) (ob_parent : Nat) (ob_met : Nat) (ob_calls : Nat) (ob_callMany : Int32) (ob_calledOn : Nat) (ob_saved : Nat) (ob_many : Nat) (ob_width : Nat) (ob_numbers : Nat) (ob_moving : Nat) (fob_world : Nat → Int32) (p_fob_world : RWw fob_world) (p_ob_taped : (0 : Int) ≤ ob_taped.toInt ∧ ob_taped.toInt ≤ 1400) (p_ob_size : (0 : Int) ≤ ob_size.toInt ∧ ob_size.toInt ≤ 1400) (p_ob_at : (0 : Int) ≤ ob_at.toInt ∧ ob_at.toInt ≤ 1400) (p_ob_from : (0 : Int) ≤ ob_from.toInt ∧ ob_from.toInt ≤ 1400) (p_ob_token : (0 : Int) ≤ ob_token.toInt ∧ ob_token.toInt ≤ 4) (p_ob_value : (0 : Int) ≤ ob_value.toInt ∧ ob_value.toInt ≤ 9999) (p_ob_faultKind : (0 : Int) ≤ ob_faultKind.toInt ∧ ob_faultKind.toInt ≤ 3) (p_ob_houseMany : (0 : Int) ≤ ob_houseMany.toInt ∧ ob_houseMany.toInt ≤ 10) (p_ob_bestSet : (0 : Int) ≤ ob_bestSet.toInt ∧ ob_bestSet.toInt ≤ 1023) (p_ob_bestOver : (-1 : Int) ≤ ob_bestOver.toInt ∧ ob_bestOver.toInt ≤ 180) (p_ob_tenMany : (0 : Int) ≤ ob_tenMany.toInt ∧ ob_tenMany.toInt ≤ 10) (p_ob_callMany : (0 : Int) ≤ ob_callMany.toInt ∧ ob_callMany.toInt ≤ 16) : Met l yX10_placeOf (Cond.code yX10_placeOf cX10_placeOf 5 (some .int) :: wAll) ({ frames := 1, cells := 0, slots := 0, locals := 22 }) (va_Pc [.ref ob, .int a1, .int a2] (kp G y sz [(ce_X10 ob ob_thrown ob_world ob_images ob_hasImage ob_tape ob_taped ob_five ob_size ob_at ob_from ob_token ob_value ob_faultKind ob_faultPlace ob_fresh ob_parts ob_houses ob_houseMany ob_worthOf ob_byCall ob_over ob_bestSet ob_bestOver ob_bestWorth ob_row ob_tenDebts ob_tenMany ob_fewestBy ob_covered ob_queue ob_cameBy ob_parent ob_met ob_calls ob_callMany ob_calledOn ob_saved ob_many ob_width ob_numbers ob_moving), (ce_i9080 y ob_world fob_world)])) (va_Qi (fun (r : Int32) (w : va_W) => (∃ (v_115 : Int32), ((-1 : Int) ≤ v_115.toInt ∧ v_115.toInt ≤ 599) ∧ (∀ L, mB fob_world L → nth9 a1.toInt a2.toInt L (v_115 : Int32).toInt) ∧ (-1 ≤ (v_115 : Int32).toInt ∧ (v_115 : Int32).toInt ≤ 599) ∧ r = v_115 ∧ w = [(ce_X10 ob ob_thrown ob_world ob_images ob_hasImage ob_tape ob_taped ob_five ob_size ob_at ob_from ob_token ob_value ob_faultKind ob_faultPlace ob_fresh ob_parts ob_houses ob_houseMany ob_worthOf ob_byCall ob_over ob_bestSet ob_bestOver ob_bestWorth ob_row ob_tenDebts ob_tenMany ob_fewestBy ob_covered ob_queue ob_cameBy ob_parent ob_met ob_calls ob_callMany ob_calledOn ob_saved ob_many ob_width ob_numbers ob_moving), (ce_i9080 y ob_world fob_world)])) (kq G (va_A [(ce_X10 ob ob_thrown ob_world ob_images ob_hasImage ob_tape ob_taped ob_five ob_size ob_at ob_from ob_token ob_value ob_faultKind ob_faultPlace ob_fresh ob_parts ob_houses ob_houseMany ob_worthOf ob_byCall ob_over ob_bestSet ob_bestOver ob_bestWorth ob_row ob_tenDebts ob_tenMany ob_fewestBy ob_covered ob_queue ob_cameBy ob_parent ob_met ob_calls ob_callMany ob_calledOn ob_saved ob_many ob_width ob_numbers ob_moving), (ce_i9080 y ob_world fob_world)] sz)) (va_A [(ce_X10 ob ob_thrown ob_world ob_images ob_hasImage ob_tape ob_taped ob_five ob_size ob_at ob_from ob_token ob_value ob_faultKind ob_faultPlace ob_fresh ob_parts ob_houses ob_houseMany ob_worthOf ob_byCall ob_over ob_bestSet ob_bestOver ob_bestWorth ob_row ob_tenDebts ob_tenMany ob_fewestBy ob_covered ob_queue ob_cameBy ob_parent ob_met ob_calls ob_callMany ob_calledOn ob_saved ob_many ob_width ob_numbers ob_moving), (ce_i9080 y ob_world fob_world)] sz)) 0 0 (va_A [(ce_X10 ob ob_thrown ob_world ob_images ob_hasImage ob_tape ob_taped ob_five ob_size ob_at ob_from ob_token ob_value ob_faultKind ob_faultPlace ob_fresh ob_parts ob_houses ob_houseMany ob_worthOf ob_byCall ob_over ob_bestSet ob_bestOver ob_bestWorth ob_row ob_tenDebts ob_tenMany ob_fewestBy ob_covered ob_queue ob_cameBy ob_parent ob_met ob_calls ob_callMany ob_calledOn ob_saved ob_many ob_width ob_numbers ob_moving), (ce_i9080 y ob_world fob_world)] sz) := by
  refine Met.ofW (cc := cX10_placeOf) (maxL := 5) (ret := (some .int)) (by decide) rfl ?_
  intro p e s m args below meth c s₁ B hml hv
  obtain ⟨rfl, hsz, hP, hK, hD0⟩ := hv
  have hx := B.exec
  have hb := B.bytes
  have hr := B.returns
  have hw0 : ∀ w ∈ wAll, w.before _ s = true := fun w h => atoms_spec (ws := Cond.code yX10_placeOf cX10_placeOf 5 (some .int) :: wAll) B.pre w (List.mem_cons_of_mem _ h)
  have hown : s.vm.findClass RX10 = some m.cls := findClass_of_methodNamed B.named
  subst hsz
  have hD := hD0.self (sz := s.heap.size)
  generalize hAe : va_A [(ce_X10 ob ob_thrown ob_world ob_images ob_hasImage ob_tape ob_taped ob_five ob_size ob_at ob_from ob_token ob_value ob_faultKind ob_faultPlace ob_fresh ob_parts ob_houses ob_houseMany ob_worthOf ob_byCall ob_over ob_bestSet ob_bestOver ob_bestWorth ob_row ob_tenDebts ob_tenMany ob_fewestBy ob_covered ob_queue ob_cameBy ob_parent ob_met ob_calls ob_callMany ob_calledOn ob_saved ob_many ob_width ob_numbers ob_moving), (ce_i9080 y ob_world fob_world)] s.heap.size = A at hD ⊢
  have hA : ∀ q : Nat, s.heap.size ≤ q → A q := fun q h => by rw [← hAe]; exact Or.inr h
  have hS : va_S A s.heap s.heap [] := va_S.rf
  have hP : va_P G vwCl [(ce_X10 ob ob_thrown ob_world ob_images ob_hasImage ob_tape ob_taped ob_five ob_size ob_at ob_from ob_token ob_value ob_faultKind ob_faultPlace ob_fresh ob_parts ob_houses ob_houseMany ob_worthOf ob_byCall ob_over ob_bestSet ob_bestOver ob_bestWorth ob_row ob_tenDebts ob_tenMany ob_fewestBy ob_covered ob_queue ob_cameBy ob_parent ob_met ob_calls ob_callMany ob_calledOn ob_saved ob_many ob_width ob_numbers ob_moving), (ce_i9080 y ob_world fob_world)] s.heap := hP
  have hl := lv_entry ([.ref ob, .int a1, .int a2]) (n := 5) (Nat.le_of_ble_eq_true rfl)
  rw [lg_entry_eq]
  generalize (lg_sl ([.ref ob, .int a1, .int a2]) ++ List.replicate (5 - (lg_sl ([.ref ob, .int a1, .int a2])).length) Slot.unset).toArray = ls at hl ⊢
  have hl : lv_has ls 5 [(0, .ref ob), (1, .int a1), (2, .int a2)] := hl
  have hn7 : 0 ≤ (fob_world 7).toInt ∧ (fob_world 7).toInt ≤ 600 := by have h9 := (p_fob_world).1.1 7; have h8 : UBw 7 = 600 := (by decide); have h7 : LBw 7 = 0 := (by decide); omega
  refine lv_iconst (v := 0) hx hb dX10_placeOf_0 (by decide) ?_
  refine lv_istore_n (lv' := [(3, .int 0), (0, .ref ob), (1, .int a1), (2, .int a2)]) hx hb dX10_placeOf_1 rfl hl (by decide) rfl (fun ls hl => ?_)
  refine lv_iconst (v := 0) hx hb dX10_placeOf_2 (by decide) ?_
  refine lv_istore (lv' := [(4, .int 0), (3, .int 0), (0, .ref ob), (1, .int a1), (2, .int a2)]) hx hb dX10_placeOf_3 hl (by decide) rfl (fun ls hl => ?_)
  refine loopX (fun n H locs ls st => ∃ (v_1034 : Int32) (v_1035 : Int32), (600 - v_1034.toInt).toNat = n ∧ ((0 : Int) ≤ v_1034.toInt ∧ v_1034.toInt ≤ 600) ∧ ((0 : Int) ≤ v_1035.toInt ∧ v_1035.toInt ≤ 600) ∧ (∀ L, mB fob_world L → ctI (ofB a1.toInt) L v_1034.toInt v_1035.toInt) ∧ (v_1034.toInt ≤ (fob_world 7).toInt) ∧ (a2.toInt < 0 ∨ v_1035.toInt ≤ a2.toInt) ∧ (v_1035.toInt ≤ v_1034.toInt) ∧ st = [] ∧ vPD G A H [(ce_X10 ob ob_thrown ob_world ob_images ob_hasImage ob_tape ob_taped ob_five ob_size ob_at ob_from ob_token ob_value ob_faultKind ob_faultPlace ob_fresh ob_parts ob_houses ob_houseMany ob_worthOf ob_byCall ob_over ob_bestSet ob_bestOver ob_bestWorth ob_row ob_tenDebts ob_tenMany ob_fewestBy ob_covered ob_queue ob_cameBy ob_parent ob_met ob_calls ob_callMany ob_calledOn ob_saved ob_many ob_width ob_numbers ob_moving), (ce_i9080 y ob_world fob_world)] ∧ va_S A s.heap H locs ∧ lv_has ls 5 [(4, .int v_1034), (3, .int v_1035), (0, .ref ob), (1, .int a1), (2, .int a2)]) ?_ (n := (600 - (0 : Int32).toInt).toNat) ⟨0, 0, rfl, (bw (0) (600) (bkc (x := 0) (c := 0) (by decide)) (by decide)), (bw (0) (600) (bkc (x := 0) (c := 0) (by decide)) (by decide)), (fun L H => ct_0 (by decide) (by decide)), (by have h90 : Int32.toInt 0 = 0 := (by decide); omega), (by have h90 : Int32.toInt 0 = 0 := (by decide); omega), (by have h90 : Int32.toInt 0 = 0 := (by decide); omega), rfl, ⟨hP, hD⟩, hS, lv_sub hl [0, 1, 2, 3, 4] rfl⟩
  rintro n ih_1046 H locs ls st ⟨v_1034, v_1035, hn_1046, bv_1034, bv_1035, rl1035_0, rl1035_1, rl1035_2, rl1035_3, rfl, ⟨hP, hD⟩, hS, hl⟩
  refine lv_iload hx hb dX10_placeOf_5 (lv_at hl 0 rfl) ?_
  refine lv_aload_n hx hb dX10_placeOf_7 rfl (lv_at hl 2 rfl) ?_
  refine va_get (D := G) (ci := 10) (v := .ref ob_world) (C := RX10) (T := TX10) (N := 41) hx hb hw0 inA_wsX100 hown hK.1 hP 0 rfl rfl 1 (by decide) (hw0 _ m_352) (fun _ h9 => h9) rfl dX10_placeOf_8 ?_
  refine lv_bipush (v := 7) hx hb dX10_placeOf_11 (by decide) ?_
  refine va_iald hx hb hK.1 hP 1 1 rfl rfl (vi (bkc (x := 7) (c := 7) (by decide)) (by decide)) dX10_placeOf_13 ?_
  refine lv_topi (fun v_1047 ev_1047 => ?_)
  have bv_1047 : (0 : Int) ≤ v_1047.toInt ∧ v_1047.toInt ≤ 600 := rdk ev_1047 (p_fob_world).1.1 (by decide)
  have yv_1047 : v_1047.toInt = (fob_world 7).toInt := congrArg Int32.toInt ev_1047
  refine lv_icmp_ge (tgt := 48) hx hb dX10_placeOf_14 (by decide) (fun c_1048 => ?_) (fun c_1048 => ?_)
  · skip
    have nc_1048 := nb_le (600) (0) c_1048 bv_1047 bv_1034 (by decide)
    refine lv_iconst (v := (-1)) hx hb dX10_placeOf_48 (by decide) ?_
    exact W.iret (v := (-1)) hx hb hr (fun t ht hW => ⟨⟨(-1), _, rfl, ⟨(-1), (bw (-1) (599) (bkc (x := (-1)) (c := -1) (by decide)) (by decide)), (by have lm1 : Int32.toInt (-1) = -1 := (by decide); have l91 : Int32.toInt 1 = 1 := (by decide); have l92 : Int32.toInt 2 = 2 := (by decide); have l93 : Int32.toInt 3 = 3 := (by decide); have h90 : Int32.toInt (-1) = -1 := (by decide); intro L H; have h8 := ct_e (rl1035_0 L H) (by have h9 := H.1; omega); exact Or.inl ⟨by omega, by omega⟩), by have h90 : Int32.toInt (-1) = -1 := (by decide); omega, rfl, rfl⟩, by rw [ht]; exact hP, hD⟩, hS.F ht⟩) hS.2.2 dX10_placeOf_49
  · skip
    have nc_1048 := nb_nle (599) (1) c_1048 bv_1034 bv_1047 (by decide)
    refine lv_aload_n hx hb dX10_placeOf_17 rfl (lv_at hl 2 rfl) ?_
    refine lv_iload hx hb dX10_placeOf_18 (lv_at hl 0 rfl) ?_
    refine lv_iconst (v := 0) hx hb dX10_placeOf_20 (by decide) ?_
    refine cVim (As := [.int v_1034, .int 0]) (rest := []) ⟨hx, hb, hml, hown, hw0⟩ hA hK hP hD hS [true, true] (gofDebt0 l G y _ ob v_1034 ob_thrown ob_world ob_images ob_hasImage ob_tape ob_taped ob_five ob_size ob_at ob_from ob_token ob_value ob_faultKind ob_faultPlace ob_fresh ob_parts ob_houses ob_houseMany ob_worthOf ob_byCall ob_over ob_bestSet ob_bestOver ob_bestWorth ob_row ob_tenDebts ob_tenMany ob_fewestBy ob_covered ob_queue ob_cameBy ob_parent ob_met ob_calls ob_callMany ob_calledOn ob_saved ob_many ob_width ob_numbers ob_moving fob_world p_fob_world p_ob_taped p_ob_size p_ob_at p_ob_from p_ob_token p_ob_value p_ob_faultKind p_ob_houseMany p_ob_bestSet p_ob_bestOver p_ob_tenMany p_ob_callMany (bw (0) (959) nc_1048.1 (by decide))) rfl ⟨(callB_of 2 hw0 (gA m_576) rfl rfl rfl (hw0 _ m_41) (hw0 _ m_402) cb_X10_ofDebt ⟨Nat.le_of_ble_eq_true rfl, Nat.le_of_ble_eq_true rfl⟩), (hw0 _ m_403), (hw0 _ m_404)⟩ (ci := 10) (q := (RX10, TX10, 41)) rfl rfl rfl hl.1 (Nat.le_of_ble_eq_true rfl) dX10_placeOf_21 ⟨Nat.le_of_ble_eq_true rfl, Nat.le_of_ble_eq_true rfl⟩ (fun r_1049 w_1049 H locs hw_1049 hP hD hS => ?_)
    obtain ⟨v_1050, bv_1050, h_1051, er_1049, rfl⟩ := hw_1049
    subst r_1049
    obtain ⟨hP, hD⟩ : vPD G A H [(ce_X10 ob ob_thrown ob_world ob_images ob_hasImage ob_tape ob_taped ob_five ob_size ob_at ob_from ob_token ob_value ob_faultKind ob_faultPlace ob_fresh ob_parts ob_houses ob_houseMany ob_worthOf ob_byCall ob_over ob_bestSet ob_bestOver ob_bestWorth ob_row ob_tenDebts ob_tenMany ob_fewestBy ob_covered ob_queue ob_cameBy ob_parent ob_met ob_calls ob_callMany ob_calledOn ob_saved ob_many ob_width ob_numbers ob_moving), (ce_i9080 y ob_world fob_world)] := ⟨hP, hD⟩
    refine lv_iload_n hx hb dX10_placeOf_24 rfl (lv_at hl 3 rfl) ?_
    refine lv_icmp_eq (tgt := 31) hx hb dX10_placeOf_25 (by decide) (fun c_1052 => ?_) (fun c_1052 => ?_)
    · skip
      have nc_1052 := nb_eq (0) (15) c_1052 bv_1050 (btop a1) (by decide)
      refine lv_iload_n hx hb dX10_placeOf_31 rfl (lv_at hl 1 rfl) ?_
      refine lv_iload_n hx hb dX10_placeOf_32 rfl (lv_at hl 4 rfl) ?_
      refine lv_icmp_ne (tgt := 39) hx hb dX10_placeOf_33 (by decide) (fun c_1053 => ?_) (fun c_1053 => ?_)
      · skip
        have nc_1053 : v_1035.toInt ≠ a2.toInt := fun h9 => c_1053 (Int32.toInt_inj.mp h9)
        have h_1054 : (0 : Int) ≤ v_1035.toInt ∧ v_1035.toInt ≤ 599 := by omega
        obtain ⟨v_1055, ev_1055⟩ : ∃ z : Int32, z = v_1035 + 1 := ⟨_, rfl⟩
        have qv_1055 := ba_add ev_1055 h_1054 (bkc (x := 1) (c := 1) (by decide)) (by decide)
        have bv_1055 : (1 : Int) ≤ v_1055.toInt ∧ v_1055.toInt ≤ 600 := bq_add qv_1055 h_1054 (bkc (x := 1) (c := 1) (by decide)) _ _ (by decide)
        have qv_1055 : v_1055.toInt = v_1035.toInt + (1) := qv_1055
        refine lv_iinc (v := v_1055) (lv' := [(3, .int v_1055), (4, .int v_1034), (0, .ref ob), (1, .int a1), (2, .int a2)]) hx hb dX10_placeOf_39 hl (k := 1) rfl (ev_1055.symm) (by decide) rfl (fun ls hl => ?_)
        obtain ⟨v_1056, ev_1056⟩ : ∃ z : Int32, z = v_1034 + 1 := ⟨_, rfl⟩
        have qv_1056 := ba_add ev_1056 nc_1048.1 (bkc (x := 1) (c := 1) (by decide)) (by decide)
        have bv_1056 : (1 : Int) ≤ v_1056.toInt ∧ v_1056.toInt ≤ 600 := bq_add qv_1056 nc_1048.1 (bkc (x := 1) (c := 1) (by decide)) _ _ (by decide)
        have qv_1056 : v_1056.toInt = v_1034.toInt + (1) := qv_1056
        refine lv_iinc (v := v_1056) (lv' := [(4, .int v_1056), (3, .int v_1055), (0, .ref ob), (1, .int a1), (2, .int a2)]) hx hb dX10_placeOf_42 hl (k := 1) rfl (ev_1056.symm) (by decide) rfl (fun ls hl => ?_)
        refine lv_goto (tgt := 5) hx hb dX10_placeOf_45 (by decide) ?_
        exact ih_1046 _ (ml_inc (hi := 600) hn_1046 qv_1056 (by decide) ((bw (0) (600) bv_1056 (by decide))).2) _ _ _ _ ⟨v_1056, v_1055, rfl, (bw (0) (600) bv_1056 (by decide)), (bw (0) (600) bv_1055 (by decide)), (fun L H => ct_y (rl1035_0 L H) H.2 (by have h9 := H.1; omega) (fun d hd => of_t (by have h9 : (fob_world (1880 + 5 * v_1034.toInt.toNat)).toInt = d.1 := hd.1; omega)) (by omega) (by omega)), (by omega), (by omega), (by omega), rfl, ⟨hP, hD⟩, hS, lv_sub hl [0, 1, 2, 3, 4] rfl⟩
      · skip
        have nc_1053 := nb_eq (0) (600) c_1053 bv_1035 (btop a2) (by decide)
        refine lv_iload hx hb dX10_placeOf_36 (lv_at hl 0 rfl) ?_
        exact W.iret (v := v_1034) hx hb hr (fun t ht hW => ⟨⟨v_1034, _, rfl, ⟨v_1034, (bw (-1) (599) nc_1048.1 (by decide)), (by have lm1 : Int32.toInt (-1) = -1 := (by decide); have l91 : Int32.toInt 1 = 1 := (by decide); have l92 : Int32.toInt 2 = 2 := (by decide); have l93 : Int32.toInt 3 = 3 := (by decide); intro L H; exact pl_h (ct_c (rl1035_0 L H) rfl (by omega)) H (by have h9 := H.1; omega) (by omega)), by omega, rfl, rfl⟩, by rw [ht]; exact hP, hD⟩, hS.F ht⟩) hS.2.2 dX10_placeOf_38
    · skip
      have nc_1052 : v_1050.toInt ≠ a1.toInt := fun h9 => c_1052 (Int32.toInt_inj.mp h9)
      refine lv_goto (tgt := 42) hx hb dX10_placeOf_28 (by decide) ?_
      obtain ⟨v_1057, ev_1057⟩ : ∃ z : Int32, z = v_1034 + 1 := ⟨_, rfl⟩
      have qv_1057 := ba_add ev_1057 nc_1048.1 (bkc (x := 1) (c := 1) (by decide)) (by decide)
      have bv_1057 : (1 : Int) ≤ v_1057.toInt ∧ v_1057.toInt ≤ 600 := bq_add qv_1057 nc_1048.1 (bkc (x := 1) (c := 1) (by decide)) _ _ (by decide)
      have qv_1057 : v_1057.toInt = v_1034.toInt + (1) := qv_1057
      refine lv_iinc (v := v_1057) (lv' := [(4, .int v_1057), (3, .int v_1035), (0, .ref ob), (1, .int a1), (2, .int a2)]) hx hb dX10_placeOf_42 hl (k := 0) rfl (ev_1057.symm) (by decide) rfl (fun ls hl => ?_)
      refine lv_goto (tgt := 5) hx hb dX10_placeOf_45 (by decide) ?_
      exact ih_1046 _ (ml_inc (hi := 600) hn_1046 qv_1057 (by decide) ((bw (0) (600) bv_1057 (by decide))).2) _ _ _ _ ⟨v_1057, v_1035, rfl, (bw (0) (600) bv_1057 (by decide)), bv_1035, (fun L H => ct_n (rl1035_0 L H) H.2 (by have h9 := H.1; omega) (fun d hd => of_f (by have h9 : (fob_world (1880 + 5 * v_1034.toInt.toNat)).toInt = d.1 := hd.1; omega)) (by omega) (by omega)), (by omega), (by omega), (by omega), rfl, ⟨hP, hD⟩, hS, lv_sub hl [0, 1, 2, 3, 4] rfl⟩
