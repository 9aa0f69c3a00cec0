set_option maxHeartbeats 4000000 in
set_option maxRecDepth 100000 in
theorem hpartOf (l : Launch) (G : va_G) (y : Nat → ClassId) (sz : Nat) (ob : Nat) (a1 : Int32) (ob_thrown : Int32) (ob_world : Nat) (ob_images : Nat) (ob_hasImage : Nat) (ob_tape : Nat) (ob_taped : Int32) (ob_five : Nat) (ob_size : Int32) (ob_at : Int32) (ob_from : Int32) (ob_token : Int32) (ob_value : Int32) (ob_faultKind : Int32) (ob_faultPlace : Int32) (ob_fresh : Nat) (ob_parts : Nat) (ob_houses : Nat) (ob_houseMany : Int32) (ob_worthOf : Nat) (ob_byCall : Nat) (ob_over : Nat) (ob_bestSet : Int32) (ob_bestOver : Int32) (ob_bestWorth : Int32) (ob_row : Nat) (ob_tenDebts : Nat) (ob_tenMany : Int32) (ob_fewestBy : Nat) (ob_covered : Nat) (ob_queue : Nat) (ob_cameBy : Nat) (ob_parent : Nat) (ob_met : Nat) (ob_calls : Nat) (ob_callMany : Int32) (ob_calledOn : Nat) (ob_saved : Nat) (ob_many : Nat) (ob_width : Nat) (ob_numbers : Nat) (ob_moving : Nat) (fob_world : Nat → Int32) (fob_parts : Nat → Int32) (p_fob_world : RWw fob_world) (p_ob_taped : (0 : Int) ≤ ob_taped.toInt ∧ ob_taped.toInt ≤ 1400) (p_ob_size : (0 : Int) ≤ ob_size.toInt ∧ ob_size.toInt ≤ 1400) (p_ob_at : (0 : Int) ≤ ob_at.toInt ∧ ob_at.toInt ≤ 1400) (p_ob_from : (0 : Int) ≤ ob_from.toInt ∧ ob_from.toInt ≤ 1400) (p_ob_token : (0 : Int) ≤ ob_token.toInt ∧ ob_token.toInt ≤ 4) (p_ob_value : (0 : Int) ≤ ob_value.toInt ∧ ob_value.toInt ≤ 9999) (p_ob_faultKind : (0 : Int) ≤ ob_faultKind.toInt ∧ ob_faultKind.toInt ≤ 3) (p_ob_houseMany : (0 : Int) ≤ ob_houseMany.toInt ∧ ob_houseMany.toInt ≤ 10) (p_ob_bestSet : (0 : Int) ≤ ob_bestSet.toInt ∧ ob_bestSet.toInt ≤ 1023) (p_ob_bestOver : (-1 : Int) ≤ ob_bestOver.toInt ∧ ob_bestOver.toInt ≤ 180) (p_ob_tenMany : (0 : Int) ≤ ob_tenMany.toInt ∧ ob_tenMany.toInt ≤ 10) (p_ob_callMany : (0 : Int) ≤ ob_callMany.toInt ∧ ob_callMany.toInt ≤ 16) (p_a1 : (0 : Int) ≤ a1.toInt ∧ a1.toInt ≤ 349) : Met l yX10_partOf (Cond.code yX10_partOf cX10_partOf 3 (some .long) :: wAll) ({ frames := 0, cells := 0, slots := 0, locals := 0 }) (va_Pc [.ref ob, .int a1] (kp G y sz [(ce_X10 ob ob_thrown ob_world ob_images ob_hasImage ob_tape ob_taped ob_five ob_size ob_at ob_from ob_token ob_value ob_faultKind ob_faultPlace ob_fresh ob_parts ob_houses ob_houseMany ob_worthOf ob_byCall ob_over ob_bestSet ob_bestOver ob_bestWorth ob_row ob_tenDebts ob_tenMany ob_fewestBy ob_covered ob_queue ob_cameBy ob_parent ob_met ob_calls ob_callMany ob_calledOn ob_saved ob_many ob_width ob_numbers ob_moving), (ce_i9080 y ob_world fob_world), (ce_i6 y ob_parts fob_parts)])) (va_Ql (fun (r : Int64) (w : va_W) => (∃ (v_25 : Int64), ((v_25 : Int64).toInt = rvp fob_world (fun q : Nat => (fob_parts q).toInt) a1.toInt.toNat) ∧ (-2147483648 ≤ (v_25 : Int64).toInt ∧ (v_25 : Int64).toInt ≤ 2147483647) ∧ r = v_25 ∧ w = [(ce_X10 ob ob_thrown ob_world ob_images ob_hasImage ob_tape ob_taped ob_five ob_size ob_at ob_from ob_token ob_value ob_faultKind ob_faultPlace ob_fresh ob_parts ob_houses ob_houseMany ob_worthOf ob_byCall ob_over ob_bestSet ob_bestOver ob_bestWorth ob_row ob_tenDebts ob_tenMany ob_fewestBy ob_covered ob_queue ob_cameBy ob_parent ob_met ob_calls ob_callMany ob_calledOn ob_saved ob_many ob_width ob_numbers ob_moving), (ce_i9080 y ob_world fob_world), (ce_i6 y ob_parts fob_parts)])) (kq G (va_A [(ce_X10 ob ob_thrown ob_world ob_images ob_hasImage ob_tape ob_taped ob_five ob_size ob_at ob_from ob_token ob_value ob_faultKind ob_faultPlace ob_fresh ob_parts ob_houses ob_houseMany ob_worthOf ob_byCall ob_over ob_bestSet ob_bestOver ob_bestWorth ob_row ob_tenDebts ob_tenMany ob_fewestBy ob_covered ob_queue ob_cameBy ob_parent ob_met ob_calls ob_callMany ob_calledOn ob_saved ob_many ob_width ob_numbers ob_moving), (ce_i9080 y ob_world fob_world), (ce_i6 y ob_parts fob_parts)] sz)) (va_A [(ce_X10 ob ob_thrown ob_world ob_images ob_hasImage ob_tape ob_taped ob_five ob_size ob_at ob_from ob_token ob_value ob_faultKind ob_faultPlace ob_fresh ob_parts ob_houses ob_houseMany ob_worthOf ob_byCall ob_over ob_bestSet ob_bestOver ob_bestWorth ob_row ob_tenDebts ob_tenMany ob_fewestBy ob_covered ob_queue ob_cameBy ob_parent ob_met ob_calls ob_callMany ob_calledOn ob_saved ob_many ob_width ob_numbers ob_moving), (ce_i9080 y ob_world fob_world), (ce_i6 y ob_parts fob_parts)] sz)) 0 0 (va_A [(ce_X10 ob ob_thrown ob_world ob_images ob_hasImage ob_tape ob_taped ob_five ob_size ob_at ob_from ob_token ob_value ob_faultKind ob_faultPlace ob_fresh ob_parts ob_houses ob_houseMany ob_worthOf ob_byCall ob_over ob_bestSet ob_bestOver ob_bestWorth ob_row ob_tenDebts ob_tenMany ob_fewestBy ob_covered ob_queue ob_cameBy ob_parent ob_met ob_calls ob_callMany ob_calledOn ob_saved ob_many ob_width ob_numbers ob_moving), (ce_i9080 y ob_world fob_world), (ce_i6 y ob_parts fob_parts)] sz) := by
  refine Met.ofW (cc := cX10_partOf) (maxL := 3) (ret := (some .long)) (by decide) rfl ?_
  intro p e s m args below meth c s₁ B hml hv
  obtain ⟨rfl, hsz, hP, hK, hD0⟩ := hv
  have hx := B.exec
  have hb := B.bytes
  have hr := B.returns
  have hw0 : ∀ w ∈ wAll, w.before _ s = true := fun w h => atoms_spec (ws := Cond.code yX10_partOf cX10_partOf 3 (some .long) :: wAll) B.pre w (List.mem_cons_of_mem _ h)
  have hown : s.vm.findClass RX10 = some m.cls := findClass_of_methodNamed B.named
  subst hsz
  have hD := hD0.self (sz := s.heap.size)
  generalize hAe : va_A [(ce_X10 ob ob_thrown ob_world ob_images ob_hasImage ob_tape ob_taped ob_five ob_size ob_at ob_from ob_token ob_value ob_faultKind ob_faultPlace ob_fresh ob_parts ob_houses ob_houseMany ob_worthOf ob_byCall ob_over ob_bestSet ob_bestOver ob_bestWorth ob_row ob_tenDebts ob_tenMany ob_fewestBy ob_covered ob_queue ob_cameBy ob_parent ob_met ob_calls ob_callMany ob_calledOn ob_saved ob_many ob_width ob_numbers ob_moving), (ce_i9080 y ob_world fob_world), (ce_i6 y ob_parts fob_parts)] s.heap.size = A at hD ⊢
  have hA : ∀ q : Nat, s.heap.size ≤ q → A q := fun q h => by rw [← hAe]; exact Or.inr h
  have hS : va_S A s.heap s.heap [] := va_S.rf
  have hP : va_P G vwCl [(ce_X10 ob ob_thrown ob_world ob_images ob_hasImage ob_tape ob_taped ob_five ob_size ob_at ob_from ob_token ob_value ob_faultKind ob_faultPlace ob_fresh ob_parts ob_houses ob_houseMany ob_worthOf ob_byCall ob_over ob_bestSet ob_bestOver ob_bestWorth ob_row ob_tenDebts ob_tenMany ob_fewestBy ob_covered ob_queue ob_cameBy ob_parent ob_met ob_calls ob_callMany ob_calledOn ob_saved ob_many ob_width ob_numbers ob_moving), (ce_i9080 y ob_world fob_world), (ce_i6 y ob_parts fob_parts)] s.heap := hP
  have hl := lv_entry ([.ref ob, .int a1]) (n := 3) (Nat.le_of_ble_eq_true rfl)
  rw [lg_entry_eq]
  generalize (lg_sl ([.ref ob, .int a1]) ++ List.replicate (3 - (lg_sl ([.ref ob, .int a1])).length) Slot.unset).toArray = ls at hl ⊢
  have hl : lv_has ls 3 [(0, .ref ob), (1, .int a1)] := hl
  refine lv_aload_n hx hb dX10_partOf_0 rfl (lv_at hl 0 rfl) ?_
  refine va_get (D := G) (ci := 10) (v := .ref ob_world) (C := RX10) (T := TX10) (N := 41) hx hb hw0 inA_wsX100 hown hK.1 hP 0 rfl rfl 1 (by decide) (hw0 _ m_352) (fun _ h9 => h9) rfl dX10_partOf_1 ?_
  refine lv_sipush (v := 814) hx hb dX10_partOf_4 (by decide) ?_
  refine lv_iconst (v := 3) hx hb dX10_partOf_7 (by decide) ?_
  refine lv_iload_n hx hb dX10_partOf_8 rfl (lv_at hl 1 rfl) ?_
  refine lv_imul hx hb dX10_partOf_9 ?_
  refine lv_topi (fun v_1001 ev_1001 => ?_)
  have qv_1001 := ba_mul 3 (ev_1001.trans (Int32.mul_comm _ _)) p_a1 (by decide) (by decide) (by decide)
  have bv_1001 : (0 : Int) ≤ v_1001.toInt ∧ v_1001.toInt ≤ 1047 := qv_1001.2
  refine lv_iadd hx hb dX10_partOf_10 ?_
  refine lv_topi (fun v_1002 ev_1002 => ?_)
  have qv_1002 := ba_add ev_1002 (bkc (x := 814) (c := 814) (by decide)) bv_1001 (by decide)
  have bv_1002 : (814 : Int) ≤ v_1002.toInt ∧ v_1002.toInt ≤ 1861 := bq_add qv_1002 (bkc (x := 814) (c := 814) (by decide)) bv_1001 _ _ (by decide)
  have qv_1002 : v_1002.toInt = (814) + v_1001.toInt := qv_1002
  refine lv_iconst (v := 1) hx hb dX10_partOf_11 (by decide) ?_
  refine lv_iadd hx hb dX10_partOf_12 ?_
  refine lv_topi (fun v_1003 ev_1003 => ?_)
  have qv_1003 := ba_add ev_1003 bv_1002 (bkc (x := 1) (c := 1) (by decide)) (by decide)
  have bv_1003 : (815 : Int) ≤ v_1003.toInt ∧ v_1003.toInt ≤ 1862 := bq_add qv_1003 bv_1002 (bkc (x := 1) (c := 1) (by decide)) _ _ (by decide)
  have qv_1003 : v_1003.toInt = v_1002.toInt + (1) := qv_1003
  refine va_iald hx hb hK.1 hP 1 1 rfl rfl (vi bv_1003 (by decide)) dX10_partOf_13 ?_
  refine lv_topi (fun v_1004 ev_1004 => ?_)
  have bv_1004 : (0 : Int) ≤ v_1004.toInt ∧ v_1004.toInt ≤ 5 := rdw ev_1004 (p_fob_world).1.1 pl_16 (by omega) (p_a1)
  have wv_1004 : v_1004.toInt = (fob_world (815 + 3 * a1.toInt.toNat)).toInt := by rw [ev_1004, el_at (c := 815) (a := 3) (x := a1) (by omega) (by omega)]
  refine lv_istore_n (lv' := [(2, .int v_1004), (0, .ref ob), (1, .int a1)]) hx hb dX10_partOf_14 rfl hl (by decide) rfl (fun ls hl => ?_)
  refine lv_iload_n hx hb dX10_partOf_15 rfl (lv_at hl 0 rfl) ?_
  refine lv_iconst (v := 5) hx hb dX10_partOf_16 (by decide) ?_
  refine lv_icmp_ne (tgt := 38) hx hb dX10_partOf_17 (by decide) (fun c_1005 => ?_) (fun c_1005 => ?_)
  · skip
    have nc_1005 := nb_ne (0) (4) c_1005 bv_1004 (k := 5) (by decide) (by decide)
    refine lv_aload_n hx hb dX10_partOf_38 rfl (lv_at hl 1 rfl) ?_
    refine va_get (D := G) (ci := 10) (v := .ref ob_parts) (C := RX10) (T := TX10) (N := 41) hx hb hw0 inA_wsX100 hown hK.1 hP 0 rfl rfl 15 (by decide) (hw0 _ m_522) (fun _ h9 => h9) rfl dX10_partOf_39 ?_
    refine lv_iload_n hx hb dX10_partOf_42 rfl (lv_at hl 0 rfl) ?_
    refine va_iald hx hb hK.1 hP 2 1 rfl rfl (vi nc_1005.1 (by decide)) dX10_partOf_43 ?_
    refine lv_topi (fun v_1006 ev_1006 => ?_)
    refine lv_i2l hx hb dX10_partOf_44 rfl ?_
    have kk_1007 : ((v_1006).toInt64).toInt = (v_1006).toInt := Int32.toInt_toInt64 _
    exact W.lret (v := (v_1006).toInt64) hx hb hr (fun t ht hW => ⟨⟨(v_1006).toInt64, _, rfl, ⟨((v_1006).toInt64), (by have lm1 : Int32.toInt (-1) = -1 := (by decide); have l91 : Int32.toInt 1 = 1 := (by decide); have l92 : Int32.toInt 2 = 2 := (by decide); have l93 : Int32.toInt 3 = 3 := (by decide); exact rp_k (by omega) wv_1004 ev_1006 (by omega)), (by have h9 := btop v_1006; rw [Int32.toInt_toInt64]; omega), rfl, rfl⟩, by rw [ht]; exact hP, hD⟩, hS.F ht⟩) hS.2.2 dX10_partOf_45
  · skip
    have nc_1005 := nb_eq (5) (5) c_1005 bv_1004 (bkc (x := 5) (c := 5) (by decide)) (by decide)
    refine lv_aload_n hx hb dX10_partOf_20 rfl (lv_at hl 1 rfl) ?_
    refine va_get (D := G) (ci := 10) (v := .ref ob_world) (C := RX10) (T := TX10) (N := 41) hx hb hw0 inA_wsX100 hown hK.1 hP 0 rfl rfl 1 (by decide) (hw0 _ m_352) (fun _ h9 => h9) rfl dX10_partOf_21 ?_
    refine lv_sipush (v := 814) hx hb dX10_partOf_24 (by decide) ?_
    refine lv_iconst (v := 3) hx hb dX10_partOf_27 (by decide) ?_
    refine lv_iload_n hx hb dX10_partOf_28 rfl (lv_at hl 2 rfl) ?_
    refine lv_imul hx hb dX10_partOf_29 ?_
    refine lv_topi (fun v_1008 ev_1008 => ?_)
    obtain rfl : v_1001 = v_1008 := (ev_1008.trans (ev_1001.symm)).symm
    refine lv_iadd hx hb dX10_partOf_30 ?_
    refine lv_topi (fun v_1009 ev_1009 => ?_)
    obtain rfl : v_1002 = v_1009 := (ev_1009.trans (ev_1002.symm)).symm
    refine lv_iconst (v := 2) hx hb dX10_partOf_31 (by decide) ?_
    refine lv_iadd hx hb dX10_partOf_32 ?_
    refine lv_topi (fun v_1010 ev_1010 => ?_)
    have qv_1010 := ba_add ev_1010 bv_1002 (bkc (x := 2) (c := 2) (by decide)) (by decide)
    have bv_1010 : (816 : Int) ≤ v_1010.toInt ∧ v_1010.toInt ≤ 1863 := bq_add qv_1010 bv_1002 (bkc (x := 2) (c := 2) (by decide)) _ _ (by decide)
    have qv_1010 : v_1010.toInt = v_1002.toInt + (2) := qv_1010
    refine va_iald hx hb hK.1 hP 1 1 rfl rfl (vi bv_1010 (by decide)) dX10_partOf_33 ?_
    refine lv_topi (fun v_1011 ev_1011 => ?_)
    have wv_1011 : v_1011.toInt = (fob_world (816 + 3 * a1.toInt.toNat)).toInt := by rw [ev_1011, el_at (c := 816) (a := 3) (x := a1) (by omega) (by omega)]
    refine lv_i2l hx hb dX10_partOf_34 rfl ?_
    have kk_1012 : ((v_1011).toInt64).toInt = (v_1011).toInt := Int32.toInt_toInt64 _
    refine lv_goto (tgt := 45) hx hb dX10_partOf_35 (by decide) ?_
    exact W.lret (v := (v_1011).toInt64) hx hb hr (fun t ht hW => ⟨⟨(v_1011).toInt64, _, rfl, ⟨((v_1011).toInt64), (by have lm1 : Int32.toInt (-1) = -1 := (by decide); have l91 : Int32.toInt 1 = 1 := (by decide); have l92 : Int32.toInt 2 = 2 := (by decide); have l93 : Int32.toInt 3 = 3 := (by decide); exact rp_n (by omega) wv_1004 wv_1011), (by have h9 := btop v_1011; rw [Int32.toInt_toInt64]; omega), rfl, rfl⟩, by rw [ht]; exact hP, hD⟩, hS.F ht⟩) hS.2.2 dX10_partOf_45

set_option maxHeartbeats 4000000 in
set_option maxRecDepth 100000 in
theorem htestHolds (l : Launch) (G : va_G) (y : Nat → ClassId) (sz : Nat) (ob : Nat) (a1 : Int32) (ob_thrown : Int32) (ob_world : Nat) (ob_images : Nat) (ob_hasImage : Nat) (ob_tape : Nat) (ob_taped : Int32) (ob_five : Nat) (ob_size : Int32) (ob_at : Int32) (ob_from : Int32) (ob_token : Int32) (ob_value : Int32) (ob_faultKind : Int32) (ob_faultPlace : Int32) (ob_fresh : Nat) (ob_parts : Nat) (ob_houses : Nat) (ob_houseMany : Int32) (ob_worthOf : Nat) (ob_byCall : Nat) (ob_over : Nat) (ob_bestSet : Int32) (ob_bestOver : Int32) (ob_bestWorth : Int32) (ob_row : Nat) (ob_tenDebts : Nat) (ob_tenMany : Int32) (ob_fewestBy : Nat) (ob_covered : Nat) (ob_queue : Nat) (ob_cameBy : Nat) (ob_parent : Nat) (ob_met : Nat) (ob_calls : Nat) (ob_callMany : Int32) (ob_calledOn : Nat) (ob_saved : Nat) (ob_many : Nat) (ob_width : Nat) (ob_numbers : Nat) (ob_moving : Nat) (fob_world : Nat → Int32) (fob_parts : Nat → Int32) (p_fob_world : RWw fob_world) (p_ob_taped : (0 : Int) ≤ ob_taped.toInt ∧ ob_taped.toInt ≤ 1400) (p_ob_size : (0 : Int) ≤ ob_size.toInt ∧ ob_size.toInt ≤ 1400) (p_ob_at : (0 : Int) ≤ ob_at.toInt ∧ ob_at.toInt ≤ 1400) (p_ob_from : (0 : Int) ≤ ob_from.toInt ∧ ob_from.toInt ≤ 1400) (p_ob_token : (0 : Int) ≤ ob_token.toInt ∧ ob_token.toInt ≤ 4) (p_ob_value : (0 : Int) ≤ ob_value.toInt ∧ ob_value.toInt ≤ 9999) (p_ob_faultKind : (0 : Int) ≤ ob_faultKind.toInt ∧ ob_faultKind.toInt ≤ 3) (p_ob_houseMany : (0 : Int) ≤ ob_houseMany.toInt ∧ ob_houseMany.toInt ≤ 10) (p_ob_bestSet : (0 : Int) ≤ ob_bestSet.toInt ∧ ob_bestSet.toInt ≤ 1023) (p_ob_bestOver : (-1 : Int) ≤ ob_bestOver.toInt ∧ ob_bestOver.toInt ≤ 180) (p_ob_tenMany : (0 : Int) ≤ ob_tenMany.toInt ∧ ob_tenMany.toInt ≤ 10) (p_ob_callMany : (0 : Int) ≤ ob_callMany.toInt ∧ ob_callMany.toInt ≤ 16) (p_a1 : (0 : Int) ≤ a1.toInt ∧ a1.toInt ≤ 179) (hq0 : a1.toInt < (fob_world 2).toInt) : Met l yX10_testHolds (Cond.code yX10_testHolds cX10_testHolds 11 (some .boolean) :: wAll) ({ frames := 1, cells := 0, slots := 0, locals := 25 }) (va_Pc [.ref ob, .int a1] (kp G y sz [(ce_X10 ob ob_thrown ob_world ob_images ob_hasImage ob_tape ob_taped ob_five ob_size ob_at ob_from ob_token ob_value ob_faultKind ob_faultPlace ob_fresh ob_parts ob_houses ob_houseMany ob_worthOf ob_byCall ob_over ob_bestSet ob_bestOver ob_bestWorth ob_row ob_tenDebts ob_tenMany ob_fewestBy ob_covered ob_queue ob_cameBy ob_parent ob_met ob_calls ob_callMany ob_calledOn ob_saved ob_many ob_width ob_numbers ob_moving), (ce_i9080 y ob_world fob_world), (ce_i6 y ob_parts fob_parts)])) (va_Qi (fun (r : Int32) (w : va_W) => ((¬ thd fob_world (fun q : Nat => (fob_parts q).toInt) a1.toInt.toNat) ∧ r = 0 ∧ w = [(ce_X10 ob ob_thrown ob_world ob_images ob_hasImage ob_tape ob_taped ob_five ob_size ob_at ob_from ob_token ob_value ob_faultKind ob_faultPlace ob_fresh ob_parts ob_houses ob_houseMany ob_worthOf ob_byCall ob_over ob_bestSet ob_bestOver ob_bestWorth ob_row ob_tenDebts ob_tenMany ob_fewestBy ob_covered ob_queue ob_cameBy ob_parent ob_met ob_calls ob_callMany ob_calledOn ob_saved ob_many ob_width ob_numbers ob_moving), (ce_i9080 y ob_world fob_world), (ce_i6 y ob_parts fob_parts)]) ∨ ((thd fob_world (fun q : Nat => (fob_parts q).toInt) a1.toInt.toNat) ∧ r = 1 ∧ w = [(ce_X10 ob ob_thrown ob_world ob_images ob_hasImage ob_tape ob_taped ob_five ob_size ob_at ob_from ob_token ob_value ob_faultKind ob_faultPlace ob_fresh ob_parts ob_houses ob_houseMany ob_worthOf ob_byCall ob_over ob_bestSet ob_bestOver ob_bestWorth ob_row ob_tenDebts ob_tenMany ob_fewestBy ob_covered ob_queue ob_cameBy ob_parent ob_met ob_calls ob_callMany ob_calledOn ob_saved ob_many ob_width ob_numbers ob_moving), (ce_i9080 y ob_world fob_world), (ce_i6 y ob_parts fob_parts)])) (kq G (va_A [(ce_X10 ob ob_thrown ob_world ob_images ob_hasImage ob_tape ob_taped ob_five ob_size ob_at ob_from ob_token ob_value ob_faultKind ob_faultPlace ob_fresh ob_parts ob_houses ob_houseMany ob_worthOf ob_byCall ob_over ob_bestSet ob_bestOver ob_bestWorth ob_row ob_tenDebts ob_tenMany ob_fewestBy ob_covered ob_queue ob_cameBy ob_parent ob_met ob_calls ob_callMany ob_calledOn ob_saved ob_many ob_width ob_numbers ob_moving), (ce_i9080 y ob_world fob_world), (ce_i6 y ob_parts fob_parts)] sz)) (va_A [(ce_X10 ob ob_thrown ob_world ob_images ob_hasImage ob_tape ob_taped ob_five ob_size ob_at ob_from ob_token ob_value ob_faultKind ob_faultPlace ob_fresh ob_parts ob_houses ob_houseMany ob_worthOf ob_byCall ob_over ob_bestSet ob_bestOver ob_bestWorth ob_row ob_tenDebts ob_tenMany ob_fewestBy ob_covered ob_queue ob_cameBy ob_parent ob_met ob_calls ob_callMany ob_calledOn ob_saved ob_many ob_width ob_numbers ob_moving), (ce_i9080 y ob_world fob_world), (ce_i6 y ob_parts fob_parts)] sz)) 0 0 (va_A [(ce_X10 ob ob_thrown ob_world ob_images ob_hasImage ob_tape ob_taped ob_five ob_size ob_at ob_from ob_token ob_value ob_faultKind ob_faultPlace ob_fresh ob_parts ob_houses ob_houseMany ob_worthOf ob_byCall ob_over ob_bestSet ob_bestOver ob_bestWorth ob_row ob_tenDebts ob_tenMany ob_fewestBy ob_covered ob_queue ob_cameBy ob_parent ob_met ob_calls ob_callMany ob_calledOn ob_saved ob_many ob_width ob_numbers ob_moving), (ce_i9080 y ob_world fob_world), (ce_i6 y ob_parts fob_parts)] sz) := by
  refine Met.ofW (cc := cX10_testHolds) (maxL := 11) (ret := (some .boolean)) (by decide) rfl ?_
  intro p e s m args below meth c s₁ B hml hv
  obtain ⟨rfl, hsz, hP, hK, hD0⟩ := hv
  have hx := B.exec
  have hb := B.bytes
  have hr := B.returns
  have hw0 : ∀ w ∈ wAll, w.before _ s = true := fun w h => atoms_spec (ws := Cond.code yX10_testHolds cX10_testHolds 11 (some .boolean) :: wAll) B.pre w (List.mem_cons_of_mem _ h)
  have hown : s.vm.findClass RX10 = some m.cls := findClass_of_methodNamed B.named
  subst hsz
  have hD := hD0.self (sz := s.heap.size)
  generalize hAe : va_A [(ce_X10 ob ob_thrown ob_world ob_images ob_hasImage ob_tape ob_taped ob_five ob_size ob_at ob_from ob_token ob_value ob_faultKind ob_faultPlace ob_fresh ob_parts ob_houses ob_houseMany ob_worthOf ob_byCall ob_over ob_bestSet ob_bestOver ob_bestWorth ob_row ob_tenDebts ob_tenMany ob_fewestBy ob_covered ob_queue ob_cameBy ob_parent ob_met ob_calls ob_callMany ob_calledOn ob_saved ob_many ob_width ob_numbers ob_moving), (ce_i9080 y ob_world fob_world), (ce_i6 y ob_parts fob_parts)] s.heap.size = A at hD ⊢
  have hA : ∀ q : Nat, s.heap.size ≤ q → A q := fun q h => by rw [← hAe]; exact Or.inr h
  have hS : va_S A s.heap s.heap [] := va_S.rf
  have hP : va_P G vwCl [(ce_X10 ob ob_thrown ob_world ob_images ob_hasImage ob_tape ob_taped ob_five ob_size ob_at ob_from ob_token ob_value ob_faultKind ob_faultPlace ob_fresh ob_parts ob_houses ob_houseMany ob_worthOf ob_byCall ob_over ob_bestSet ob_bestOver ob_bestWorth ob_row ob_tenDebts ob_tenMany ob_fewestBy ob_covered ob_queue ob_cameBy ob_parent ob_met ob_calls ob_callMany ob_calledOn ob_saved ob_many ob_width ob_numbers ob_moving), (ce_i9080 y ob_world fob_world), (ce_i6 y ob_parts fob_parts)] s.heap := hP
  have hl := lv_entry ([.ref ob, .int a1]) (n := 11) (Nat.le_of_ble_eq_true rfl)
  rw [lg_entry_eq]
  generalize (lg_sl ([.ref ob, .int a1]) ++ List.replicate (11 - (lg_sl ([.ref ob, .int a1])).length) Slot.unset).toArray = ls at hl ⊢
  have hl : lv_has ls 11 [(0, .ref ob), (1, .int a1)] := hl
  refine lv_aload_n hx hb dX10_testHolds_0 rfl (lv_at hl 0 rfl) ?_
  refine va_get (D := G) (ci := 10) (v := .ref ob_world) (C := RX10) (T := TX10) (N := 41) hx hb hw0 inA_wsX100 hown hK.1 hP 0 rfl rfl 1 (by decide) (hw0 _ m_352) (fun _ h9 => h9) rfl dX10_testHolds_1 ?_
  refine lv_sipush (v := 274) hx hb dX10_testHolds_4 (by decide) ?_
  refine lv_iconst (v := 3) hx hb dX10_testHolds_7 (by decide) ?_
  refine lv_iload_n hx hb dX10_testHolds_8 rfl (lv_at hl 1 rfl) ?_
  refine lv_imul hx hb dX10_testHolds_9 ?_
  refine lv_topi (fun v_1001 ev_1001 => ?_)
  have qv_1001 := ba_mul 3 (ev_1001.trans (Int32.mul_comm _ _)) p_a1 (by decide) (by decide) (by decide)
  have bv_1001 : (0 : Int) ≤ v_1001.toInt ∧ v_1001.toInt ≤ 537 := qv_1001.2
  refine lv_iadd hx hb dX10_testHolds_10 ?_
  refine lv_topi (fun v_1002 ev_1002 => ?_)
  have qv_1002 := ba_add ev_1002 (bkc (x := 274) (c := 274) (by decide)) bv_1001 (by decide)
  have bv_1002 : (274 : Int) ≤ v_1002.toInt ∧ v_1002.toInt ≤ 811 := bq_add qv_1002 (bkc (x := 274) (c := 274) (by decide)) bv_1001 _ _ (by decide)
  have qv_1002 : v_1002.toInt = (274) + v_1001.toInt := qv_1002
  refine lv_iconst (v := 1) hx hb dX10_testHolds_11 (by decide) ?_
  refine lv_iadd hx hb dX10_testHolds_12 ?_
  refine lv_topi (fun v_1003 ev_1003 => ?_)
  have qv_1003 := ba_add ev_1003 bv_1002 (bkc (x := 1) (c := 1) (by decide)) (by decide)
  have bv_1003 : (275 : Int) ≤ v_1003.toInt ∧ v_1003.toInt ≤ 812 := bq_add qv_1003 bv_1002 (bkc (x := 1) (c := 1) (by decide)) _ _ (by decide)
  have qv_1003 : v_1003.toInt = v_1002.toInt + (1) := qv_1003
  refine va_iald hx hb hK.1 hP 1 1 rfl rfl (vi bv_1003 (by decide)) dX10_testHolds_13 ?_
  refine lv_topi (fun v_1004 ev_1004 => ?_)
  have bv_1004 : (0 : Int) ≤ v_1004.toInt ∧ v_1004.toInt ≤ 350 := rdw ev_1004 (p_fob_world).1.1 pl_17 (by omega) (p_a1)
  have wv_1004 : v_1004.toInt = (fob_world (275 + 3 * a1.toInt.toNat)).toInt := by rw [ev_1004, el_at (c := 275) (a := 3) (x := a1) (by omega) (by omega)]
  refine lv_istore_n (lv' := [(2, .int v_1004), (0, .ref ob), (1, .int a1)]) hx hb dX10_testHolds_14 rfl hl (by decide) rfl (fun ls hl => ?_)
  refine lv_iload_n hx hb dX10_testHolds_15 rfl (lv_at hl 0 rfl) ?_
  refine lv_aload_n hx hb dX10_testHolds_16 rfl (lv_at hl 1 rfl) ?_
  refine va_get (D := G) (ci := 10) (v := .ref ob_world) (C := RX10) (T := TX10) (N := 41) hx hb hw0 inA_wsX100 hown hK.1 hP 0 rfl rfl 1 (by decide) (hw0 _ m_352) (fun _ h9 => h9) rfl dX10_testHolds_17 ?_
  refine lv_sipush (v := 274) hx hb dX10_testHolds_20 (by decide) ?_
  refine lv_iconst (v := 3) hx hb dX10_testHolds_23 (by decide) ?_
  refine lv_iload_n hx hb dX10_testHolds_24 rfl (lv_at hl 2 rfl) ?_
  refine lv_imul hx hb dX10_testHolds_25 ?_
  refine lv_topi (fun v_1005 ev_1005 => ?_)
  obtain rfl : v_1001 = v_1005 := (ev_1005.trans (ev_1001.symm)).symm
  refine lv_iadd hx hb dX10_testHolds_26 ?_
  refine lv_topi (fun v_1006 ev_1006 => ?_)
  obtain rfl : v_1002 = v_1006 := (ev_1006.trans (ev_1002.symm)).symm
  refine lv_iconst (v := 2) hx hb dX10_testHolds_27 (by decide) ?_
  refine lv_iadd hx hb dX10_testHolds_28 ?_
  refine lv_topi (fun v_1007 ev_1007 => ?_)
  have qv_1007 := ba_add ev_1007 bv_1002 (bkc (x := 2) (c := 2) (by decide)) (by decide)
  have bv_1007 : (276 : Int) ≤ v_1007.toInt ∧ v_1007.toInt ≤ 813 := bq_add qv_1007 bv_1002 (bkc (x := 2) (c := 2) (by decide)) _ _ (by decide)
  have qv_1007 : v_1007.toInt = v_1002.toInt + (2) := qv_1007
  refine va_iald hx hb hK.1 hP 1 1 rfl rfl (vi bv_1007 (by decide)) dX10_testHolds_29 ?_
  refine lv_topi (fun v_1008 ev_1008 => ?_)
  have bv_1008 : (0 : Int) ≤ v_1008.toInt ∧ v_1008.toInt ≤ 350 := rdw ev_1008 (p_fob_world).1.1 pl_18 (by omega) (p_a1)
  have wv_1008 : v_1008.toInt = (fob_world (276 + 3 * a1.toInt.toNat)).toInt := by rw [ev_1008, el_at (c := 276) (a := 3) (x := a1) (by omega) (by omega)]
  refine lv_iadd hx hb dX10_testHolds_30 ?_
  refine lv_topi (fun v_1009 ev_1009 => ?_)
  have qv_1009 := ba_add ev_1009 bv_1004 bv_1008 (by decide)
  have bv_1009 : (0 : Int) ≤ v_1009.toInt ∧ v_1009.toInt ≤ 700 := bq_add qv_1009 bv_1004 bv_1008 _ _ (by decide)
  have h_1010 : (0 : Int) ≤ v_1009.toInt ∧ v_1009.toInt ≤ 350 := by have h9 := (p_fob_world).2.2 a1.toInt.toNat (by omega); have h8 := RB_3 (p_fob_world).1.1; omega
  refine lv_istore_n (lv' := [(3, .int v_1009), (2, .int v_1004), (0, .ref ob), (1, .int a1)]) hx hb dX10_testHolds_31 rfl hl (by decide) rfl (fun ls hl => ?_)
  refine lv_lconst (v := 0) hx hb dX10_testHolds_32 (by decide) ?_
  refine lv_lstore (lv' := [(4, .long 0), (3, .int v_1009), (2, .int v_1004), (0, .ref ob), (1, .int a1)]) hx hb dX10_testHolds_33 hl (by decide) rfl (fun ls hl => ?_)
  refine lv_lconst (v := 0) hx hb dX10_testHolds_35 (by decide) ?_
  refine lv_lstore (lv' := [(6, .long 0), (4, .long 0), (3, .int v_1009), (2, .int v_1004), (0, .ref ob), (1, .int a1)]) hx hb dX10_testHolds_36 hl (by decide) rfl (fun ls hl => ?_)
  refine loopX (fun n H locs ls st => ∃ (v_2343 : Int64) (v_2344 : Int64) (v_2345 : Int32), (350 - v_2345.toInt).toNat = n ∧ ((0 : Int) ≤ v_2345.toInt ∧ v_2345.toInt ≤ 350) ∧ (trO fob_world (fun q : Nat => (fob_parts q).toInt) (v_1009.toInt - v_2345.toInt).toNat v_2345.toInt.toNat v_2344.toInt v_2343.toInt = (trO fob_world (fun q : Nat => (fob_parts q).toInt) (fob_world (276 + 3 * a1.toInt.toNat)).toInt.toNat (fob_world (275 + 3 * a1.toInt.toNat)).toInt.toNat 0 0)) ∧ (-1000000000 ≤ v_2344.toInt ∧ v_2344.toInt ≤ 1000000000) ∧ (-1000000000 ≤ v_2343.toInt ∧ v_2343.toInt ≤ 1000000000) ∧ st = [] ∧ vPD G A H [(ce_X10 ob ob_thrown ob_world ob_images ob_hasImage ob_tape ob_taped ob_five ob_size ob_at ob_from ob_token ob_value ob_faultKind ob_faultPlace ob_fresh ob_parts ob_houses ob_houseMany ob_worthOf ob_byCall ob_over ob_bestSet ob_bestOver ob_bestWorth ob_row ob_tenDebts ob_tenMany ob_fewestBy ob_covered ob_queue ob_cameBy ob_parent ob_met ob_calls ob_callMany ob_calledOn ob_saved ob_many ob_width ob_numbers ob_moving), (ce_i9080 y ob_world fob_world), (ce_i6 y ob_parts fob_parts)] ∧ va_S A s.heap H locs ∧ lv_has ls 11 [(6, .long v_2343), (4, .long v_2344), (3, .int v_1009), (2, .int v_2345), (0, .ref ob), (1, .int a1)]) ?_ (n := (350 - v_1004.toInt).toNat) ⟨0, 0, v_1004, rfl, bv_1004, (by have lm1 : Int32.toInt (-1) = -1 := (by decide); have l91 : Int32.toInt 1 = 1 := (by decide); have l92 : Int32.toInt 2 = 2 := (by decide); have l93 : Int32.toInt 3 = 3 := (by decide); have h80 : Int64.toInt 0 = 0 := (by decide); have z0 : Int64.toInt 0 = 0 := (by decide); exact to_0 wv_1004 (by omega) wv_1008 z0 z0), (by have lm1 : Int32.toInt (-1) = -1 := (by decide); have l91 : Int32.toInt 1 = 1 := (by decide); have l92 : Int32.toInt 2 = 2 := (by decide); have l93 : Int32.toInt 3 = 3 := (by decide); have h80 : Int64.toInt 0 = 0 := (by decide); have z0 : Int64.toInt 0 = 0 := (by decide); omega), (by have lm1 : Int32.toInt (-1) = -1 := (by decide); have l91 : Int32.toInt 1 = 1 := (by decide); have l92 : Int32.toInt 2 = 2 := (by decide); have l93 : Int32.toInt 3 = 3 := (by decide); have h80 : Int64.toInt 0 = 0 := (by decide); have z0 : Int64.toInt 0 = 0 := (by decide); omega), rfl, ⟨hP, hD⟩, hS, lv_sub hl [0, 1, 2, 3, 4, 5] rfl⟩
  rintro n ih_2676 H locs ls st ⟨v_2343, v_2344, v_2345, hn_2676, bv_2345, rl2345_0, rl2345_1, rl2345_2, rfl, ⟨hP, hD⟩, hS, hl⟩
  refine lv_iload_n hx hb dX10_testHolds_38 rfl (lv_at hl 3 rfl) ?_
  refine lv_iload_n hx hb dX10_testHolds_39 rfl (lv_at hl 2 rfl) ?_
  refine lv_icmp_ge (tgt := 173) hx hb dX10_testHolds_40 (by decide) (fun c_2677 => ?_) (fun c_2677 => ?_)
  · skip
    have nc_2677 := nb_le (350) (0) c_2677 h_1010 bv_2345 (by decide)
    refine lv_aload_n hx hb dX10_testHolds_173 rfl (lv_at hl 4 rfl) ?_
    refine va_get (D := G) (ci := 10) (v := .ref ob_world) (C := RX10) (T := TX10) (N := 41) hx hb hw0 inA_wsX100 hown hK.1 hP 0 rfl rfl 1 (by decide) (hw0 _ m_352) (fun _ h9 => h9) rfl dX10_testHolds_174 ?_
    refine lv_sipush (v := 274) hx hb dX10_testHolds_177 (by decide) ?_
    refine lv_iconst (v := 3) hx hb dX10_testHolds_180 (by decide) ?_
    refine lv_iload_n hx hb dX10_testHolds_181 rfl (lv_at hl 5 rfl) ?_
    refine lv_imul hx hb dX10_testHolds_182 ?_
    refine lv_topi (fun v_2678 ev_2678 => ?_)
    obtain rfl : v_1001 = v_2678 := (ev_2678.trans (ev_1001.symm)).symm
    refine lv_iadd hx hb dX10_testHolds_183 ?_
    refine lv_topi (fun v_2679 ev_2679 => ?_)
    obtain rfl : v_1002 = v_2679 := (ev_2679.trans (ev_1002.symm)).symm
    refine va_iald hx hb hK.1 hP 1 1 rfl rfl (vi bv_1002 (by decide)) dX10_testHolds_184 ?_
    refine lv_topi (fun v_2680 ev_2680 => ?_)
    have wv_2680 : v_2680.toInt = (fob_world (274 + 3 * a1.toInt.toNat)).toInt := by rw [ev_2680, el_at (c := 274) (a := 3) (x := a1) (by omega) (by omega)]
    refine lv_istore (lv' := [(8, .int v_2680), (6, .long v_2343), (4, .long v_2344), (3, .int v_1009), (2, .int v_2345), (0, .ref ob), (1, .int a1)]) hx hb dX10_testHolds_185 hl (by decide) rfl (fun ls hl => ?_)
    refine lv_iload hx hb dX10_testHolds_187 (lv_at hl 0 rfl) ?_
    refine lv_if_ne (tgt := 208) hx hb dX10_testHolds_189 (by decide) (fun c_2681 => ?_) (fun c_2681 => ?_)
    · skip
      have nc_2681 := nb_ne (-2147483648) (2147483647) c_2681 (btop v_2680) (k := 0) (by decide) (by decide)
      refine lv_iload hx hb dX10_testHolds_208 (lv_at hl 0 rfl) ?_
      refine lv_iconst (v := 1) hx hb dX10_testHolds_210 (by decide) ?_
      refine lv_icmp_ne (tgt := 230) hx hb dX10_testHolds_211 (by decide) (fun c_2682 => ?_) (fun c_2682 => ?_)
      · skip
        have nc_2682 := nb_ne (-2147483648) (2147483647) c_2682 nc_2681.1 (k := 1) (by decide) (by decide)
        refine lv_lload hx hb dX10_testHolds_230 (lv_at hl 2 rfl) ?_
        refine lv_lload hx hb dX10_testHolds_232 (lv_at hl 1 rfl) ?_
        refine W.lcmp hx hb dX10_testHolds_234 ?_
        refine lv_if_ne (tgt := 242) hx hb dX10_testHolds_235 (by decide) (fun c_2683 => ?_) (fun c_2683 => ?_)
        · skip
          have nc_2683 := jl_neq c_2683
          refine lv_iconst (v := 0) hx hb dX10_testHolds_242 (by decide) ?_
          exact W.zret (v := 0) hx hb hr rfl (fun t ht hW => ⟨⟨0, _, rfl, Or.inl (⟨(by have lm1 : Int32.toInt (-1) = -1 := (by decide); have l91 : Int32.toInt 1 = 1 := (by decide); have l92 : Int32.toInt 2 = 2 := (by decide); have l93 : Int32.toInt 3 = 3 := (by decide); have h90 : Int32.toInt 0 = 0 := (by decide); exact fun h => scp_n (by omega) ((td_e rl2345_0 (by omega)).mp h)), rfl, rfl⟩), by rw [ht]; exact hP, hD⟩, hS.F ht⟩) hS.2.2 dX10_testHolds_243
        · skip
          have nc_2683 := jl_eq c_2683
          refine lv_iconst (v := 1) hx hb dX10_testHolds_238 (by decide) ?_
          refine lv_goto (tgt := 243) hx hb dX10_testHolds_239 (by decide) ?_
          exact W.zret (v := 1) hx hb hr rfl (fun t ht hW => ⟨⟨1, _, rfl, Or.inr (⟨(by have lm1 : Int32.toInt (-1) = -1 := (by decide); have l91 : Int32.toInt 1 = 1 := (by decide); have l92 : Int32.toInt 2 = 2 := (by decide); have l93 : Int32.toInt 3 = 3 := (by decide); have h90 : Int32.toInt 1 = 1 := (by decide); exact (td_e rl2345_0 (by omega)).mpr (scp_y (by omega))), rfl, rfl⟩), by rw [ht]; exact hP, hD⟩, hS.F ht⟩) hS.2.2 dX10_testHolds_243
      · skip
        have nc_2682 := nb_eq (1) (1) c_2682 nc_2681.1 (bkc (x := 1) (c := 1) (by decide)) (by decide)
        refine lv_lload hx hb dX10_testHolds_214 (lv_at hl 2 rfl) ?_
        refine lv_lload hx hb dX10_testHolds_216 (lv_at hl 1 rfl) ?_
        refine W.lcmp hx hb dX10_testHolds_218 ?_
        refine lv_if_ge (tgt := 226) hx hb dX10_testHolds_219 (by decide) (fun c_2684 => ?_) (fun c_2684 => ?_)
        · skip
          have nc_2684 := jl_ge c_2684
          refine lv_iconst (v := 0) hx hb dX10_testHolds_226 (by decide) ?_
          refine lv_goto (tgt := 243) hx hb dX10_testHolds_227 (by decide) ?_
          exact W.zret (v := 0) hx hb hr rfl (fun t ht hW => ⟨⟨0, _, rfl, Or.inl (⟨(by have lm1 : Int32.toInt (-1) = -1 := (by decide); have l91 : Int32.toInt 1 = 1 := (by decide); have l92 : Int32.toInt 2 = 2 := (by decide); have l93 : Int32.toInt 3 = 3 := (by decide); have h90 : Int32.toInt 0 = 0 := (by decide); exact fun h => scp_n (by omega) ((td_e rl2345_0 (by omega)).mp h)), rfl, rfl⟩), by rw [ht]; exact hP, hD⟩, hS.F ht⟩) hS.2.2 dX10_testHolds_243
        · skip
          have nc_2684 := jl_nge c_2684
          refine lv_iconst (v := 1) hx hb dX10_testHolds_222 (by decide) ?_
          refine lv_goto (tgt := 243) hx hb dX10_testHolds_223 (by decide) ?_
          exact W.zret (v := 1) hx hb hr rfl (fun t ht hW => ⟨⟨1, _, rfl, Or.inr (⟨(by have lm1 : Int32.toInt (-1) = -1 := (by decide); have l91 : Int32.toInt 1 = 1 := (by decide); have l92 : Int32.toInt 2 = 2 := (by decide); have l93 : Int32.toInt 3 = 3 := (by decide); have h90 : Int32.toInt 1 = 1 := (by decide); exact (td_e rl2345_0 (by omega)).mpr (scp_y (by omega))), rfl, rfl⟩), by rw [ht]; exact hP, hD⟩, hS.F ht⟩) hS.2.2 dX10_testHolds_243
    · skip
      have nc_2681 := nb_eq (0) (0) c_2681 (btop v_2680) (bkc (x := 0) (c := 0) (by decide)) (by decide)
      refine lv_lload hx hb dX10_testHolds_192 (lv_at hl 2 rfl) ?_
      refine lv_lload hx hb dX10_testHolds_194 (lv_at hl 1 rfl) ?_
      refine W.lcmp hx hb dX10_testHolds_196 ?_
      refine lv_if_le (tgt := 204) hx hb dX10_testHolds_197 (by decide) (fun c_2685 => ?_) (fun c_2685 => ?_)
      · skip
        have nc_2685 := jl_le c_2685
        refine lv_iconst (v := 0) hx hb dX10_testHolds_204 (by decide) ?_
        refine lv_goto (tgt := 243) hx hb dX10_testHolds_205 (by decide) ?_
        exact W.zret (v := 0) hx hb hr rfl (fun t ht hW => ⟨⟨0, _, rfl, Or.inl (⟨(by have lm1 : Int32.toInt (-1) = -1 := (by decide); have l91 : Int32.toInt 1 = 1 := (by decide); have l92 : Int32.toInt 2 = 2 := (by decide); have l93 : Int32.toInt 3 = 3 := (by decide); have h90 : Int32.toInt 0 = 0 := (by decide); exact fun h => scp_n (by omega) ((td_e rl2345_0 (by omega)).mp h)), rfl, rfl⟩), by rw [ht]; exact hP, hD⟩, hS.F ht⟩) hS.2.2 dX10_testHolds_243
      · skip
        have nc_2685 := jl_nle c_2685
        refine lv_iconst (v := 1) hx hb dX10_testHolds_200 (by decide) ?_
        refine lv_goto (tgt := 243) hx hb dX10_testHolds_201 (by decide) ?_
        exact W.zret (v := 1) hx hb hr rfl (fun t ht hW => ⟨⟨1, _, rfl, Or.inr (⟨(by have lm1 : Int32.toInt (-1) = -1 := (by decide); have l91 : Int32.toInt 1 = 1 := (by decide); have l92 : Int32.toInt 2 = 2 := (by decide); have l93 : Int32.toInt 3 = 3 := (by decide); have h90 : Int32.toInt 1 = 1 := (by decide); exact (td_e rl2345_0 (by omega)).mpr (scp_y (by omega))), rfl, rfl⟩), by rw [ht]; exact hP, hD⟩, hS.F ht⟩) hS.2.2 dX10_testHolds_243
  · skip
    have nc_2677 := nb_nle (349) (1) c_2677 bv_2345 h_1010 (by decide)
    refine lv_aload_n hx hb dX10_testHolds_43 rfl (lv_at hl 4 rfl) ?_
    refine va_get (D := G) (ci := 10) (v := .ref ob_world) (C := RX10) (T := TX10) (N := 41) hx hb hw0 inA_wsX100 hown hK.1 hP 0 rfl rfl 1 (by decide) (hw0 _ m_352) (fun _ h9 => h9) rfl dX10_testHolds_44 ?_
    refine lv_sipush (v := 814) hx hb dX10_testHolds_47 (by decide) ?_
    refine lv_iconst (v := 3) hx hb dX10_testHolds_50 (by decide) ?_
    refine lv_iload_n hx hb dX10_testHolds_51 rfl (lv_at hl 3 rfl) ?_
    refine lv_imul hx hb dX10_testHolds_52 ?_
    refine lv_topi (fun v_2686 ev_2686 => ?_)
    have qv_2686 := ba_mul 3 (ev_2686.trans (Int32.mul_comm _ _)) nc_2677.1 (by decide) (by decide) (by decide)
    have bv_2686 : (0 : Int) ≤ v_2686.toInt ∧ v_2686.toInt ≤ 1047 := qv_2686.2
    refine lv_iadd hx hb dX10_testHolds_53 ?_
    refine lv_topi (fun v_2687 ev_2687 => ?_)
    have qv_2687 := ba_add ev_2687 (bkc (x := 814) (c := 814) (by decide)) bv_2686 (by decide)
    have bv_2687 : (814 : Int) ≤ v_2687.toInt ∧ v_2687.toInt ≤ 1861 := bq_add qv_2687 (bkc (x := 814) (c := 814) (by decide)) bv_2686 _ _ (by decide)
    have qv_2687 : v_2687.toInt = (814) + v_2686.toInt := qv_2687
    refine va_iald hx hb hK.1 hP 1 1 rfl rfl (vi bv_2687 (by decide)) dX10_testHolds_54 ?_
    refine lv_topi (fun v_2688 ev_2688 => ?_)
    have wv_2688 : v_2688.toInt = (fob_world (814 + 3 * v_2345.toInt.toNat)).toInt := by rw [ev_2688, el_at (c := 814) (a := 3) (x := v_2345) (by omega) (by omega)]
    refine lv_istore (lv' := [(8, .int v_2688), (6, .long v_2343), (4, .long v_2344), (3, .int v_1009), (2, .int v_2345), (0, .ref ob), (1, .int a1)]) hx hb dX10_testHolds_55 hl (by decide) rfl (fun ls hl => ?_)
    refine lv_aload_n hx hb dX10_testHolds_57 rfl (lv_at hl 5 rfl) ?_
    refine lv_iload_n hx hb dX10_testHolds_58 rfl (lv_at hl 4 rfl) ?_
    refine cVlm (As := [.int v_2345]) (rest := []) ⟨hx, hb, hml, hown, hw0⟩ hA hK hP hD hS [true, true, true] (hpartOf l G y _ ob v_2345 ob_thrown ob_world ob_images ob_hasImage ob_tape ob_taped ob_five ob_size ob_at ob_from ob_token ob_value ob_faultKind ob_faultPlace ob_fresh ob_parts ob_houses ob_houseMany ob_worthOf ob_byCall ob_over ob_bestSet ob_bestOver ob_bestWorth ob_row ob_tenDebts ob_tenMany ob_fewestBy ob_covered ob_queue ob_cameBy ob_parent ob_met ob_calls ob_callMany ob_calledOn ob_saved ob_many ob_width ob_numbers ob_moving fob_world fob_parts p_fob_world p_ob_taped p_ob_size p_ob_at p_ob_from p_ob_token p_ob_value p_ob_faultKind p_ob_houseMany p_ob_bestSet p_ob_bestOver p_ob_tenMany p_ob_callMany nc_2677.1) rfl ⟨(callB_of 1 hw0 (gA m_587) rfl rfl rfl (hw0 _ m_41) (hw0 _ m_683) cb_X10_partOf ⟨Nat.le_of_ble_eq_true rfl, Nat.le_of_ble_eq_true rfl⟩), (hw0 _ m_684), (hw0 _ m_685)⟩ (ci := 10) (q := (RX10, TX10, 41)) rfl rfl rfl hl.1 (Nat.le_of_ble_eq_true rfl) dX10_testHolds_59 ⟨Nat.le_of_ble_eq_true rfl, Nat.le_of_ble_eq_true rfl⟩ (fun r_2689 w_2689 H locs hw_2689 hP hD hS => ?_)
    obtain ⟨v_2690, h_2691, h_2692, er_2689, rfl⟩ := hw_2689
    subst r_2689
    obtain ⟨hP, hD⟩ : vPD G A H [(ce_X10 ob ob_thrown ob_world ob_images ob_hasImage ob_tape ob_taped ob_five ob_size ob_at ob_from ob_token ob_value ob_faultKind ob_faultPlace ob_fresh ob_parts ob_houses ob_houseMany ob_worthOf ob_byCall ob_over ob_bestSet ob_bestOver ob_bestWorth ob_row ob_tenDebts ob_tenMany ob_fewestBy ob_covered ob_queue ob_cameBy ob_parent ob_met ob_calls ob_callMany ob_calledOn ob_saved ob_many ob_width ob_numbers ob_moving), (ce_i9080 y ob_world fob_world), (ce_i6 y ob_parts fob_parts)] := ⟨hP, hD⟩
    refine lv_lstore (lv' := [(9, .long v_2690), (8, .int v_2688), (6, .long v_2343), (4, .long v_2344), (3, .int v_1009), (2, .int v_2345), (0, .ref ob), (1, .int a1)]) hx hb dX10_testHolds_62 hl (by decide) rfl (fun ls hl => ?_)
    obtain ⟨v_2693, ev_2693⟩ : ∃ z : Int32, z = v_2345 + 1 := ⟨_, rfl⟩
    have qv_2693 := ba_add ev_2693 nc_2677.1 (bkc (x := 1) (c := 1) (by decide)) (by decide)
    have bv_2693 : (1 : Int) ≤ v_2693.toInt ∧ v_2693.toInt ≤ 350 := bq_add qv_2693 nc_2677.1 (bkc (x := 1) (c := 1) (by decide)) _ _ (by decide)
    have qv_2693 : v_2693.toInt = v_2345.toInt + (1) := qv_2693
    refine lv_iinc (v := v_2693) (lv' := [(2, .int v_2693), (9, .long v_2690), (8, .int v_2688), (6, .long v_2343), (4, .long v_2344), (3, .int v_1009), (0, .ref ob), (1, .int a1)]) hx hb dX10_testHolds_64 hl (k := 5) rfl (ev_2693.symm) (by decide) rfl (fun ls hl => ?_)
    refine loopX (fun n H locs ls st => ∃ (v_2888 : Int32) (v_2889 : Int64), (350 - v_2888.toInt).toNat = n ∧ ((0 : Int) ≤ v_2888.toInt ∧ v_2888.toInt ≤ 350) ∧ (trm fob_world (fun q : Nat => (fob_parts q).toInt) (v_1009.toInt - v_2888.toInt).toNat v_2888.toInt.toNat v_2688.toInt v_2889.toInt v_2344.toInt v_2343.toInt = (trO fob_world (fun q : Nat => (fob_parts q).toInt) (fob_world (276 + 3 * a1.toInt.toNat)).toInt.toNat (fob_world (275 + 3 * a1.toInt.toNat)).toInt.toNat 0 0)) ∧ (v_2345.toInt + 1 ≤ v_2888.toInt) ∧ (v_2888.toInt ≤ v_1009.toInt) ∧ (-1000000000 ≤ v_2344.toInt ∧ v_2344.toInt ≤ 1000000000) ∧ (-1000000000 ≤ v_2343.toInt ∧ v_2343.toInt ≤ 1000000000) ∧ (-2147483648 ≤ v_2889.toInt ∧ v_2889.toInt ≤ 2147483647) ∧ st = [] ∧ vPD G A H [(ce_X10 ob ob_thrown ob_world ob_images ob_hasImage ob_tape ob_taped ob_five ob_size ob_at ob_from ob_token ob_value ob_faultKind ob_faultPlace ob_fresh ob_parts ob_houses ob_houseMany ob_worthOf ob_byCall ob_over ob_bestSet ob_bestOver ob_bestWorth ob_row ob_tenDebts ob_tenMany ob_fewestBy ob_covered ob_queue ob_cameBy ob_parent ob_met ob_calls ob_callMany ob_calledOn ob_saved ob_many ob_width ob_numbers ob_moving), (ce_i9080 y ob_world fob_world), (ce_i6 y ob_parts fob_parts)] ∧ va_S A s.heap H locs ∧ lv_has ls 11 [(2, .int v_2888), (9, .long v_2889), (8, .int v_2688), (6, .long v_2343), (4, .long v_2344), (3, .int v_1009), (0, .ref ob), (1, .int a1)]) ?_ (n := (350 - v_2693.toInt).toNat) ⟨v_2693, v_2690, rfl, (bw (0) (350) bv_2693 (by decide)), (by have lm1 : Int32.toInt (-1) = -1 := (by decide); have l91 : Int32.toInt 1 = 1 := (by decide); have l92 : Int32.toInt 2 = 2 := (by decide); have l93 : Int32.toInt 3 = 3 := (by decide); have z0 : Int64.toInt 0 = 0 := (by decide); exact tm_0 rl2345_0 (by omega) (by omega) (by omega) h_2691 (by omega)), (by omega), (by omega), (by omega), (by omega), (by omega), rfl, ⟨hP, hD⟩, hS, lv_sub hl [0, 1, 2, 3, 4, 5, 6, 7] rfl⟩
    rintro n ih_2952 H locs ls st ⟨v_2888, v_2889, hn_2952, bv_2888, rl2889_0, rl2889_1, rl2889_2, rl2889_3, rl2889_4, rl2889_5, rfl, ⟨hP, hD⟩, hS, hl⟩
    refine lv_iload_n hx hb dX10_testHolds_67 rfl (lv_at hl 0 rfl) ?_
    refine lv_iload_n hx hb dX10_testHolds_68 rfl (lv_at hl 5 rfl) ?_
    refine lv_icmp_ge (tgt := 120) hx hb dX10_testHolds_69 (by decide) (fun c_2953 => ?_) (fun c_2953 => ?_)
    · skip
      have nc_2953 := nb_le (350) (1) c_2953 nc_2677.2.1 bv_2888 (by decide)
      refine lv_iload hx hb dX10_testHolds_120 (lv_at hl 2 rfl) ?_
      refine lv_iconst (v := 4) hx hb dX10_testHolds_122 (by decide) ?_
      refine lv_icmp_ne (tgt := 133) hx hb dX10_testHolds_123 (by decide) (fun c_2954 => ?_) (fun c_2954 => ?_)
      · skip
        have nc_2954 := nb_ne (-2147483648) (2147483647) c_2954 (btop v_2688) (k := 4) (by decide) (by decide)
        refine lv_iload hx hb dX10_testHolds_133 (lv_at hl 2 rfl) ?_
        refine lv_iconst (v := 2) hx hb dX10_testHolds_135 (by decide) ?_
        refine lv_icmp_ne (tgt := 147) hx hb dX10_testHolds_136 (by decide) (fun c_2955 => ?_) (fun c_2955 => ?_)
        · skip
          have nc_2955 := nb_ne (-2147483648) (2147483647) c_2955 nc_2954.1 (k := 2) (by decide) (by decide)
          refine lv_lload hx hb dX10_testHolds_147 (lv_at hl 3 rfl) ?_
          refine lv_lload hx hb dX10_testHolds_149 (lv_at hl 1 rfl) ?_
          refine lv_ladd hx hb dX10_testHolds_151 ?_
          refine lv_topl (fun v_2956 ev_2956 => ?_)
          have qv_2956 := ll_a ev_2956 (by omega)
          refine lv_lstore (lv' := [(6, .long v_2956), (2, .int v_2888), (9, .long v_2889), (8, .int v_2688), (4, .long v_2344), (3, .int v_1009), (0, .ref ob), (1, .int a1)]) hx hb dX10_testHolds_152 hl (by decide) rfl (fun ls hl => ?_)
          refine lv_lload hx hb dX10_testHolds_154 (lv_at hl 0 rfl) ?_
          refine lv_ldc2 (own := RX10) (v := (-1000000000)) hx hb hown (hw0 _ m_686) dX10_testHolds_156 ?_
          refine lv_ldc2 (own := RX10) (v := 1000000000) hx hb hown (hw0 _ m_687) dX10_testHolds_159 ?_
          refine cSim (As := [.long v_2956, .long (-1000000000), .long 1000000000]) (rest := []) ⟨hx, hb, hml, hown, hw0⟩ hA hK hP hD hS [] (sX10_in l G y _ v_2956 (-1000000000) 1000000000 ) rfl ⟨(callB_of 3 hw0 (gA m_516) rfl rfl rfl (hw0 _ m_41) (hw0 _ m_345) cb_X10_in ⟨Nat.le_of_ble_eq_true rfl, Nat.le_of_ble_eq_true rfl⟩), (hw0 _ m_346)⟩ rfl hl.1 (Nat.le_of_ble_eq_true rfl) dX10_testHolds_162 ⟨Nat.le_of_ble_eq_true rfl, Nat.le_of_ble_eq_true rfl⟩ (fun r_2957 w_2957 H locs hw_2957 hP hD hS => ?_)
          rcases hw_2957 with ⟨h_2958, rfl, rfl⟩ | ⟨h_2959, rfl, rfl⟩
          · skip
            have h_2960 : v_2956.toInt < (-1000000000 : Int) ∨ (1000000000 : Int) < v_2956.toInt := in_n h_2958 rfl (by decide) (by decide)
            obtain ⟨hP, hD⟩ : vPD G A H [(ce_X10 ob ob_thrown ob_world ob_images ob_hasImage ob_tape ob_taped ob_five ob_size ob_at ob_from ob_token ob_value ob_faultKind ob_faultPlace ob_fresh ob_parts ob_houses ob_houseMany ob_worthOf ob_byCall ob_over ob_bestSet ob_bestOver ob_bestWorth ob_row ob_tenDebts ob_tenMany ob_fewestBy ob_covered ob_queue ob_cameBy ob_parent ob_met ob_calls ob_callMany ob_calledOn ob_saved ob_many ob_width ob_numbers ob_moving), (ce_i9080 y ob_world fob_world), (ce_i6 y ob_parts fob_parts)] := ⟨hP, hD⟩
            refine lv_if_ne (tgt := 170) hx hb dX10_testHolds_165 (by decide) (fun c9 => absurd (by decide) c9) (fun _ => ?_)
            refine lv_iconst (v := 0) hx hb dX10_testHolds_168 (by decide) ?_
            exact W.zret (v := 0) hx hb hr rfl (fun t ht hW => ⟨⟨0, _, rfl, Or.inl (⟨(by have lm1 : Int32.toInt (-1) = -1 := (by decide); have l91 : Int32.toInt 1 = 1 := (by decide); have l92 : Int32.toInt 2 = 2 := (by decide); have l93 : Int32.toInt 3 = 3 := (by decide); have h90 : Int32.toInt 0 = 0 := (by decide); have z0 : Int64.toInt 0 = 0 := (by decide); exact td_f (tm_y rl2889_0 (by omega) (u := v_2956.toInt) (by omega) (by omega))), rfl, rfl⟩), by rw [ht]; exact hP, hD⟩, hS.F ht⟩) hS.2.2 dX10_testHolds_169
          · skip
            have h_2961 : (-1000000000 : Int) ≤ v_2956.toInt ∧ v_2956.toInt ≤ (1000000000 : Int) := in_y h_2959 rfl (by decide) (by decide)
            have h_2962_0 := (ltop v_2956)
            have h_2962_1 := True.intro
            have h_2962_2 := True.intro
            have h_2962 : (-1000000000 : Int) ≤ v_2956.toInt ∧ v_2956.toInt ≤ 1000000000 := by omega
            obtain ⟨hP, hD⟩ : vPD G A H [(ce_X10 ob ob_thrown ob_world ob_images ob_hasImage ob_tape ob_taped ob_five ob_size ob_at ob_from ob_token ob_value ob_faultKind ob_faultPlace ob_fresh ob_parts ob_houses ob_houseMany ob_worthOf ob_byCall ob_over ob_bestSet ob_bestOver ob_bestWorth ob_row ob_tenDebts ob_tenMany ob_fewestBy ob_covered ob_queue ob_cameBy ob_parent ob_met ob_calls ob_callMany ob_calledOn ob_saved ob_many ob_width ob_numbers ob_moving), (ce_i9080 y ob_world fob_world), (ce_i6 y ob_parts fob_parts)] := ⟨hP, hD⟩
            refine lv_if_ne (tgt := 170) hx hb dX10_testHolds_165 (by decide) (fun _ => ?_) (fun c9 => absurd c9 (by decide))
            refine lv_goto (tgt := 38) hx hb dX10_testHolds_170 (by decide) ?_
            exact ih_2676 _ (by omega) _ _ _ _ ⟨v_2956, v_2344, v_2888, rfl, (bw (0) (350) nc_2953.2.1 (by decide)), (by have lm1 : Int32.toInt (-1) = -1 := (by decide); have l91 : Int32.toInt 1 = 1 := (by decide); have l92 : Int32.toInt 2 = 2 := (by decide); have l93 : Int32.toInt 3 = 3 := (by decide); have z0 : Int64.toInt 0 = 0 := (by decide); exact tm_e rl2889_0 (by omega) (by omega) (by omega) ⟨by omega, by omega⟩), (by have lm1 : Int32.toInt (-1) = -1 := (by decide); have l91 : Int32.toInt 1 = 1 := (by decide); have l92 : Int32.toInt 2 = 2 := (by decide); have l93 : Int32.toInt 3 = 3 := (by decide); have z0 : Int64.toInt 0 = 0 := (by decide); omega), (by have lm1 : Int32.toInt (-1) = -1 := (by decide); have l91 : Int32.toInt 1 = 1 := (by decide); have l92 : Int32.toInt 2 = 2 := (by decide); have l93 : Int32.toInt 3 = 3 := (by decide); have z0 : Int64.toInt 0 = 0 := (by decide); omega), rfl, ⟨hP, hD⟩, hS, lv_sub hl [0, 4, 5, 1, 6, 7] rfl⟩
        · skip
          have nc_2955 := nb_eq (2) (2) c_2955 nc_2954.1 (bkc (x := 2) (c := 2) (by decide)) (by decide)
          refine lv_lload hx hb dX10_testHolds_139 (lv_at hl 3 rfl) ?_
          refine lv_lload hx hb dX10_testHolds_141 (lv_at hl 1 rfl) ?_
          refine lv_lsub hx hb dX10_testHolds_143 ?_
          refine lv_topl (fun v_2963 ev_2963 => ?_)
          have qv_2963 := ll_s ev_2963 (by omega)
          refine lv_goto (tgt := 152) hx hb dX10_testHolds_144 (by decide) ?_
          refine lv_lstore (lv' := [(6, .long v_2963), (2, .int v_2888), (9, .long v_2889), (8, .int v_2688), (4, .long v_2344), (3, .int v_1009), (0, .ref ob), (1, .int a1)]) hx hb dX10_testHolds_152 hl (by decide) rfl (fun ls hl => ?_)
          refine lv_lload hx hb dX10_testHolds_154 (lv_at hl 0 rfl) ?_
          refine lv_ldc2 (own := RX10) (v := (-1000000000)) hx hb hown (hw0 _ m_686) dX10_testHolds_156 ?_
          refine lv_ldc2 (own := RX10) (v := 1000000000) hx hb hown (hw0 _ m_687) dX10_testHolds_159 ?_
          refine cSim (As := [.long v_2963, .long (-1000000000), .long 1000000000]) (rest := []) ⟨hx, hb, hml, hown, hw0⟩ hA hK hP hD hS [] (sX10_in l G y _ v_2963 (-1000000000) 1000000000 ) rfl ⟨(callB_of 3 hw0 (gA m_516) rfl rfl rfl (hw0 _ m_41) (hw0 _ m_345) cb_X10_in ⟨Nat.le_of_ble_eq_true rfl, Nat.le_of_ble_eq_true rfl⟩), (hw0 _ m_346)⟩ rfl hl.1 (Nat.le_of_ble_eq_true rfl) dX10_testHolds_162 ⟨Nat.le_of_ble_eq_true rfl, Nat.le_of_ble_eq_true rfl⟩ (fun r_2964 w_2964 H locs hw_2964 hP hD hS => ?_)
          rcases hw_2964 with ⟨h_2965, rfl, rfl⟩ | ⟨h_2966, rfl, rfl⟩
          · skip
            have h_2967 : v_2963.toInt < (-1000000000 : Int) ∨ (1000000000 : Int) < v_2963.toInt := in_n h_2965 rfl (by decide) (by decide)
            obtain ⟨hP, hD⟩ : vPD G A H [(ce_X10 ob ob_thrown ob_world ob_images ob_hasImage ob_tape ob_taped ob_five ob_size ob_at ob_from ob_token ob_value ob_faultKind ob_faultPlace ob_fresh ob_parts ob_houses ob_houseMany ob_worthOf ob_byCall ob_over ob_bestSet ob_bestOver ob_bestWorth ob_row ob_tenDebts ob_tenMany ob_fewestBy ob_covered ob_queue ob_cameBy ob_parent ob_met ob_calls ob_callMany ob_calledOn ob_saved ob_many ob_width ob_numbers ob_moving), (ce_i9080 y ob_world fob_world), (ce_i6 y ob_parts fob_parts)] := ⟨hP, hD⟩
            refine lv_if_ne (tgt := 170) hx hb dX10_testHolds_165 (by decide) (fun c9 => absurd (by decide) c9) (fun _ => ?_)
            refine lv_iconst (v := 0) hx hb dX10_testHolds_168 (by decide) ?_
            exact W.zret (v := 0) hx hb hr rfl (fun t ht hW => ⟨⟨0, _, rfl, Or.inl (⟨(by have lm1 : Int32.toInt (-1) = -1 := (by decide); have l91 : Int32.toInt 1 = 1 := (by decide); have l92 : Int32.toInt 2 = 2 := (by decide); have l93 : Int32.toInt 3 = 3 := (by decide); have h90 : Int32.toInt 0 = 0 := (by decide); have z0 : Int64.toInt 0 = 0 := (by decide); exact td_f (tm_y rl2889_0 (by omega) (u := v_2963.toInt) (by omega) (by omega))), rfl, rfl⟩), by rw [ht]; exact hP, hD⟩, hS.F ht⟩) hS.2.2 dX10_testHolds_169
          · skip
            have h_2968 : (-1000000000 : Int) ≤ v_2963.toInt ∧ v_2963.toInt ≤ (1000000000 : Int) := in_y h_2966 rfl (by decide) (by decide)
            have h_2969_0 := (ltop v_2963)
            have h_2969_1 := True.intro
            have h_2969_2 := True.intro
            have h_2969 : (-1000000000 : Int) ≤ v_2963.toInt ∧ v_2963.toInt ≤ 1000000000 := by omega
            obtain ⟨hP, hD⟩ : vPD G A H [(ce_X10 ob ob_thrown ob_world ob_images ob_hasImage ob_tape ob_taped ob_five ob_size ob_at ob_from ob_token ob_value ob_faultKind ob_faultPlace ob_fresh ob_parts ob_houses ob_houseMany ob_worthOf ob_byCall ob_over ob_bestSet ob_bestOver ob_bestWorth ob_row ob_tenDebts ob_tenMany ob_fewestBy ob_covered ob_queue ob_cameBy ob_parent ob_met ob_calls ob_callMany ob_calledOn ob_saved ob_many ob_width ob_numbers ob_moving), (ce_i9080 y ob_world fob_world), (ce_i6 y ob_parts fob_parts)] := ⟨hP, hD⟩
            refine lv_if_ne (tgt := 170) hx hb dX10_testHolds_165 (by decide) (fun _ => ?_) (fun c9 => absurd c9 (by decide))
            refine lv_goto (tgt := 38) hx hb dX10_testHolds_170 (by decide) ?_
            exact ih_2676 _ (by omega) _ _ _ _ ⟨v_2963, v_2344, v_2888, rfl, (bw (0) (350) nc_2953.2.1 (by decide)), (by have lm1 : Int32.toInt (-1) = -1 := (by decide); have l91 : Int32.toInt 1 = 1 := (by decide); have l92 : Int32.toInt 2 = 2 := (by decide); have l93 : Int32.toInt 3 = 3 := (by decide); have z0 : Int64.toInt 0 = 0 := (by decide); exact tm_e rl2889_0 (by omega) (by omega) (by omega) ⟨by omega, by omega⟩), (by have lm1 : Int32.toInt (-1) = -1 := (by decide); have l91 : Int32.toInt 1 = 1 := (by decide); have l92 : Int32.toInt 2 = 2 := (by decide); have l93 : Int32.toInt 3 = 3 := (by decide); have z0 : Int64.toInt 0 = 0 := (by decide); omega), (by have lm1 : Int32.toInt (-1) = -1 := (by decide); have l91 : Int32.toInt 1 = 1 := (by decide); have l92 : Int32.toInt 2 = 2 := (by decide); have l93 : Int32.toInt 3 = 3 := (by decide); have z0 : Int64.toInt 0 = 0 := (by decide); omega), rfl, ⟨hP, hD⟩, hS, lv_sub hl [0, 4, 5, 1, 6, 7] rfl⟩
      · skip
        have nc_2954 := nb_eq (4) (4) c_2954 (btop v_2688) (bkc (x := 4) (c := 4) (by decide)) (by decide)
        refine lv_lload hx hb dX10_testHolds_126 (lv_at hl 3 rfl) ?_
        refine lv_lstore (lv' := [(4, .long v_2343), (2, .int v_2888), (9, .long v_2889), (8, .int v_2688), (6, .long v_2343), (3, .int v_1009), (0, .ref ob), (1, .int a1)]) hx hb dX10_testHolds_128 hl (by decide) rfl (fun ls hl => ?_)
        refine lv_lconst (v := 0) hx hb dX10_testHolds_130 (by decide) ?_
        refine lv_lstore (lv' := [(6, .long 0), (4, .long v_2343), (2, .int v_2888), (9, .long v_2889), (8, .int v_2688), (3, .int v_1009), (0, .ref ob), (1, .int a1)]) hx hb dX10_testHolds_131 hl (by decide) rfl (fun ls hl => ?_)
        refine lv_iload hx hb dX10_testHolds_133 (lv_at hl 4 rfl) ?_
        refine lv_iconst (v := 2) hx hb dX10_testHolds_135 (by decide) ?_
        refine lv_icmp_ne (tgt := 147) hx hb dX10_testHolds_136 (by decide) (fun _ => ?_) (fun c9 => absurd c9 (dc_neq nc_2954.1 (bkc (x := 2) (c := 2) (by decide)) (by decide)))
        refine lv_lload hx hb dX10_testHolds_147 (lv_at hl 0 rfl) ?_
        refine lv_lload hx hb dX10_testHolds_149 (lv_at hl 3 rfl) ?_
        refine lv_ladd hx hb dX10_testHolds_151 ?_
        refine lv_topl (fun v_2970 ev_2970 => ?_)
        have qv_2970 := ll_a ev_2970 (by have h80 : Int64.toInt 0 = 0 := (by decide); omega)
        refine lv_lstore (lv' := [(6, .long v_2970), (4, .long v_2343), (2, .int v_2888), (9, .long v_2889), (8, .int v_2688), (3, .int v_1009), (0, .ref ob), (1, .int a1)]) hx hb dX10_testHolds_152 hl (by decide) rfl (fun ls hl => ?_)
        refine lv_lload hx hb dX10_testHolds_154 (lv_at hl 0 rfl) ?_
        refine lv_ldc2 (own := RX10) (v := (-1000000000)) hx hb hown (hw0 _ m_686) dX10_testHolds_156 ?_
        refine lv_ldc2 (own := RX10) (v := 1000000000) hx hb hown (hw0 _ m_687) dX10_testHolds_159 ?_
        refine cSim (As := [.long v_2970, .long (-1000000000), .long 1000000000]) (rest := []) ⟨hx, hb, hml, hown, hw0⟩ hA hK hP hD hS [] (sX10_in l G y _ v_2970 (-1000000000) 1000000000 ) rfl ⟨(callB_of 3 hw0 (gA m_516) rfl rfl rfl (hw0 _ m_41) (hw0 _ m_345) cb_X10_in ⟨Nat.le_of_ble_eq_true rfl, Nat.le_of_ble_eq_true rfl⟩), (hw0 _ m_346)⟩ rfl hl.1 (Nat.le_of_ble_eq_true rfl) dX10_testHolds_162 ⟨Nat.le_of_ble_eq_true rfl, Nat.le_of_ble_eq_true rfl⟩ (fun r_2971 w_2971 H locs hw_2971 hP hD hS => ?_)
        rcases hw_2971 with ⟨h_2972, rfl, rfl⟩ | ⟨h_2973, rfl, rfl⟩
        · skip
          have h_2974 : v_2970.toInt < (-1000000000 : Int) ∨ (1000000000 : Int) < v_2970.toInt := in_n h_2972 rfl (by decide) (by decide)
          obtain ⟨hP, hD⟩ : vPD G A H [(ce_X10 ob ob_thrown ob_world ob_images ob_hasImage ob_tape ob_taped ob_five ob_size ob_at ob_from ob_token ob_value ob_faultKind ob_faultPlace ob_fresh ob_parts ob_houses ob_houseMany ob_worthOf ob_byCall ob_over ob_bestSet ob_bestOver ob_bestWorth ob_row ob_tenDebts ob_tenMany ob_fewestBy ob_covered ob_queue ob_cameBy ob_parent ob_met ob_calls ob_callMany ob_calledOn ob_saved ob_many ob_width ob_numbers ob_moving), (ce_i9080 y ob_world fob_world), (ce_i6 y ob_parts fob_parts)] := ⟨hP, hD⟩
          refine lv_if_ne (tgt := 170) hx hb dX10_testHolds_165 (by decide) (fun c9 => absurd (by decide) c9) (fun _ => ?_)
          refine lv_iconst (v := 0) hx hb dX10_testHolds_168 (by decide) ?_
          exact W.zret (v := 0) hx hb hr rfl (fun t ht hW => ⟨⟨0, _, rfl, Or.inl (⟨(by have lm1 : Int32.toInt (-1) = -1 := (by decide); have l91 : Int32.toInt 1 = 1 := (by decide); have l92 : Int32.toInt 2 = 2 := (by decide); have l93 : Int32.toInt 3 = 3 := (by decide); have h90 : Int32.toInt 0 = 0 := (by decide); have z0 : Int64.toInt 0 = 0 := (by decide); exact td_f (tm_y rl2889_0 (by omega) (u := v_2970.toInt) (by omega) (by omega))), rfl, rfl⟩), by rw [ht]; exact hP, hD⟩, hS.F ht⟩) hS.2.2 dX10_testHolds_169
        · skip
          have h_2975 : (-1000000000 : Int) ≤ v_2970.toInt ∧ v_2970.toInt ≤ (1000000000 : Int) := in_y h_2973 rfl (by decide) (by decide)
          have h_2976_0 := (ltop v_2970)
          have h_2976_1 := True.intro
          have h_2976_2 := True.intro
          have h_2976 : (-1000000000 : Int) ≤ v_2970.toInt ∧ v_2970.toInt ≤ 1000000000 := by omega
          obtain ⟨hP, hD⟩ : vPD G A H [(ce_X10 ob ob_thrown ob_world ob_images ob_hasImage ob_tape ob_taped ob_five ob_size ob_at ob_from ob_token ob_value ob_faultKind ob_faultPlace ob_fresh ob_parts ob_houses ob_houseMany ob_worthOf ob_byCall ob_over ob_bestSet ob_bestOver ob_bestWorth ob_row ob_tenDebts ob_tenMany ob_fewestBy ob_covered ob_queue ob_cameBy ob_parent ob_met ob_calls ob_callMany ob_calledOn ob_saved ob_many ob_width ob_numbers ob_moving), (ce_i9080 y ob_world fob_world), (ce_i6 y ob_parts fob_parts)] := ⟨hP, hD⟩
          refine lv_if_ne (tgt := 170) hx hb dX10_testHolds_165 (by decide) (fun _ => ?_) (fun c9 => absurd c9 (by decide))
          refine lv_goto (tgt := 38) hx hb dX10_testHolds_170 (by decide) ?_
          exact ih_2676 _ (by omega) _ _ _ _ ⟨v_2970, v_2343, v_2888, rfl, (bw (0) (350) nc_2953.2.1 (by decide)), (by have lm1 : Int32.toInt (-1) = -1 := (by decide); have l91 : Int32.toInt 1 = 1 := (by decide); have l92 : Int32.toInt 2 = 2 := (by decide); have l93 : Int32.toInt 3 = 3 := (by decide); have z0 : Int64.toInt 0 = 0 := (by decide); exact tm_e rl2889_0 (by omega) (by omega) (by omega) ⟨by omega, by omega⟩), (by have lm1 : Int32.toInt (-1) = -1 := (by decide); have l91 : Int32.toInt 1 = 1 := (by decide); have l92 : Int32.toInt 2 = 2 := (by decide); have l93 : Int32.toInt 3 = 3 := (by decide); have z0 : Int64.toInt 0 = 0 := (by decide); omega), (by have lm1 : Int32.toInt (-1) = -1 := (by decide); have l91 : Int32.toInt 1 = 1 := (by decide); have l92 : Int32.toInt 2 = 2 := (by decide); have l93 : Int32.toInt 3 = 3 := (by decide); have z0 : Int64.toInt 0 = 0 := (by decide); omega), rfl, ⟨hP, hD⟩, hS, lv_sub hl [0, 1, 5, 2, 6, 7] rfl⟩
    · skip
      have nc_2953 := nb_nle (349) (1) c_2953 bv_2888 nc_2677.2.1 (by decide)
      refine lv_aload_n hx hb dX10_testHolds_72 rfl (lv_at hl 6 rfl) ?_
      refine va_get (D := G) (ci := 10) (v := .ref ob_world) (C := RX10) (T := TX10) (N := 41) hx hb hw0 inA_wsX100 hown hK.1 hP 0 rfl rfl 1 (by decide) (hw0 _ m_352) (fun _ h9 => h9) rfl dX10_testHolds_73 ?_
      refine lv_sipush (v := 814) hx hb dX10_testHolds_76 (by decide) ?_
      refine lv_iconst (v := 3) hx hb dX10_testHolds_79 (by decide) ?_
      refine lv_iload_n hx hb dX10_testHolds_80 rfl (lv_at hl 0 rfl) ?_
      refine lv_imul hx hb dX10_testHolds_81 ?_
      refine lv_topi (fun v_2977 ev_2977 => ?_)
      have qv_2977 := ba_mul 3 (ev_2977.trans (Int32.mul_comm _ _)) nc_2953.1 (by decide) (by decide) (by decide)
      have bv_2977 : (0 : Int) ≤ v_2977.toInt ∧ v_2977.toInt ≤ 1047 := qv_2977.2
      refine lv_iadd hx hb dX10_testHolds_82 ?_
      refine lv_topi (fun v_2978 ev_2978 => ?_)
      have qv_2978 := ba_add ev_2978 (bkc (x := 814) (c := 814) (by decide)) bv_2977 (by decide)
      have bv_2978 : (814 : Int) ≤ v_2978.toInt ∧ v_2978.toInt ≤ 1861 := bq_add qv_2978 (bkc (x := 814) (c := 814) (by decide)) bv_2977 _ _ (by decide)
      have qv_2978 : v_2978.toInt = (814) + v_2977.toInt := qv_2978
      refine va_iald hx hb hK.1 hP 1 1 rfl rfl (vi bv_2978 (by decide)) dX10_testHolds_83 ?_
      refine lv_topi (fun v_2979 ev_2979 => ?_)
      have wv_2979 : v_2979.toInt = (fob_world (814 + 3 * v_2888.toInt.toNat)).toInt := by rw [ev_2979, el_at (c := 814) (a := 3) (x := v_2888) (by omega) (by omega)]
      refine lv_iconst (v := 3) hx hb dX10_testHolds_84 (by decide) ?_
      refine lv_icmp_ne (tgt := 120) hx hb dX10_testHolds_85 (by decide) (fun c_2980 => ?_) (fun c_2980 => ?_)
      · skip
        have nc_2980 := nb_ne (-2147483648) (2147483647) c_2980 (btop v_2979) (k := 3) (by decide) (by decide)
        refine lv_iload hx hb dX10_testHolds_120 (lv_at hl 2 rfl) ?_
        refine lv_iconst (v := 4) hx hb dX10_testHolds_122 (by decide) ?_
        refine lv_icmp_ne (tgt := 133) hx hb dX10_testHolds_123 (by decide) (fun c_2981 => ?_) (fun c_2981 => ?_)
        · skip
          have nc_2981 := nb_ne (-2147483648) (2147483647) c_2981 (btop v_2688) (k := 4) (by decide) (by decide)
          refine lv_iload hx hb dX10_testHolds_133 (lv_at hl 2 rfl) ?_
          refine lv_iconst (v := 2) hx hb dX10_testHolds_135 (by decide) ?_
          refine lv_icmp_ne (tgt := 147) hx hb dX10_testHolds_136 (by decide) (fun c_2982 => ?_) (fun c_2982 => ?_)
          · skip
            have nc_2982 := nb_ne (-2147483648) (2147483647) c_2982 nc_2981.1 (k := 2) (by decide) (by decide)
            refine lv_lload hx hb dX10_testHolds_147 (lv_at hl 3 rfl) ?_
            refine lv_lload hx hb dX10_testHolds_149 (lv_at hl 1 rfl) ?_
            refine lv_ladd hx hb dX10_testHolds_151 ?_
            refine lv_topl (fun v_2983 ev_2983 => ?_)
            have qv_2983 := ll_a ev_2983 (by omega)
            refine lv_lstore (lv' := [(6, .long v_2983), (2, .int v_2888), (9, .long v_2889), (8, .int v_2688), (4, .long v_2344), (3, .int v_1009), (0, .ref ob), (1, .int a1)]) hx hb dX10_testHolds_152 hl (by decide) rfl (fun ls hl => ?_)
            refine lv_lload hx hb dX10_testHolds_154 (lv_at hl 0 rfl) ?_
            refine lv_ldc2 (own := RX10) (v := (-1000000000)) hx hb hown (hw0 _ m_686) dX10_testHolds_156 ?_
            refine lv_ldc2 (own := RX10) (v := 1000000000) hx hb hown (hw0 _ m_687) dX10_testHolds_159 ?_
            refine cSim (As := [.long v_2983, .long (-1000000000), .long 1000000000]) (rest := []) ⟨hx, hb, hml, hown, hw0⟩ hA hK hP hD hS [] (sX10_in l G y _ v_2983 (-1000000000) 1000000000 ) rfl ⟨(callB_of 3 hw0 (gA m_516) rfl rfl rfl (hw0 _ m_41) (hw0 _ m_345) cb_X10_in ⟨Nat.le_of_ble_eq_true rfl, Nat.le_of_ble_eq_true rfl⟩), (hw0 _ m_346)⟩ rfl hl.1 (Nat.le_of_ble_eq_true rfl) dX10_testHolds_162 ⟨Nat.le_of_ble_eq_true rfl, Nat.le_of_ble_eq_true rfl⟩ (fun r_2984 w_2984 H locs hw_2984 hP hD hS => ?_)
            rcases hw_2984 with ⟨h_2985, rfl, rfl⟩ | ⟨h_2986, rfl, rfl⟩
            · skip
              have h_2987 : v_2983.toInt < (-1000000000 : Int) ∨ (1000000000 : Int) < v_2983.toInt := in_n h_2985 rfl (by decide) (by decide)
              obtain ⟨hP, hD⟩ : vPD G A H [(ce_X10 ob ob_thrown ob_world ob_images ob_hasImage ob_tape ob_taped ob_five ob_size ob_at ob_from ob_token ob_value ob_faultKind ob_faultPlace ob_fresh ob_parts ob_houses ob_houseMany ob_worthOf ob_byCall ob_over ob_bestSet ob_bestOver ob_bestWorth ob_row ob_tenDebts ob_tenMany ob_fewestBy ob_covered ob_queue ob_cameBy ob_parent ob_met ob_calls ob_callMany ob_calledOn ob_saved ob_many ob_width ob_numbers ob_moving), (ce_i9080 y ob_world fob_world), (ce_i6 y ob_parts fob_parts)] := ⟨hP, hD⟩
              refine lv_if_ne (tgt := 170) hx hb dX10_testHolds_165 (by decide) (fun c9 => absurd (by decide) c9) (fun _ => ?_)
              refine lv_iconst (v := 0) hx hb dX10_testHolds_168 (by decide) ?_
              exact W.zret (v := 0) hx hb hr rfl (fun t ht hW => ⟨⟨0, _, rfl, Or.inl (⟨(by have lm1 : Int32.toInt (-1) = -1 := (by decide); have l91 : Int32.toInt 1 = 1 := (by decide); have l92 : Int32.toInt 2 = 2 := (by decide); have l93 : Int32.toInt 3 = 3 := (by decide); have h90 : Int32.toInt 0 = 0 := (by decide); have z0 : Int64.toInt 0 = 0 := (by decide); exact td_f (tm_y rl2889_0 (by omega) (u := v_2983.toInt) (by omega) (by omega))), rfl, rfl⟩), by rw [ht]; exact hP, hD⟩, hS.F ht⟩) hS.2.2 dX10_testHolds_169
            · skip
              have h_2988 : (-1000000000 : Int) ≤ v_2983.toInt ∧ v_2983.toInt ≤ (1000000000 : Int) := in_y h_2986 rfl (by decide) (by decide)
              have h_2989_0 := (ltop v_2983)
              have h_2989_1 := True.intro
              have h_2989_2 := True.intro
              have h_2989 : (-1000000000 : Int) ≤ v_2983.toInt ∧ v_2983.toInt ≤ 1000000000 := by omega
              obtain ⟨hP, hD⟩ : vPD G A H [(ce_X10 ob ob_thrown ob_world ob_images ob_hasImage ob_tape ob_taped ob_five ob_size ob_at ob_from ob_token ob_value ob_faultKind ob_faultPlace ob_fresh ob_parts ob_houses ob_houseMany ob_worthOf ob_byCall ob_over ob_bestSet ob_bestOver ob_bestWorth ob_row ob_tenDebts ob_tenMany ob_fewestBy ob_covered ob_queue ob_cameBy ob_parent ob_met ob_calls ob_callMany ob_calledOn ob_saved ob_many ob_width ob_numbers ob_moving), (ce_i9080 y ob_world fob_world), (ce_i6 y ob_parts fob_parts)] := ⟨hP, hD⟩
              refine lv_if_ne (tgt := 170) hx hb dX10_testHolds_165 (by decide) (fun _ => ?_) (fun c9 => absurd c9 (by decide))
              refine lv_goto (tgt := 38) hx hb dX10_testHolds_170 (by decide) ?_
              exact ih_2676 _ (by omega) _ _ _ _ ⟨v_2983, v_2344, v_2888, rfl, (bw (0) (350) nc_2953.1 (by decide)), (by have lm1 : Int32.toInt (-1) = -1 := (by decide); have l91 : Int32.toInt 1 = 1 := (by decide); have l92 : Int32.toInt 2 = 2 := (by decide); have l93 : Int32.toInt 3 = 3 := (by decide); have z0 : Int64.toInt 0 = 0 := (by decide); exact tm_e rl2889_0 (by omega) (by omega) (by omega) ⟨by omega, by omega⟩), (by have lm1 : Int32.toInt (-1) = -1 := (by decide); have l91 : Int32.toInt 1 = 1 := (by decide); have l92 : Int32.toInt 2 = 2 := (by decide); have l93 : Int32.toInt 3 = 3 := (by decide); have z0 : Int64.toInt 0 = 0 := (by decide); omega), (by have lm1 : Int32.toInt (-1) = -1 := (by decide); have l91 : Int32.toInt 1 = 1 := (by decide); have l92 : Int32.toInt 2 = 2 := (by decide); have l93 : Int32.toInt 3 = 3 := (by decide); have z0 : Int64.toInt 0 = 0 := (by decide); omega), rfl, ⟨hP, hD⟩, hS, lv_sub hl [0, 4, 5, 1, 6, 7] rfl⟩
          · skip
            have nc_2982 := nb_eq (2) (2) c_2982 nc_2981.1 (bkc (x := 2) (c := 2) (by decide)) (by decide)
            refine lv_lload hx hb dX10_testHolds_139 (lv_at hl 3 rfl) ?_
            refine lv_lload hx hb dX10_testHolds_141 (lv_at hl 1 rfl) ?_
            refine lv_lsub hx hb dX10_testHolds_143 ?_
            refine lv_topl (fun v_2990 ev_2990 => ?_)
            have qv_2990 := ll_s ev_2990 (by omega)
            refine lv_goto (tgt := 152) hx hb dX10_testHolds_144 (by decide) ?_
            refine lv_lstore (lv' := [(6, .long v_2990), (2, .int v_2888), (9, .long v_2889), (8, .int v_2688), (4, .long v_2344), (3, .int v_1009), (0, .ref ob), (1, .int a1)]) hx hb dX10_testHolds_152 hl (by decide) rfl (fun ls hl => ?_)
            refine lv_lload hx hb dX10_testHolds_154 (lv_at hl 0 rfl) ?_
            refine lv_ldc2 (own := RX10) (v := (-1000000000)) hx hb hown (hw0 _ m_686) dX10_testHolds_156 ?_
            refine lv_ldc2 (own := RX10) (v := 1000000000) hx hb hown (hw0 _ m_687) dX10_testHolds_159 ?_
            refine cSim (As := [.long v_2990, .long (-1000000000), .long 1000000000]) (rest := []) ⟨hx, hb, hml, hown, hw0⟩ hA hK hP hD hS [] (sX10_in l G y _ v_2990 (-1000000000) 1000000000 ) rfl ⟨(callB_of 3 hw0 (gA m_516) rfl rfl rfl (hw0 _ m_41) (hw0 _ m_345) cb_X10_in ⟨Nat.le_of_ble_eq_true rfl, Nat.le_of_ble_eq_true rfl⟩), (hw0 _ m_346)⟩ rfl hl.1 (Nat.le_of_ble_eq_true rfl) dX10_testHolds_162 ⟨Nat.le_of_ble_eq_true rfl, Nat.le_of_ble_eq_true rfl⟩ (fun r_2991 w_2991 H locs hw_2991 hP hD hS => ?_)
            rcases hw_2991 with ⟨h_2992, rfl, rfl⟩ | ⟨h_2993, rfl, rfl⟩
            · skip
              have h_2994 : v_2990.toInt < (-1000000000 : Int) ∨ (1000000000 : Int) < v_2990.toInt := in_n h_2992 rfl (by decide) (by decide)
              obtain ⟨hP, hD⟩ : vPD G A H [(ce_X10 ob ob_thrown ob_world ob_images ob_hasImage ob_tape ob_taped ob_five ob_size ob_at ob_from ob_token ob_value ob_faultKind ob_faultPlace ob_fresh ob_parts ob_houses ob_houseMany ob_worthOf ob_byCall ob_over ob_bestSet ob_bestOver ob_bestWorth ob_row ob_tenDebts ob_tenMany ob_fewestBy ob_covered ob_queue ob_cameBy ob_parent ob_met ob_calls ob_callMany ob_calledOn ob_saved ob_many ob_width ob_numbers ob_moving), (ce_i9080 y ob_world fob_world), (ce_i6 y ob_parts fob_parts)] := ⟨hP, hD⟩
              refine lv_if_ne (tgt := 170) hx hb dX10_testHolds_165 (by decide) (fun c9 => absurd (by decide) c9) (fun _ => ?_)
              refine lv_iconst (v := 0) hx hb dX10_testHolds_168 (by decide) ?_
              exact W.zret (v := 0) hx hb hr rfl (fun t ht hW => ⟨⟨0, _, rfl, Or.inl (⟨(by have lm1 : Int32.toInt (-1) = -1 := (by decide); have l91 : Int32.toInt 1 = 1 := (by decide); have l92 : Int32.toInt 2 = 2 := (by decide); have l93 : Int32.toInt 3 = 3 := (by decide); have h90 : Int32.toInt 0 = 0 := (by decide); have z0 : Int64.toInt 0 = 0 := (by decide); exact td_f (tm_y rl2889_0 (by omega) (u := v_2990.toInt) (by omega) (by omega))), rfl, rfl⟩), by rw [ht]; exact hP, hD⟩, hS.F ht⟩) hS.2.2 dX10_testHolds_169
            · skip
              have h_2995 : (-1000000000 : Int) ≤ v_2990.toInt ∧ v_2990.toInt ≤ (1000000000 : Int) := in_y h_2993 rfl (by decide) (by decide)
              have h_2996_0 := (ltop v_2990)
              have h_2996_1 := True.intro
              have h_2996_2 := True.intro
              have h_2996 : (-1000000000 : Int) ≤ v_2990.toInt ∧ v_2990.toInt ≤ 1000000000 := by omega
              obtain ⟨hP, hD⟩ : vPD G A H [(ce_X10 ob ob_thrown ob_world ob_images ob_hasImage ob_tape ob_taped ob_five ob_size ob_at ob_from ob_token ob_value ob_faultKind ob_faultPlace ob_fresh ob_parts ob_houses ob_houseMany ob_worthOf ob_byCall ob_over ob_bestSet ob_bestOver ob_bestWorth ob_row ob_tenDebts ob_tenMany ob_fewestBy ob_covered ob_queue ob_cameBy ob_parent ob_met ob_calls ob_callMany ob_calledOn ob_saved ob_many ob_width ob_numbers ob_moving), (ce_i9080 y ob_world fob_world), (ce_i6 y ob_parts fob_parts)] := ⟨hP, hD⟩
              refine lv_if_ne (tgt := 170) hx hb dX10_testHolds_165 (by decide) (fun _ => ?_) (fun c9 => absurd c9 (by decide))
              refine lv_goto (tgt := 38) hx hb dX10_testHolds_170 (by decide) ?_
              exact ih_2676 _ (by omega) _ _ _ _ ⟨v_2990, v_2344, v_2888, rfl, (bw (0) (350) nc_2953.1 (by decide)), (by have lm1 : Int32.toInt (-1) = -1 := (by decide); have l91 : Int32.toInt 1 = 1 := (by decide); have l92 : Int32.toInt 2 = 2 := (by decide); have l93 : Int32.toInt 3 = 3 := (by decide); have z0 : Int64.toInt 0 = 0 := (by decide); exact tm_e rl2889_0 (by omega) (by omega) (by omega) ⟨by omega, by omega⟩), (by have lm1 : Int32.toInt (-1) = -1 := (by decide); have l91 : Int32.toInt 1 = 1 := (by decide); have l92 : Int32.toInt 2 = 2 := (by decide); have l93 : Int32.toInt 3 = 3 := (by decide); have z0 : Int64.toInt 0 = 0 := (by decide); omega), (by have lm1 : Int32.toInt (-1) = -1 := (by decide); have l91 : Int32.toInt 1 = 1 := (by decide); have l92 : Int32.toInt 2 = 2 := (by decide); have l93 : Int32.toInt 3 = 3 := (by decide); have z0 : Int64.toInt 0 = 0 := (by decide); omega), rfl, ⟨hP, hD⟩, hS, lv_sub hl [0, 4, 5, 1, 6, 7] rfl⟩
        · skip
          have nc_2981 := nb_eq (4) (4) c_2981 (btop v_2688) (bkc (x := 4) (c := 4) (by decide)) (by decide)
          refine lv_lload hx hb dX10_testHolds_126 (lv_at hl 3 rfl) ?_
          refine lv_lstore (lv' := [(4, .long v_2343), (2, .int v_2888), (9, .long v_2889), (8, .int v_2688), (6, .long v_2343), (3, .int v_1009), (0, .ref ob), (1, .int a1)]) hx hb dX10_testHolds_128 hl (by decide) rfl (fun ls hl => ?_)
          refine lv_lconst (v := 0) hx hb dX10_testHolds_130 (by decide) ?_
          refine lv_lstore (lv' := [(6, .long 0), (4, .long v_2343), (2, .int v_2888), (9, .long v_2889), (8, .int v_2688), (3, .int v_1009), (0, .ref ob), (1, .int a1)]) hx hb dX10_testHolds_131 hl (by decide) rfl (fun ls hl => ?_)
          refine lv_iload hx hb dX10_testHolds_133 (lv_at hl 4 rfl) ?_
          refine lv_iconst (v := 2) hx hb dX10_testHolds_135 (by decide) ?_
          refine lv_icmp_ne (tgt := 147) hx hb dX10_testHolds_136 (by decide) (fun _ => ?_) (fun c9 => absurd c9 (dc_neq nc_2981.1 (bkc (x := 2) (c := 2) (by decide)) (by decide)))
          refine lv_lload hx hb dX10_testHolds_147 (lv_at hl 0 rfl) ?_
          refine lv_lload hx hb dX10_testHolds_149 (lv_at hl 3 rfl) ?_
          refine lv_ladd hx hb dX10_testHolds_151 ?_
          refine lv_topl (fun v_2997 ev_2997 => ?_)
          have qv_2997 := ll_a ev_2997 (by have h80 : Int64.toInt 0 = 0 := (by decide); omega)
          refine lv_lstore (lv' := [(6, .long v_2997), (4, .long v_2343), (2, .int v_2888), (9, .long v_2889), (8, .int v_2688), (3, .int v_1009), (0, .ref ob), (1, .int a1)]) hx hb dX10_testHolds_152 hl (by decide) rfl (fun ls hl => ?_)
          refine lv_lload hx hb dX10_testHolds_154 (lv_at hl 0 rfl) ?_
          refine lv_ldc2 (own := RX10) (v := (-1000000000)) hx hb hown (hw0 _ m_686) dX10_testHolds_156 ?_
          refine lv_ldc2 (own := RX10) (v := 1000000000) hx hb hown (hw0 _ m_687) dX10_testHolds_159 ?_
          refine cSim (As := [.long v_2997, .long (-1000000000), .long 1000000000]) (rest := []) ⟨hx, hb, hml, hown, hw0⟩ hA hK hP hD hS [] (sX10_in l G y _ v_2997 (-1000000000) 1000000000 ) rfl ⟨(callB_of 3 hw0 (gA m_516) rfl rfl rfl (hw0 _ m_41) (hw0 _ m_345) cb_X10_in ⟨Nat.le_of_ble_eq_true rfl, Nat.le_of_ble_eq_true rfl⟩), (hw0 _ m_346)⟩ rfl hl.1 (Nat.le_of_ble_eq_true rfl) dX10_testHolds_162 ⟨Nat.le_of_ble_eq_true rfl, Nat.le_of_ble_eq_true rfl⟩ (fun r_2998 w_2998 H locs hw_2998 hP hD hS => ?_)
          rcases hw_2998 with ⟨h_2999, rfl, rfl⟩ | ⟨h_3000, rfl, rfl⟩
          · skip
            have h_3001 : v_2997.toInt < (-1000000000 : Int) ∨ (1000000000 : Int) < v_2997.toInt := in_n h_2999 rfl (by decide) (by decide)
            obtain ⟨hP, hD⟩ : vPD G A H [(ce_X10 ob ob_thrown ob_world ob_images ob_hasImage ob_tape ob_taped ob_five ob_size ob_at ob_from ob_token ob_value ob_faultKind ob_faultPlace ob_fresh ob_parts ob_houses ob_houseMany ob_worthOf ob_byCall ob_over ob_bestSet ob_bestOver ob_bestWorth ob_row ob_tenDebts ob_tenMany ob_fewestBy ob_covered ob_queue ob_cameBy ob_parent ob_met ob_calls ob_callMany ob_calledOn ob_saved ob_many ob_width ob_numbers ob_moving), (ce_i9080 y ob_world fob_world), (ce_i6 y ob_parts fob_parts)] := ⟨hP, hD⟩
            refine lv_if_ne (tgt := 170) hx hb dX10_testHolds_165 (by decide) (fun c9 => absurd (by decide) c9) (fun _ => ?_)
            refine lv_iconst (v := 0) hx hb dX10_testHolds_168 (by decide) ?_
            exact W.zret (v := 0) hx hb hr rfl (fun t ht hW => ⟨⟨0, _, rfl, Or.inl (⟨(by have lm1 : Int32.toInt (-1) = -1 := (by decide); have l91 : Int32.toInt 1 = 1 := (by decide); have l92 : Int32.toInt 2 = 2 := (by decide); have l93 : Int32.toInt 3 = 3 := (by decide); have h90 : Int32.toInt 0 = 0 := (by decide); have z0 : Int64.toInt 0 = 0 := (by decide); exact td_f (tm_y rl2889_0 (by omega) (u := v_2997.toInt) (by omega) (by omega))), rfl, rfl⟩), by rw [ht]; exact hP, hD⟩, hS.F ht⟩) hS.2.2 dX10_testHolds_169
          · skip
            have h_3002 : (-1000000000 : Int) ≤ v_2997.toInt ∧ v_2997.toInt ≤ (1000000000 : Int) := in_y h_3000 rfl (by decide) (by decide)
            have h_3003_0 := (ltop v_2997)
            have h_3003_1 := True.intro
            have h_3003_2 := True.intro
            have h_3003 : (-1000000000 : Int) ≤ v_2997.toInt ∧ v_2997.toInt ≤ 1000000000 := by omega
            obtain ⟨hP, hD⟩ : vPD G A H [(ce_X10 ob ob_thrown ob_world ob_images ob_hasImage ob_tape ob_taped ob_five ob_size ob_at ob_from ob_token ob_value ob_faultKind ob_faultPlace ob_fresh ob_parts ob_houses ob_houseMany ob_worthOf ob_byCall ob_over ob_bestSet ob_bestOver ob_bestWorth ob_row ob_tenDebts ob_tenMany ob_fewestBy ob_covered ob_queue ob_cameBy ob_parent ob_met ob_calls ob_callMany ob_calledOn ob_saved ob_many ob_width ob_numbers ob_moving), (ce_i9080 y ob_world fob_world), (ce_i6 y ob_parts fob_parts)] := ⟨hP, hD⟩
            refine lv_if_ne (tgt := 170) hx hb dX10_testHolds_165 (by decide) (fun _ => ?_) (fun c9 => absurd c9 (by decide))
            refine lv_goto (tgt := 38) hx hb dX10_testHolds_170 (by decide) ?_
            exact ih_2676 _ (by omega) _ _ _ _ ⟨v_2997, v_2343, v_2888, rfl, (bw (0) (350) nc_2953.1 (by decide)), (by have lm1 : Int32.toInt (-1) = -1 := (by decide); have l91 : Int32.toInt 1 = 1 := (by decide); have l92 : Int32.toInt 2 = 2 := (by decide); have l93 : Int32.toInt 3 = 3 := (by decide); have z0 : Int64.toInt 0 = 0 := (by decide); exact tm_e rl2889_0 (by omega) (by omega) (by omega) ⟨by omega, by omega⟩), (by have lm1 : Int32.toInt (-1) = -1 := (by decide); have l91 : Int32.toInt 1 = 1 := (by decide); have l92 : Int32.toInt 2 = 2 := (by decide); have l93 : Int32.toInt 3 = 3 := (by decide); have z0 : Int64.toInt 0 = 0 := (by decide); omega), (by have lm1 : Int32.toInt (-1) = -1 := (by decide); have l91 : Int32.toInt 1 = 1 := (by decide); have l92 : Int32.toInt 2 = 2 := (by decide); have l93 : Int32.toInt 3 = 3 := (by decide); have z0 : Int64.toInt 0 = 0 := (by decide); omega), rfl, ⟨hP, hD⟩, hS, lv_sub hl [0, 1, 5, 2, 6, 7] rfl⟩
      · skip
        have nc_2980 := nb_eq (3) (3) c_2980 (btop v_2979) (bkc (x := 3) (c := 3) (by decide)) (by decide)
        refine lv_lload hx hb dX10_testHolds_88 (lv_at hl 1 rfl) ?_
        refine lv_aload_n hx hb dX10_testHolds_90 rfl (lv_at hl 6 rfl) ?_
        refine lv_iload_n hx hb dX10_testHolds_91 rfl (lv_at hl 0 rfl) ?_
        refine cVlm (As := [.int v_2888]) (rest := [.long v_2889]) ⟨hx, hb, hml, hown, hw0⟩ hA hK hP hD hS [true, true, true] (hpartOf l G y _ ob v_2888 ob_thrown ob_world ob_images ob_hasImage ob_tape ob_taped ob_five ob_size ob_at ob_from ob_token ob_value ob_faultKind ob_faultPlace ob_fresh ob_parts ob_houses ob_houseMany ob_worthOf ob_byCall ob_over ob_bestSet ob_bestOver ob_bestWorth ob_row ob_tenDebts ob_tenMany ob_fewestBy ob_covered ob_queue ob_cameBy ob_parent ob_met ob_calls ob_callMany ob_calledOn ob_saved ob_many ob_width ob_numbers ob_moving fob_world fob_parts p_fob_world p_ob_taped p_ob_size p_ob_at p_ob_from p_ob_token p_ob_value p_ob_faultKind p_ob_houseMany p_ob_bestSet p_ob_bestOver p_ob_tenMany p_ob_callMany nc_2953.1) rfl ⟨(callB_of 1 hw0 (gA m_587) rfl rfl rfl (hw0 _ m_41) (hw0 _ m_683) cb_X10_partOf ⟨Nat.le_of_ble_eq_true rfl, Nat.le_of_ble_eq_true rfl⟩), (hw0 _ m_684), (hw0 _ m_685)⟩ (ci := 10) (q := (RX10, TX10, 41)) rfl rfl rfl hl.1 (Nat.le_of_ble_eq_true rfl) dX10_testHolds_92 ⟨Nat.le_of_ble_eq_true rfl, Nat.le_of_ble_eq_true rfl⟩ (fun r_3004 w_3004 H locs hw_3004 hP hD hS => ?_)
        obtain ⟨v_3005, h_3006, h_3007, er_3004, rfl⟩ := hw_3004
        subst r_3004
        obtain ⟨hP, hD⟩ : vPD G A H [(ce_X10 ob ob_thrown ob_world ob_images ob_hasImage ob_tape ob_taped ob_five ob_size ob_at ob_from ob_token ob_value ob_faultKind ob_faultPlace ob_fresh ob_parts ob_houses ob_houseMany ob_worthOf ob_byCall ob_over ob_bestSet ob_bestOver ob_bestWorth ob_row ob_tenDebts ob_tenMany ob_fewestBy ob_covered ob_queue ob_cameBy ob_parent ob_met ob_calls ob_callMany ob_calledOn ob_saved ob_many ob_width ob_numbers ob_moving), (ce_i9080 y ob_world fob_world), (ce_i6 y ob_parts fob_parts)] := ⟨hP, hD⟩
        refine lv_lmul hx hb dX10_testHolds_95 ?_
        refine lv_topl (fun v_3008 ev_3008 => ?_)
        have qv_3008 := ll_mm ev_3008 (by omega) (by omega)
        refine lv_lstore (lv' := [(9, .long v_3008), (2, .int v_2888), (8, .int v_2688), (6, .long v_2343), (4, .long v_2344), (3, .int v_1009), (0, .ref ob), (1, .int a1)]) hx hb dX10_testHolds_96 hl (by decide) rfl (fun ls hl => ?_)
        refine lv_lload hx hb dX10_testHolds_98 (lv_at hl 0 rfl) ?_
        refine lv_ldc2 (own := RX10) (v := (-1000000000)) hx hb hown (hw0 _ m_686) dX10_testHolds_100 ?_
        refine lv_ldc2 (own := RX10) (v := 1000000000) hx hb hown (hw0 _ m_687) dX10_testHolds_103 ?_
        refine cSim (As := [.long v_3008, .long (-1000000000), .long 1000000000]) (rest := []) ⟨hx, hb, hml, hown, hw0⟩ hA hK hP hD hS [] (sX10_in l G y _ v_3008 (-1000000000) 1000000000 ) rfl ⟨(callB_of 3 hw0 (gA m_516) rfl rfl rfl (hw0 _ m_41) (hw0 _ m_345) cb_X10_in ⟨Nat.le_of_ble_eq_true rfl, Nat.le_of_ble_eq_true rfl⟩), (hw0 _ m_346)⟩ rfl hl.1 (Nat.le_of_ble_eq_true rfl) dX10_testHolds_106 ⟨Nat.le_of_ble_eq_true rfl, Nat.le_of_ble_eq_true rfl⟩ (fun r_3009 w_3009 H locs hw_3009 hP hD hS => ?_)
        rcases hw_3009 with ⟨h_3010, rfl, rfl⟩ | ⟨h_3011, rfl, rfl⟩
        · skip
          have h_3012 : v_3008.toInt < (-1000000000 : Int) ∨ (1000000000 : Int) < v_3008.toInt := in_n h_3010 rfl (by decide) (by decide)
          obtain ⟨hP, hD⟩ : vPD G A H [(ce_X10 ob ob_thrown ob_world ob_images ob_hasImage ob_tape ob_taped ob_five ob_size ob_at ob_from ob_token ob_value ob_faultKind ob_faultPlace ob_fresh ob_parts ob_houses ob_houseMany ob_worthOf ob_byCall ob_over ob_bestSet ob_bestOver ob_bestWorth ob_row ob_tenDebts ob_tenMany ob_fewestBy ob_covered ob_queue ob_cameBy ob_parent ob_met ob_calls ob_callMany ob_calledOn ob_saved ob_many ob_width ob_numbers ob_moving), (ce_i9080 y ob_world fob_world), (ce_i6 y ob_parts fob_parts)] := ⟨hP, hD⟩
          refine lv_if_ne (tgt := 114) hx hb dX10_testHolds_109 (by decide) (fun c9 => absurd (by decide) c9) (fun _ => ?_)
          refine lv_iconst (v := 0) hx hb dX10_testHolds_112 (by decide) ?_
          exact W.zret (v := 0) hx hb hr rfl (fun t ht hW => ⟨⟨0, _, rfl, Or.inl (⟨(by have lm1 : Int32.toInt (-1) = -1 := (by decide); have l91 : Int32.toInt 1 = 1 := (by decide); have l92 : Int32.toInt 2 = 2 := (by decide); have l93 : Int32.toInt 3 = 3 := (by decide); have h90 : Int32.toInt 0 = 0 := (by decide); have z0 : Int64.toInt 0 = 0 := (by decide); exact td_f (tm_x rl2889_0 (by omega) (by omega) (by omega) qv_3008.1 h_3006 (by omega))), rfl, rfl⟩), by rw [ht]; exact hP, hD⟩, hS.F ht⟩) hS.2.2 dX10_testHolds_113
        · skip
          have h_3013 : (-1000000000 : Int) ≤ v_3008.toInt ∧ v_3008.toInt ≤ (1000000000 : Int) := in_y h_3011 rfl (by decide) (by decide)
          have h_3014_0 := (ltop v_3008)
          have h_3014_1 := True.intro
          have h_3014_2 := True.intro
          have h_3014 : (-1000000000 : Int) ≤ v_3008.toInt ∧ v_3008.toInt ≤ 1000000000 := by omega
          obtain ⟨hP, hD⟩ : vPD G A H [(ce_X10 ob ob_thrown ob_world ob_images ob_hasImage ob_tape ob_taped ob_five ob_size ob_at ob_from ob_token ob_value ob_faultKind ob_faultPlace ob_fresh ob_parts ob_houses ob_houseMany ob_worthOf ob_byCall ob_over ob_bestSet ob_bestOver ob_bestWorth ob_row ob_tenDebts ob_tenMany ob_fewestBy ob_covered ob_queue ob_cameBy ob_parent ob_met ob_calls ob_callMany ob_calledOn ob_saved ob_many ob_width ob_numbers ob_moving), (ce_i9080 y ob_world fob_world), (ce_i6 y ob_parts fob_parts)] := ⟨hP, hD⟩
          refine lv_if_ne (tgt := 114) hx hb dX10_testHolds_109 (by decide) (fun _ => ?_) (fun c9 => absurd c9 (by decide))
          obtain ⟨v_3015, ev_3015⟩ : ∃ z : Int32, z = v_2888 + 1 := ⟨_, rfl⟩
          have qv_3015 := ba_add ev_3015 nc_2953.1 (bkc (x := 1) (c := 1) (by decide)) (by decide)
          have bv_3015 : (1 : Int) ≤ v_3015.toInt ∧ v_3015.toInt ≤ 350 := bq_add qv_3015 nc_2953.1 (bkc (x := 1) (c := 1) (by decide)) _ _ (by decide)
          have qv_3015 : v_3015.toInt = v_2888.toInt + (1) := qv_3015
          refine lv_iinc (v := v_3015) (lv' := [(2, .int v_3015), (9, .long v_3008), (8, .int v_2688), (6, .long v_2343), (4, .long v_2344), (3, .int v_1009), (0, .ref ob), (1, .int a1)]) hx hb dX10_testHolds_114 hl (k := 1) rfl (ev_3015.symm) (by decide) rfl (fun ls hl => ?_)
          refine lv_goto (tgt := 67) hx hb dX10_testHolds_117 (by decide) ?_
          exact ih_2952 _ (ml_inc (hi := 350) hn_2952 qv_3015 (by decide) ((bw (0) (350) bv_3015 (by decide))).2) _ _ _ _ ⟨v_3015, v_3008, rfl, (bw (0) (350) bv_3015 (by decide)), (by have lm1 : Int32.toInt (-1) = -1 := (by decide); have l91 : Int32.toInt 1 = 1 := (by decide); have l92 : Int32.toInt 2 = 2 := (by decide); have l93 : Int32.toInt 3 = 3 := (by decide); have z0 : Int64.toInt 0 = 0 := (by decide); exact tm_t rl2889_0 (by omega) (by omega) (by omega) qv_3008.1 h_3006 ⟨by omega, by omega⟩ (by omega)), (by omega), (by omega), (by omega), (by omega), (by omega), rfl, ⟨hP, hD⟩, hS, lv_sub hl [0, 1, 2, 3, 4, 5, 6, 7] rfl⟩

set_option maxHeartbeats 4000000 in
set_option maxRecDepth 100000 in
theorem gofHouse2 (l : Launch) (G : va_G) (y : Nat → ClassId) (sz : Nat) (ob : Nat) (a1 : Int32) (ob_thrown : Int32) (ob_world : Nat) (ob_images : Nat) (ob_hasImage : Nat) (ob_tape : Nat) (ob_taped : Int32) (ob_five : Nat) (ob_size : Int32) (ob_at : Int32) (ob_from : Int32) (ob_token : Int32) (ob_value : Int32) (ob_faultKind : Int32) (ob_faultPlace : Int32) (ob_fresh : Nat) (ob_parts : Nat) (ob_houses : Nat) (ob_houseMany : Int32) (ob_worthOf : Nat) (ob_byCall : Nat) (ob_over : Nat) (ob_bestSet : Int32) (ob_bestOver : Int32) (ob_bestWorth : Int32) (ob_row : Nat) (ob_tenDebts : Nat) (ob_tenMany : Int32) (ob_fewestBy : Nat) (ob_covered : Nat) (ob_queue : Nat) (ob_cameBy : Nat) (ob_parent : Nat) (ob_met : Nat) (ob_calls : Nat) (ob_callMany : Int32) (ob_calledOn : Nat) (ob_saved : Nat) (ob_many : Nat) (ob_width : Nat) (ob_numbers : Nat) (ob_moving : Nat) (fob_world : Nat → Int32) (p_fob_world : RWw fob_world) (p_ob_taped : (0 : Int) ≤ ob_taped.toInt ∧ ob_taped.toInt ≤ 1400) (p_ob_size : (0 : Int) ≤ ob_size.toInt ∧ ob_size.toInt ≤ 1400) (p_ob_at : (0 : Int) ≤ ob_at.toInt ∧ ob_at.toInt ≤ 1400) (p_ob_from : (0 : Int) ≤ ob_from.toInt ∧ ob_from.toInt ≤ 1400) (p_ob_token : (0 : Int) ≤ ob_token.toInt ∧ ob_token.toInt ≤ 4) (p_ob_value : (0 : Int) ≤ ob_value.toInt ∧ ob_value.toInt ≤ 9999) (p_ob_faultKind : (0 : Int) ≤ ob_faultKind.toInt ∧ ob_faultKind.toInt ≤ 3) (p_ob_houseMany : (0 : Int) ≤ ob_houseMany.toInt ∧ ob_houseMany.toInt ≤ 10) (p_ob_bestSet : (0 : Int) ≤ ob_bestSet.toInt ∧ ob_bestSet.toInt ≤ 1023) (p_ob_bestOver : (-1 : Int) ≤ ob_bestOver.toInt ∧ ob_bestOver.toInt ≤ 180) (p_ob_tenMany : (0 : Int) ≤ ob_tenMany.toInt ∧ ob_tenMany.toInt ≤ 10) (p_ob_callMany : (0 : Int) ≤ ob_callMany.toInt ∧ ob_callMany.toInt ≤ 16) (p_a1 : (0 : Int) ≤ a1.toInt ∧ a1.toInt ≤ 15) : Met l yX10_ofHouse (Cond.code yX10_ofHouse cX10_ofHouse 3 (some .int) :: wAll) ({ frames := 0, cells := 0, slots := 0, locals := 0 }) (va_Pc [.ref ob, .int a1, .int 2] (kp G y sz [(ce_X10 ob ob_thrown ob_world ob_images ob_hasImage ob_tape ob_taped ob_five ob_size ob_at ob_from ob_token ob_value ob_faultKind ob_faultPlace ob_fresh ob_parts ob_houses ob_houseMany ob_worthOf ob_byCall ob_over ob_bestSet ob_bestOver ob_bestWorth ob_row ob_tenDebts ob_tenMany ob_fewestBy ob_covered ob_queue ob_cameBy ob_parent ob_met ob_calls ob_callMany ob_calledOn ob_saved ob_many ob_width ob_numbers ob_moving), (ce_i9080 y ob_world fob_world)])) (va_Qi (fun (r : Int32) (w : va_W) => (∃ (v_9 : Int32), ((0 : Int) ≤ v_9.toInt ∧ v_9.toInt ≤ 9) ∧ ((v_9 : Int32).toInt = (fob_world (12 + 9 * a1.toInt.toNat)).toInt) ∧ r = v_9 ∧ w = [(ce_X10 ob ob_thrown ob_world ob_images ob_hasImage ob_tape ob_taped ob_five ob_size ob_at ob_from ob_token ob_value ob_faultKind ob_faultPlace ob_fresh ob_parts ob_houses ob_houseMany ob_worthOf ob_byCall ob_over ob_bestSet ob_bestOver ob_bestWorth ob_row ob_tenDebts ob_tenMany ob_fewestBy ob_covered ob_queue ob_cameBy ob_parent ob_met ob_calls ob_callMany ob_calledOn ob_saved ob_many ob_width ob_numbers ob_moving), (ce_i9080 y ob_world fob_world)])) (kq G (va_A [(ce_X10 ob ob_thrown ob_world ob_images ob_hasImage ob_tape ob_taped ob_five ob_size ob_at ob_from ob_token ob_value ob_faultKind ob_faultPlace ob_fresh ob_parts ob_houses ob_houseMany ob_worthOf ob_byCall ob_over ob_bestSet ob_bestOver ob_bestWorth ob_row ob_tenDebts ob_tenMany ob_fewestBy ob_covered ob_queue ob_cameBy ob_parent ob_met ob_calls ob_callMany ob_calledOn ob_saved ob_many ob_width ob_numbers ob_moving), (ce_i9080 y ob_world fob_world)] sz)) (va_A [(ce_X10 ob ob_thrown ob_world ob_images ob_hasImage ob_tape ob_taped ob_five ob_size ob_at ob_from ob_token ob_value ob_faultKind ob_faultPlace ob_fresh ob_parts ob_houses ob_houseMany ob_worthOf ob_byCall ob_over ob_bestSet ob_bestOver ob_bestWorth ob_row ob_tenDebts ob_tenMany ob_fewestBy ob_covered ob_queue ob_cameBy ob_parent ob_met ob_calls ob_callMany ob_calledOn ob_saved ob_many ob_width ob_numbers ob_moving), (ce_i9080 y ob_world fob_world)] sz)) 0 0 (va_A [(ce_X10 ob ob_thrown ob_world ob_images ob_hasImage ob_tape ob_taped ob_five ob_size ob_at ob_from ob_token ob_value ob_faultKind ob_faultPlace ob_fresh ob_parts ob_houses ob_houseMany ob_worthOf ob_byCall ob_over ob_bestSet ob_bestOver ob_bestWorth ob_row ob_tenDebts ob_tenMany ob_fewestBy ob_covered ob_queue ob_cameBy ob_parent ob_met ob_calls ob_callMany ob_calledOn ob_saved ob_many ob_width ob_numbers ob_moving), (ce_i9080 y ob_world fob_world)] sz) := by
  refine Met.ofW (cc := cX10_ofHouse) (maxL := 3) (ret := (some .int)) (by decide) rfl ?_
  intro p e s m args below meth c s₁ B hml hv
  obtain ⟨rfl, hsz, hP, hK, hD0⟩ := hv
  have hx := B.exec
  have hb := B.bytes
  have hr := B.returns
  have hw0 : ∀ w ∈ wAll, w.before _ s = true := fun w h => atoms_spec (ws := Cond.code yX10_ofHouse cX10_ofHouse 3 (some .int) :: wAll) B.pre w (List.mem_cons_of_mem _ h)
  have hown : s.vm.findClass RX10 = some m.cls := findClass_of_methodNamed B.named
  subst hsz
  have hD := hD0.self (sz := s.heap.size)
  generalize hAe : va_A [(ce_X10 ob ob_thrown ob_world ob_images ob_hasImage ob_tape ob_taped ob_five ob_size ob_at ob_from ob_token ob_value ob_faultKind ob_faultPlace ob_fresh ob_parts ob_houses ob_houseMany ob_worthOf ob_byCall ob_over ob_bestSet ob_bestOver ob_bestWorth ob_row ob_tenDebts ob_tenMany ob_fewestBy ob_covered ob_queue ob_cameBy ob_parent ob_met ob_calls ob_callMany ob_calledOn ob_saved ob_many ob_width ob_numbers ob_moving), (ce_i9080 y ob_world fob_world)] s.heap.size = A at hD ⊢
  have hA : ∀ q : Nat, s.heap.size ≤ q → A q := fun q h => by rw [← hAe]; exact Or.inr h
  have hS : va_S A s.heap s.heap [] := va_S.rf
  have hP : va_P G vwCl [(ce_X10 ob ob_thrown ob_world ob_images ob_hasImage ob_tape ob_taped ob_five ob_size ob_at ob_from ob_token ob_value ob_faultKind ob_faultPlace ob_fresh ob_parts ob_houses ob_houseMany ob_worthOf ob_byCall ob_over ob_bestSet ob_bestOver ob_bestWorth ob_row ob_tenDebts ob_tenMany ob_fewestBy ob_covered ob_queue ob_cameBy ob_parent ob_met ob_calls ob_callMany ob_calledOn ob_saved ob_many ob_width ob_numbers ob_moving), (ce_i9080 y ob_world fob_world)] s.heap := hP
  have hl := lv_entry ([.ref ob, .int a1, .int 2]) (n := 3) (Nat.le_of_ble_eq_true rfl)
  rw [lg_entry_eq]
  generalize (lg_sl ([.ref ob, .int a1, .int 2]) ++ List.replicate (3 - (lg_sl ([.ref ob, .int a1, .int 2])).length) Slot.unset).toArray = ls at hl ⊢
  have hl : lv_has ls 3 [(0, .ref ob), (1, .int a1), (2, .int 2)] := hl
  refine lv_aload_n hx hb dX10_ofHouse_0 rfl (lv_at hl 0 rfl) ?_
  refine va_get (D := G) (ci := 10) (v := .ref ob_world) (C := RX10) (T := TX10) (N := 41) hx hb hw0 inA_wsX100 hown hK.1 hP 0 rfl rfl 1 (by decide) (hw0 _ m_352) (fun _ h9 => h9) rfl dX10_ofHouse_1 ?_
  refine lv_bipush (v := 10) hx hb dX10_ofHouse_4 (by decide) ?_
  refine lv_bipush (v := 9) hx hb dX10_ofHouse_6 (by decide) ?_
  refine lv_iload_n hx hb dX10_ofHouse_8 rfl (lv_at hl 1 rfl) ?_
  refine lv_imul hx hb dX10_ofHouse_9 ?_
  refine lv_topi (fun v_1001 ev_1001 => ?_)
  have qv_1001 := ba_mul 9 (ev_1001.trans (Int32.mul_comm _ _)) p_a1 (by decide) (by decide) (by decide)
  have bv_1001 : (0 : Int) ≤ v_1001.toInt ∧ v_1001.toInt ≤ 135 := qv_1001.2
  refine lv_iadd hx hb dX10_ofHouse_10 ?_
  refine lv_topi (fun v_1002 ev_1002 => ?_)
  have qv_1002 := ba_add ev_1002 (bkc (x := 10) (c := 10) (by decide)) bv_1001 (by decide)
  have bv_1002 : (10 : Int) ≤ v_1002.toInt ∧ v_1002.toInt ≤ 145 := bq_add qv_1002 (bkc (x := 10) (c := 10) (by decide)) bv_1001 _ _ (by decide)
  have qv_1002 : v_1002.toInt = (10) + v_1001.toInt := qv_1002
  refine lv_iload_n hx hb dX10_ofHouse_11 rfl (lv_at hl 2 rfl) ?_
  refine lv_iadd hx hb dX10_ofHouse_12 ?_
  refine lv_topi (fun v_1003 ev_1003 => ?_)
  have qv_1003 := ba_add ev_1003 bv_1002 (bkc (x := 2) (c := 2) (by decide)) (by decide)
  have bv_1003 : (12 : Int) ≤ v_1003.toInt ∧ v_1003.toInt ≤ 147 := bq_add qv_1003 bv_1002 (bkc (x := 2) (c := 2) (by decide)) _ _ (by decide)
  have qv_1003 : v_1003.toInt = v_1002.toInt + (2) := qv_1003
  refine va_iald hx hb hK.1 hP 1 1 rfl rfl (vi bv_1003 (by decide)) dX10_ofHouse_13 ?_
  refine lv_topi (fun v_1004 ev_1004 => ?_)
  have bv_1004 : (0 : Int) ≤ v_1004.toInt ∧ v_1004.toInt ≤ 9 := rdw ev_1004 (p_fob_world).1.1 pl_2 (by omega) (p_a1)
  have wv_1004 : v_1004.toInt = (fob_world (12 + 9 * a1.toInt.toNat)).toInt := by rw [ev_1004, el_at (c := 12) (a := 9) (x := a1) (by omega) (by omega)]
  exact W.iret (v := v_1004) hx hb hr (fun t ht hW => ⟨⟨v_1004, _, rfl, ⟨v_1004, bv_1004, wv_1004, rfl, rfl⟩, by rw [ht]; exact hP, hD⟩, hS.F ht⟩) hS.2.2 dX10_ofHouse_14

set_option maxHeartbeats 4000000 in
set_option maxRecDepth 100000 in
theorem hlineFor (l : Launch) (G : va_G) (y : Nat → ClassId) (sz : Nat) (ob : Nat) (a1 : Int32) (a2 : Int32) (a3 : Int32) (a4 : Int32) (a5 : Int32) (ob_thrown : Int32) (ob_world : Nat) (ob_images : Nat) (ob_hasImage : Nat) (ob_tape : Nat) (ob_taped : Int32) (ob_five : Nat) (ob_size : Int32) (ob_at : Int32) (ob_from : Int32) (ob_token : Int32) (ob_value : Int32) (ob_faultKind : Int32) (ob_faultPlace : Int32) (ob_fresh : Nat) (ob_parts : Nat) (ob_houses : Nat) (ob_houseMany : Int32) (ob_worthOf : Nat) (ob_byCall : Nat) (ob_over : Nat) (ob_bestSet : Int32) (ob_bestOver : Int32) (ob_bestWorth : Int32) (ob_row : Nat) (ob_tenDebts : Nat) (ob_tenMany : Int32) (ob_fewestBy : Nat) (ob_covered : Nat) (ob_queue : Nat) (ob_cameBy : Nat) (ob_parent : Nat) (ob_met : Nat) (ob_calls : Nat) (ob_callMany : Int32) (ob_calledOn : Nat) (ob_saved : Nat) (ob_many : Nat) (ob_width : Nat) (ob_numbers : Nat) (ob_moving : Nat) (fob_world : Nat → Int32) (fob_parts : Nat → Int32) (p_fob_world : RWw fob_world) (p_ob_taped : (0 : Int) ≤ ob_taped.toInt ∧ ob_taped.toInt ≤ 1400) (p_ob_size : (0 : Int) ≤ ob_size.toInt ∧ ob_size.toInt ≤ 1400) (p_ob_at : (0 : Int) ≤ ob_at.toInt ∧ ob_at.toInt ≤ 1400) (p_ob_from : (0 : Int) ≤ ob_from.toInt ∧ ob_from.toInt ≤ 1400) (p_ob_token : (0 : Int) ≤ ob_token.toInt ∧ ob_token.toInt ≤ 4) (p_ob_value : (0 : Int) ≤ ob_value.toInt ∧ ob_value.toInt ≤ 9999) (p_ob_faultKind : (0 : Int) ≤ ob_faultKind.toInt ∧ ob_faultKind.toInt ≤ 3) (p_ob_houseMany : (0 : Int) ≤ ob_houseMany.toInt ∧ ob_houseMany.toInt ≤ 10) (p_ob_bestSet : (0 : Int) ≤ ob_bestSet.toInt ∧ ob_bestSet.toInt ≤ 1023) (p_ob_bestOver : (-1 : Int) ≤ ob_bestOver.toInt ∧ ob_bestOver.toInt ≤ 180) (p_ob_tenMany : (0 : Int) ≤ ob_tenMany.toInt ∧ ob_tenMany.toInt ≤ 10) (p_ob_callMany : (0 : Int) ≤ ob_callMany.toInt ∧ ob_callMany.toInt ≤ 16) (p_a1 : (0 : Int) ≤ a1.toInt ∧ a1.toInt ≤ 15) (p_a2 : (0 : Int) ≤ a2.toInt ∧ a2.toInt ≤ 15) (p_a4 : (0 : Int) ≤ a4.toInt ∧ a4.toInt ≤ 1) (p_a5 : (0 : Int) ≤ a5.toInt ∧ a5.toInt ≤ 399) : Met l yX10_lineFor (Cond.code yX10_lineFor cX10_lineFor 10 (some .int) :: wAll) ({ frames := 2, cells := 0, slots := 0, locals := 55 }) (va_Pc [.ref ob, .int a1, .int a2, .int a3, .int a4, .int a5] (kp G y sz [(ce_X10 ob ob_thrown ob_world ob_images ob_hasImage ob_tape ob_taped ob_five ob_size ob_at ob_from ob_token ob_value ob_faultKind ob_faultPlace ob_fresh ob_parts ob_houses ob_houseMany ob_worthOf ob_byCall ob_over ob_bestSet ob_bestOver ob_bestWorth ob_row ob_tenDebts ob_tenMany ob_fewestBy ob_covered ob_queue ob_cameBy ob_parent ob_met ob_calls ob_callMany ob_calledOn ob_saved ob_many ob_width ob_numbers ob_moving), (ce_i9080 y ob_world fob_world), (ce_i6 y ob_parts fob_parts)])) (va_Qi (fun (r : Int32) (w : va_W) => (∃ (v_895 : Int32) (f_896 : Nat → Int32), ((-1 : Int) ≤ v_895.toInt ∧ v_895.toInt ≤ 23) ∧ (∀ C L, cdM fob_world C → mB fob_world L → (v_895 : Int32).toInt = lnr a3.toInt (fct (fob_world (12 + 9 * a1.toInt.toNat)).toInt (fob_world (12 + 9 * a2.toInt.toNat)).toInt (cnt (ofB a2.toInt) L) a5.toInt a4.toInt) C 0) ∧ (-1 ≤ (v_895 : Int32).toInt ∧ (v_895 : Int32).toInt ≤ 23) ∧ r = v_895 ∧ w = [(ce_X10 ob ob_thrown ob_world ob_images ob_hasImage ob_tape ob_taped ob_five ob_size ob_at ob_from ob_token ob_value ob_faultKind ob_faultPlace ob_fresh ob_parts ob_houses ob_houseMany ob_worthOf ob_byCall ob_over ob_bestSet ob_bestOver ob_bestWorth ob_row ob_tenDebts ob_tenMany ob_fewestBy ob_covered ob_queue ob_cameBy ob_parent ob_met ob_calls ob_callMany ob_calledOn ob_saved ob_many ob_width ob_numbers ob_moving), (ce_i9080 y ob_world fob_world), (ce_i6 y ob_parts f_896)])) (kq G (va_A [(ce_X10 ob ob_thrown ob_world ob_images ob_hasImage ob_tape ob_taped ob_five ob_size ob_at ob_from ob_token ob_value ob_faultKind ob_faultPlace ob_fresh ob_parts ob_houses ob_houseMany ob_worthOf ob_byCall ob_over ob_bestSet ob_bestOver ob_bestWorth ob_row ob_tenDebts ob_tenMany ob_fewestBy ob_covered ob_queue ob_cameBy ob_parent ob_met ob_calls ob_callMany ob_calledOn ob_saved ob_many ob_width ob_numbers ob_moving), (ce_i9080 y ob_world fob_world), (ce_i6 y ob_parts fob_parts)] sz)) (va_A [(ce_X10 ob ob_thrown ob_world ob_images ob_hasImage ob_tape ob_taped ob_five ob_size ob_at ob_from ob_token ob_value ob_faultKind ob_faultPlace ob_fresh ob_parts ob_houses ob_houseMany ob_worthOf ob_byCall ob_over ob_bestSet ob_bestOver ob_bestWorth ob_row ob_tenDebts ob_tenMany ob_fewestBy ob_covered ob_queue ob_cameBy ob_parent ob_met ob_calls ob_callMany ob_calledOn ob_saved ob_many ob_width ob_numbers ob_moving), (ce_i9080 y ob_world fob_world), (ce_i6 y ob_parts fob_parts)] sz)) 0 0 (va_A [(ce_X10 ob ob_thrown ob_world ob_images ob_hasImage ob_tape ob_taped ob_five ob_size ob_at ob_from ob_token ob_value ob_faultKind ob_faultPlace ob_fresh ob_parts ob_houses ob_houseMany ob_worthOf ob_byCall ob_over ob_bestSet ob_bestOver ob_bestWorth ob_row ob_tenDebts ob_tenMany ob_fewestBy ob_covered ob_queue ob_cameBy ob_parent ob_met ob_calls ob_callMany ob_calledOn ob_saved ob_many ob_width ob_numbers ob_moving), (ce_i9080 y ob_world fob_world), (ce_i6 y ob_parts fob_parts)] sz) := by
  refine Met.ofW (cc := cX10_lineFor) (maxL := 10) (ret := (some .int)) (by decide) rfl ?_
  intro p e s m args below meth c s₁ B hml hv
  obtain ⟨rfl, hsz, hP, hK, hD0⟩ := hv
  have hx := B.exec
  have hb := B.bytes
  have hr := B.returns
  have hw0 : ∀ w ∈ wAll, w.before _ s = true := fun w h => atoms_spec (ws := Cond.code yX10_lineFor cX10_lineFor 10 (some .int) :: wAll) B.pre w (List.mem_cons_of_mem _ h)
  have hown : s.vm.findClass RX10 = some m.cls := findClass_of_methodNamed B.named
  subst hsz
  have hD := hD0.self (sz := s.heap.size)
  generalize hAe : va_A [(ce_X10 ob ob_thrown ob_world ob_images ob_hasImage ob_tape ob_taped ob_five ob_size ob_at ob_from ob_token ob_value ob_faultKind ob_faultPlace ob_fresh ob_parts ob_houses ob_houseMany ob_worthOf ob_byCall ob_over ob_bestSet ob_bestOver ob_bestWorth ob_row ob_tenDebts ob_tenMany ob_fewestBy ob_covered ob_queue ob_cameBy ob_parent ob_met ob_calls ob_callMany ob_calledOn ob_saved ob_many ob_width ob_numbers ob_moving), (ce_i9080 y ob_world fob_world), (ce_i6 y ob_parts fob_parts)] s.heap.size = A at hD ⊢
  have hA : ∀ q : Nat, s.heap.size ≤ q → A q := fun q h => by rw [← hAe]; exact Or.inr h
  have hS : va_S A s.heap s.heap [] := va_S.rf
  have hP : va_P G vwCl [(ce_X10 ob ob_thrown ob_world ob_images ob_hasImage ob_tape ob_taped ob_five ob_size ob_at ob_from ob_token ob_value ob_faultKind ob_faultPlace ob_fresh ob_parts ob_houses ob_houseMany ob_worthOf ob_byCall ob_over ob_bestSet ob_bestOver ob_bestWorth ob_row ob_tenDebts ob_tenMany ob_fewestBy ob_covered ob_queue ob_cameBy ob_parent ob_met ob_calls ob_callMany ob_calledOn ob_saved ob_many ob_width ob_numbers ob_moving), (ce_i9080 y ob_world fob_world), (ce_i6 y ob_parts fob_parts)] s.heap := hP
  have hl := lv_entry ([.ref ob, .int a1, .int a2, .int a3, .int a4, .int a5]) (n := 10) (Nat.le_of_ble_eq_true rfl)
  rw [lg_entry_eq]
  generalize (lg_sl ([.ref ob, .int a1, .int a2, .int a3, .int a4, .int a5]) ++ List.replicate (10 - (lg_sl ([.ref ob, .int a1, .int a2, .int a3, .int a4, .int a5])).length) Slot.unset).toArray = ls at hl ⊢
  have hl : lv_has ls 10 [(0, .ref ob), (1, .int a1), (2, .int a2), (3, .int a3), (4, .int a4), (5, .int a5)] := hl
  have hn7 : 0 ≤ (fob_world 7).toInt ∧ (fob_world 7).toInt ≤ 600 := by have h9 := (p_fob_world).1.1 7; have h8 : UBw 7 = 600 := (by decide); have h7 : LBw 7 = 0 := (by decide); omega
  have hn1 : 0 ≤ (fob_world 1).toInt ∧ (fob_world 1).toInt ≤ 24 := by have h9 := (p_fob_world).1.1 1; have h8 : UBw 1 = 24 := (by decide); have h7 : LBw 1 = 0 := (by decide); omega
  refine lv_aload_n hx hb dX10_lineFor_0 rfl (lv_at hl 0 rfl) ?_
  refine va_get (D := G) (ci := 10) (v := .ref ob_parts) (C := RX10) (T := TX10) (N := 41) hx hb hw0 inA_wsX100 hown hK.1 hP 0 rfl rfl 15 (by decide) (hw0 _ m_522) (fun _ h9 => h9) rfl dX10_lineFor_1 ?_
  refine lv_iconst (v := 0) hx hb dX10_lineFor_4 (by decide) ?_
  refine lv_aload_n hx hb dX10_lineFor_5 rfl (lv_at hl 0 rfl) ?_
  refine lv_iload_n hx hb dX10_lineFor_6 rfl (lv_at hl 1 rfl) ?_
  refine lv_iconst (v := 2) hx hb dX10_lineFor_7 (by decide) ?_
  refine cVim (As := [.int a1, .int 2]) (rest := [.int 0, .ref ob_parts]) ⟨hx, hb, hml, hown, hw0⟩ hA hK hP hD hS [true, true] (gofHouse2 l G y _ ob a1 ob_thrown ob_world ob_images ob_hasImage ob_tape ob_taped ob_five ob_size ob_at ob_from ob_token ob_value ob_faultKind ob_faultPlace ob_fresh ob_parts ob_houses ob_houseMany ob_worthOf ob_byCall ob_over ob_bestSet ob_bestOver ob_bestWorth ob_row ob_tenDebts ob_tenMany ob_fewestBy ob_covered ob_queue ob_cameBy ob_parent ob_met ob_calls ob_callMany ob_calledOn ob_saved ob_many ob_width ob_numbers ob_moving fob_world p_fob_world p_ob_taped p_ob_size p_ob_at p_ob_from p_ob_token p_ob_value p_ob_faultKind p_ob_houseMany p_ob_bestSet p_ob_bestOver p_ob_tenMany p_ob_callMany p_a1) rfl ⟨(callB_of 2 hw0 (gA m_577) rfl rfl rfl (hw0 _ m_41) (hw0 _ m_388) cb_X10_ofHouse ⟨Nat.le_of_ble_eq_true rfl, Nat.le_of_ble_eq_true rfl⟩), (hw0 _ m_389), (hw0 _ m_390)⟩ (ci := 10) (q := (RX10, TX10, 41)) rfl rfl rfl hl.1 (Nat.le_of_ble_eq_true rfl) dX10_lineFor_8 ⟨Nat.le_of_ble_eq_true rfl, Nat.le_of_ble_eq_true rfl⟩ (fun r_1001 w_1001 H locs hw_1001 hP hD hS => ?_)
  obtain ⟨v_1002, bv_1002, h_1003, er_1001, rfl⟩ := hw_1001
  subst r_1001
  obtain ⟨hP, hD⟩ : vPD G A H [(ce_X10 ob ob_thrown ob_world ob_images ob_hasImage ob_tape ob_taped ob_five ob_size ob_at ob_from ob_token ob_value ob_faultKind ob_faultPlace ob_fresh ob_parts ob_houses ob_houseMany ob_worthOf ob_byCall ob_over ob_bestSet ob_bestOver ob_bestWorth ob_row ob_tenDebts ob_tenMany ob_fewestBy ob_covered ob_queue ob_cameBy ob_parent ob_met ob_calls ob_callMany ob_calledOn ob_saved ob_many ob_width ob_numbers ob_moving), (ce_i9080 y ob_world fob_world), (ce_i6 y ob_parts fob_parts)] := ⟨hP, hD⟩
  refine va_iast hx hb hK.1 hP hD hS 2 1 rfl rfl (vi (bkc (x := 0) (c := 0) (by decide)) (by decide)) dX10_lineFor_11 (fun H locs hP hD hS => ?_)
  generalize hf_1004 : (upd fob_parts (0 : Int32).toNatClampNeg v_1002) = f_1004 at hP hD
  obtain ⟨hP, hD⟩ : vPD G A H [(ce_X10 ob ob_thrown ob_world ob_images ob_hasImage ob_tape ob_taped ob_five ob_size ob_at ob_from ob_token ob_value ob_faultKind ob_faultPlace ob_fresh ob_parts ob_houses ob_houseMany ob_worthOf ob_byCall ob_over ob_bestSet ob_bestOver ob_bestWorth ob_row ob_tenDebts ob_tenMany ob_fewestBy ob_covered ob_queue ob_cameBy ob_parent ob_met ob_calls ob_callMany ob_calledOn ob_saved ob_many ob_width ob_numbers ob_moving), (ce_i9080 y ob_world fob_world), (ce_i6 y ob_parts f_1004)] := ⟨hP, hD⟩
  refine lv_aload_n hx hb dX10_lineFor_12 rfl (lv_at hl 0 rfl) ?_
  refine va_get (D := G) (ci := 10) (v := .ref ob_parts) (C := RX10) (T := TX10) (N := 41) hx hb hw0 inA_wsX100 hown hK.1 hP 0 rfl rfl 15 (by decide) (hw0 _ m_522) (fun _ h9 => h9) rfl dX10_lineFor_13 ?_
  refine lv_iconst (v := 1) hx hb dX10_lineFor_16 (by decide) ?_
  refine lv_aload_n hx hb dX10_lineFor_17 rfl (lv_at hl 0 rfl) ?_
  refine lv_iload_n hx hb dX10_lineFor_18 rfl (lv_at hl 2 rfl) ?_
  refine lv_iconst (v := 2) hx hb dX10_lineFor_19 (by decide) ?_
  refine cVim (As := [.int a2, .int 2]) (rest := [.int 1, .ref ob_parts]) ⟨hx, hb, hml, hown, hw0⟩ hA hK hP hD hS [true, true] (gofHouse2 l G y _ ob a2 ob_thrown ob_world ob_images ob_hasImage ob_tape ob_taped ob_five ob_size ob_at ob_from ob_token ob_value ob_faultKind ob_faultPlace ob_fresh ob_parts ob_houses ob_houseMany ob_worthOf ob_byCall ob_over ob_bestSet ob_bestOver ob_bestWorth ob_row ob_tenDebts ob_tenMany ob_fewestBy ob_covered ob_queue ob_cameBy ob_parent ob_met ob_calls ob_callMany ob_calledOn ob_saved ob_many ob_width ob_numbers ob_moving fob_world p_fob_world p_ob_taped p_ob_size p_ob_at p_ob_from p_ob_token p_ob_value p_ob_faultKind p_ob_houseMany p_ob_bestSet p_ob_bestOver p_ob_tenMany p_ob_callMany p_a2) rfl ⟨(callB_of 2 hw0 (gA m_577) rfl rfl rfl (hw0 _ m_41) (hw0 _ m_388) cb_X10_ofHouse ⟨Nat.le_of_ble_eq_true rfl, Nat.le_of_ble_eq_true rfl⟩), (hw0 _ m_389), (hw0 _ m_390)⟩ (ci := 10) (q := (RX10, TX10, 41)) rfl rfl rfl hl.1 (Nat.le_of_ble_eq_true rfl) dX10_lineFor_20 ⟨Nat.le_of_ble_eq_true rfl, Nat.le_of_ble_eq_true rfl⟩ (fun r_1005 w_1005 H locs hw_1005 hP hD hS => ?_)
  obtain ⟨v_1006, bv_1006, h_1007, er_1005, rfl⟩ := hw_1005
  subst r_1005
  obtain ⟨hP, hD⟩ : vPD G A H [(ce_X10 ob ob_thrown ob_world ob_images ob_hasImage ob_tape ob_taped ob_five ob_size ob_at ob_from ob_token ob_value ob_faultKind ob_faultPlace ob_fresh ob_parts ob_houses ob_houseMany ob_worthOf ob_byCall ob_over ob_bestSet ob_bestOver ob_bestWorth ob_row ob_tenDebts ob_tenMany ob_fewestBy ob_covered ob_queue ob_cameBy ob_parent ob_met ob_calls ob_callMany ob_calledOn ob_saved ob_many ob_width ob_numbers ob_moving), (ce_i9080 y ob_world fob_world), (ce_i6 y ob_parts f_1004)] := ⟨hP, hD⟩
  refine va_iast hx hb hK.1 hP hD hS 2 1 rfl rfl (vi (bkc (x := 1) (c := 1) (by decide)) (by decide)) dX10_lineFor_23 (fun H locs hP hD hS => ?_)
  generalize hf_1008 : (upd f_1004 (1 : Int32).toNatClampNeg v_1006) = f_1008 at hP hD
  obtain ⟨hP, hD⟩ : vPD G A H [(ce_X10 ob ob_thrown ob_world ob_images ob_hasImage ob_tape ob_taped ob_five ob_size ob_at ob_from ob_token ob_value ob_faultKind ob_faultPlace ob_fresh ob_parts ob_houses ob_houseMany ob_worthOf ob_byCall ob_over ob_bestSet ob_bestOver ob_bestWorth ob_row ob_tenDebts ob_tenMany ob_fewestBy ob_covered ob_queue ob_cameBy ob_parent ob_met ob_calls ob_callMany ob_calledOn ob_saved ob_many ob_width ob_numbers ob_moving), (ce_i9080 y ob_world fob_world), (ce_i6 y ob_parts f_1008)] := ⟨hP, hD⟩
  refine lv_aload_n hx hb dX10_lineFor_24 rfl (lv_at hl 0 rfl) ?_
  refine va_get (D := G) (ci := 10) (v := .ref ob_parts) (C := RX10) (T := TX10) (N := 41) hx hb hw0 inA_wsX100 hown hK.1 hP 0 rfl rfl 15 (by decide) (hw0 _ m_522) (fun _ h9 => h9) rfl dX10_lineFor_25 ?_
  refine lv_iconst (v := 2) hx hb dX10_lineFor_28 (by decide) ?_
  refine lv_aload_n hx hb dX10_lineFor_29 rfl (lv_at hl 0 rfl) ?_
  refine lv_iload_n hx hb dX10_lineFor_30 rfl (lv_at hl 2 rfl) ?_
  refine cVim (As := [.int a2]) (rest := [.int 2, .ref ob_parts]) ⟨hx, hb, hml, hown, hw0⟩ hA hK hP hD hS [true, true] (gdebtsOf l G y _ ob a2 ob_thrown ob_world ob_images ob_hasImage ob_tape ob_taped ob_five ob_size ob_at ob_from ob_token ob_value ob_faultKind ob_faultPlace ob_fresh ob_parts ob_houses ob_houseMany ob_worthOf ob_byCall ob_over ob_bestSet ob_bestOver ob_bestWorth ob_row ob_tenDebts ob_tenMany ob_fewestBy ob_covered ob_queue ob_cameBy ob_parent ob_met ob_calls ob_callMany ob_calledOn ob_saved ob_many ob_width ob_numbers ob_moving fob_world p_fob_world p_ob_taped p_ob_size p_ob_at p_ob_from p_ob_token p_ob_value p_ob_faultKind p_ob_houseMany p_ob_bestSet p_ob_bestOver p_ob_tenMany p_ob_callMany) rfl ⟨(callB_of 1 hw0 (gA m_427) rfl rfl rfl (hw0 _ m_41) (hw0 _ m_424) cb_X10_debtsOf ⟨Nat.le_of_ble_eq_true rfl, Nat.le_of_ble_eq_true rfl⟩), (hw0 _ m_425), (hw0 _ m_426)⟩ (ci := 10) (q := (RX10, TX10, 41)) rfl rfl rfl hl.1 (Nat.le_of_ble_eq_true rfl) dX10_lineFor_31 ⟨Nat.le_of_ble_eq_true rfl, Nat.le_of_ble_eq_true rfl⟩ (fun r_1009 w_1009 H locs hw_1009 hP hD hS => ?_)
  obtain ⟨v_1010, bv_1010, h_1011, er_1009, rfl⟩ := hw_1009
  subst r_1009
  obtain ⟨hP, hD⟩ : vPD G A H [(ce_X10 ob ob_thrown ob_world ob_images ob_hasImage ob_tape ob_taped ob_five ob_size ob_at ob_from ob_token ob_value ob_faultKind ob_faultPlace ob_fresh ob_parts ob_houses ob_houseMany ob_worthOf ob_byCall ob_over ob_bestSet ob_bestOver ob_bestWorth ob_row ob_tenDebts ob_tenMany ob_fewestBy ob_covered ob_queue ob_cameBy ob_parent ob_met ob_calls ob_callMany ob_calledOn ob_saved ob_many ob_width ob_numbers ob_moving), (ce_i9080 y ob_world fob_world), (ce_i6 y ob_parts f_1008)] := ⟨hP, hD⟩
  refine va_iast hx hb hK.1 hP hD hS 2 1 rfl rfl (vi (bkc (x := 2) (c := 2) (by decide)) (by decide)) dX10_lineFor_34 (fun H locs hP hD hS => ?_)
  generalize hf_1012 : (upd f_1008 (2 : Int32).toNatClampNeg v_1010) = f_1012 at hP hD
  obtain ⟨hP, hD⟩ : vPD G A H [(ce_X10 ob ob_thrown ob_world ob_images ob_hasImage ob_tape ob_taped ob_five ob_size ob_at ob_from ob_token ob_value ob_faultKind ob_faultPlace ob_fresh ob_parts ob_houses ob_houseMany ob_worthOf ob_byCall ob_over ob_bestSet ob_bestOver ob_bestWorth ob_row ob_tenDebts ob_tenMany ob_fewestBy ob_covered ob_queue ob_cameBy ob_parent ob_met ob_calls ob_callMany ob_calledOn ob_saved ob_many ob_width ob_numbers ob_moving), (ce_i9080 y ob_world fob_world), (ce_i6 y ob_parts f_1012)] := ⟨hP, hD⟩
  refine lv_aload_n hx hb dX10_lineFor_35 rfl (lv_at hl 0 rfl) ?_
  refine va_get (D := G) (ci := 10) (v := .ref ob_parts) (C := RX10) (T := TX10) (N := 41) hx hb hw0 inA_wsX100 hown hK.1 hP 0 rfl rfl 15 (by decide) (hw0 _ m_522) (fun _ h9 => h9) rfl dX10_lineFor_36 ?_
  refine lv_iconst (v := 3) hx hb dX10_lineFor_39 (by decide) ?_
  refine lv_iload hx hb dX10_lineFor_40 (lv_at hl 5 rfl) ?_
  refine va_iast hx hb hK.1 hP hD hS 2 1 rfl rfl (vi (bkc (x := 3) (c := 3) (by decide)) (by decide)) dX10_lineFor_42 (fun H locs hP hD hS => ?_)
  generalize hf_1013 : (upd f_1012 (3 : Int32).toNatClampNeg a5) = f_1013 at hP hD
  obtain ⟨hP, hD⟩ : vPD G A H [(ce_X10 ob ob_thrown ob_world ob_images ob_hasImage ob_tape ob_taped ob_five ob_size ob_at ob_from ob_token ob_value ob_faultKind ob_faultPlace ob_fresh ob_parts ob_houses ob_houseMany ob_worthOf ob_byCall ob_over ob_bestSet ob_bestOver ob_bestWorth ob_row ob_tenDebts ob_tenMany ob_fewestBy ob_covered ob_queue ob_cameBy ob_parent ob_met ob_calls ob_callMany ob_calledOn ob_saved ob_many ob_width ob_numbers ob_moving), (ce_i9080 y ob_world fob_world), (ce_i6 y ob_parts f_1013)] := ⟨hP, hD⟩
  refine lv_aload_n hx hb dX10_lineFor_43 rfl (lv_at hl 0 rfl) ?_
  refine va_get (D := G) (ci := 10) (v := .ref ob_parts) (C := RX10) (T := TX10) (N := 41) hx hb hw0 inA_wsX100 hown hK.1 hP 0 rfl rfl 15 (by decide) (hw0 _ m_522) (fun _ h9 => h9) rfl dX10_lineFor_44 ?_
  refine lv_iconst (v := 4) hx hb dX10_lineFor_47 (by decide) ?_
  refine lv_iload hx hb dX10_lineFor_48 (lv_at hl 4 rfl) ?_
  refine cutW 58 (fun H locs ls st => ∃ (v_1015 : Int32), ((0 : Int) ≤ v_1015.toInt ∧ v_1015.toInt ≤ 1) ∧ (v_1015.toInt = a4.toInt) ∧ st = [.int v_1015, .int 4, .ref ob_parts] ∧ vPD G A H [(ce_X10 ob ob_thrown ob_world ob_images ob_hasImage ob_tape ob_taped ob_five ob_size ob_at ob_from ob_token ob_value ob_faultKind ob_faultPlace ob_fresh ob_parts ob_houses ob_houseMany ob_worthOf ob_byCall ob_over ob_bestSet ob_bestOver ob_bestWorth ob_row ob_tenDebts ob_tenMany ob_fewestBy ob_covered ob_queue ob_cameBy ob_parent ob_met ob_calls ob_callMany ob_calledOn ob_saved ob_many ob_width ob_numbers ob_moving), (ce_i9080 y ob_world fob_world), (ce_i6 y ob_parts f_1013)] ∧ va_S A s.heap H locs ∧ lv_has ls 10 [(0, .ref ob), (3, .int a3)]) ?_ (fun J_58_1015 => ?_)
  · rintro H locs ls st ⟨v_1015, bv_1015, rl1015_0, rfl, ⟨hP, hD⟩, hS, hl⟩
    refine va_iast hx hb hK.1 hP hD hS 2 1 rfl rfl (vi (bkc (x := 4) (c := 4) (by decide)) (by decide)) dX10_lineFor_58 (fun H locs hP hD hS => ?_)
    generalize hf_1016 : (upd f_1013 (4 : Int32).toNatClampNeg v_1015) = f_1016 at hP hD
    obtain ⟨hP, hD⟩ : vPD G A H [(ce_X10 ob ob_thrown ob_world ob_images ob_hasImage ob_tape ob_taped ob_five ob_size ob_at ob_from ob_token ob_value ob_faultKind ob_faultPlace ob_fresh ob_parts ob_houses ob_houseMany ob_worthOf ob_byCall ob_over ob_bestSet ob_bestOver ob_bestWorth ob_row ob_tenDebts ob_tenMany ob_fewestBy ob_covered ob_queue ob_cameBy ob_parent ob_met ob_calls ob_callMany ob_calledOn ob_saved ob_many ob_width ob_numbers ob_moving), (ce_i9080 y ob_world fob_world), (ce_i6 y ob_parts f_1016)] := ⟨hP, hD⟩
    have E_1017 := li_4 hf_1004 hf_1008 hf_1012 hf_1013 hf_1016
    have E_1017a : v_1002.toInt = _ := h_1003
    have E_1017b : v_1006.toInt = _ := h_1007
    refine lv_iconst (v := 0) hx hb dX10_lineFor_59 (by decide) ?_
    refine lv_istore (lv' := [(6, .int 0), (0, .ref ob), (3, .int a3)]) hx hb dX10_lineFor_60 hl (by decide) rfl (fun ls hl => ?_)
    refine loopX (fun n H locs ls st => ∃ (v_1272 : Int32), (24 - v_1272.toInt).toNat = n ∧ ((0 : Int) ≤ v_1272.toInt ∧ v_1272.toInt ≤ 24) ∧ (∀ C L, cdM fob_world C → mB fob_world L → lnI a3.toInt (fct (fob_world (12 + 9 * a1.toInt.toNat)).toInt (fob_world (12 + 9 * a2.toInt.toNat)).toInt (cnt (ofB a2.toInt) L) a5.toInt a4.toInt) C v_1272.toInt) ∧ (v_1272.toInt ≤ (fob_world 1).toInt) ∧ st = [] ∧ vPD G A H [(ce_X10 ob ob_thrown ob_world ob_images ob_hasImage ob_tape ob_taped ob_five ob_size ob_at ob_from ob_token ob_value ob_faultKind ob_faultPlace ob_fresh ob_parts ob_houses ob_houseMany ob_worthOf ob_byCall ob_over ob_bestSet ob_bestOver ob_bestWorth ob_row ob_tenDebts ob_tenMany ob_fewestBy ob_covered ob_queue ob_cameBy ob_parent ob_met ob_calls ob_callMany ob_calledOn ob_saved ob_many ob_width ob_numbers ob_moving), (ce_i9080 y ob_world fob_world), (ce_i6 y ob_parts f_1016)] ∧ va_S A s.heap H locs ∧ lv_has ls 10 [(6, .int v_1272), (0, .ref ob), (3, .int a3)]) ?_ (n := (24 - (0 : Int32).toInt).toNat) ⟨0, rfl, (bw (0) (24) (bkc (x := 0) (c := 0) (by decide)) (by decide)), (fun C L H H2 => li_0 (by decide)), (by have h90 : Int32.toInt 0 = 0 := (by decide); omega), rfl, ⟨hP, hD⟩, hS, lv_sub hl [0, 1, 2] rfl⟩
    rintro n ih_1359 H locs ls st ⟨v_1272, hn_1359, bv_1272, rl1272_0, rl1272_1, rfl, ⟨hP, hD⟩, hS, hl⟩
    refine lv_iload hx hb dX10_lineFor_62 (lv_at hl 0 rfl) ?_
    refine lv_aload_n hx hb dX10_lineFor_64 rfl (lv_at hl 1 rfl) ?_
    refine va_get (D := G) (ci := 10) (v := .ref ob_world) (C := RX10) (T := TX10) (N := 41) hx hb hw0 inA_wsX100 hown hK.1 hP 0 rfl rfl 1 (by decide) (hw0 _ m_352) (fun _ h9 => h9) rfl dX10_lineFor_65 ?_
    refine lv_iconst (v := 1) hx hb dX10_lineFor_68 (by decide) ?_
    refine va_iald hx hb hK.1 hP 1 1 rfl rfl (vi (bkc (x := 1) (c := 1) (by decide)) (by decide)) dX10_lineFor_69 ?_
    refine lv_topi (fun v_1360 ev_1360 => ?_)
    have bv_1360 : (0 : Int) ≤ v_1360.toInt ∧ v_1360.toInt ≤ 24 := rdk ev_1360 (p_fob_world).1.1 (by decide)
    have yv_1360 : v_1360.toInt = (fob_world 1).toInt := congrArg Int32.toInt ev_1360
    refine lv_icmp_ge (tgt := 160) hx hb dX10_lineFor_70 (by decide) (fun c_1361 => ?_) (fun c_1361 => ?_)
    · skip
      have nc_1361 := nb_le (24) (0) c_1361 bv_1360 bv_1272 (by decide)
      refine lv_iconst (v := (-1)) hx hb dX10_lineFor_160 (by decide) ?_
      exact W.iret (v := (-1)) hx hb hr (fun t ht hW => ⟨⟨(-1), _, rfl, ⟨(-1), f_1016, (bw (-1) (23) (bkc (x := (-1)) (c := -1) (by decide)) (by decide)), (by have lm1 : Int32.toInt (-1) = -1 := (by decide); have l91 : Int32.toInt 1 = 1 := (by decide); have l92 : Int32.toInt 2 = 2 := (by decide); have l93 : Int32.toInt 3 = 3 := (by decide); have h90 : Int32.toInt (-1) = -1 := (by decide); intro C L H H2; have h8 := li_e (rl1272_0 C L H H2) (by have h9 := H.1; omega); omega), (by have lm1 : Int32.toInt (-1) = -1 := (by decide); have l91 : Int32.toInt 1 = 1 := (by decide); have l92 : Int32.toInt 2 = 2 := (by decide); have l93 : Int32.toInt 3 = 3 := (by decide); have h90 : Int32.toInt (-1) = -1 := (by decide); omega), rfl, rfl⟩, by rw [ht]; exact hP, hD⟩, hS.F ht⟩) hS.2.2 dX10_lineFor_161
    · skip
      have nc_1361 := nb_nle (23) (1) c_1361 bv_1272 bv_1360 (by decide)
      refine lv_sipush (v := 154) hx hb dX10_lineFor_73 (by decide) ?_
      refine lv_iconst (v := 5) hx hb dX10_lineFor_76 (by decide) ?_
      refine lv_iload hx hb dX10_lineFor_77 (lv_at hl 0 rfl) ?_
      refine lv_imul hx hb dX10_lineFor_79 ?_
      refine lv_topi (fun v_1362 ev_1362 => ?_)
      have qv_1362 := ba_mul 5 (ev_1362.trans (Int32.mul_comm _ _)) nc_1361.1 (by decide) (by decide) (by decide)
      have bv_1362 : (0 : Int) ≤ v_1362.toInt ∧ v_1362.toInt ≤ 115 := qv_1362.2
      refine lv_iadd hx hb dX10_lineFor_80 ?_
      refine lv_topi (fun v_1363 ev_1363 => ?_)
      have qv_1363 := ba_add ev_1363 (bkc (x := 154) (c := 154) (by decide)) bv_1362 (by decide)
      have bv_1363 : (154 : Int) ≤ v_1363.toInt ∧ v_1363.toInt ≤ 269 := bq_add qv_1363 (bkc (x := 154) (c := 154) (by decide)) bv_1362 _ _ (by decide)
      have qv_1363 : v_1363.toInt = (154) + v_1362.toInt := qv_1363
      refine lv_istore (lv' := [(7, .int v_1363), (6, .int v_1272), (0, .ref ob), (3, .int a3)]) hx hb dX10_lineFor_81 hl (by decide) rfl (fun ls hl => ?_)
      refine lv_aload_n hx hb dX10_lineFor_83 rfl (lv_at hl 2 rfl) ?_
      refine va_get (D := G) (ci := 10) (v := .ref ob_world) (C := RX10) (T := TX10) (N := 41) hx hb hw0 inA_wsX100 hown hK.1 hP 0 rfl rfl 1 (by decide) (hw0 _ m_352) (fun _ h9 => h9) rfl dX10_lineFor_84 ?_
      refine lv_iload hx hb dX10_lineFor_87 (lv_at hl 0 rfl) ?_
      refine va_iald hx hb hK.1 hP 1 1 rfl rfl (vi bv_1363 (by decide)) dX10_lineFor_89 ?_
      refine lv_topi (fun v_1364 ev_1364 => ?_)
      have wv_1364 : v_1364.toInt = (fob_world (154 + 5 * v_1272.toInt.toNat)).toInt := by rw [ev_1364, el_at (c := 154) (a := 5) (x := v_1272) (by omega) (by omega)]
      refine lv_iload_n hx hb dX10_lineFor_90 rfl (lv_at hl 3 rfl) ?_
      refine lv_icmp_eq (tgt := 97) hx hb dX10_lineFor_91 (by decide) (fun c_1365 => ?_) (fun c_1365 => ?_)
      · skip
        have nc_1365 := nb_eq (-2147483648) (2147483647) c_1365 (btop v_1364) (btop a3) (by decide)
        refine lv_iconst (v := 1) hx hb dX10_lineFor_97 (by decide) ?_
        refine lv_istore (lv' := [(8, .int 1), (7, .int v_1363), (6, .int v_1272), (0, .ref ob), (3, .int a3)]) hx hb dX10_lineFor_98 hl (by decide) rfl (fun ls hl => ?_)
        refine lv_iconst (v := 0) hx hb dX10_lineFor_100 (by decide) ?_
        refine lv_istore (lv' := [(9, .int 0), (8, .int 1), (7, .int v_1363), (6, .int v_1272), (0, .ref ob), (3, .int a3)]) hx hb dX10_lineFor_101 hl (by decide) rfl (fun ls hl => ?_)
        refine loopX (fun n H locs ls st => ∃ (v_1412 : Int32) (v_1413 : Int32), (180 - v_1412.toInt).toNat = n ∧ ((0 : Int) ≤ v_1412.toInt ∧ v_1412.toInt ≤ 180) ∧ ((0 : Int) ≤ v_1413.toInt ∧ v_1413.toInt ≤ 1) ∧ (alI fob_world (fun q : Nat => (f_1016 q).toInt) (fob_world (157 + 5 * v_1272.toInt.toNat)).toInt (fob_world (158 + 5 * v_1272.toInt.toNat)).toInt v_1412.toInt v_1413.toInt) ∧ ((fob_world (154 + 5 * v_1272.toInt.toNat)).toInt = a3.toInt) ∧ (0 ≤ (fob_world (157 + 5 * v_1272.toInt.toNat)).toInt) ∧ st = [] ∧ vPD G A H [(ce_X10 ob ob_thrown ob_world ob_images ob_hasImage ob_tape ob_taped ob_five ob_size ob_at ob_from ob_token ob_value ob_faultKind ob_faultPlace ob_fresh ob_parts ob_houses ob_houseMany ob_worthOf ob_byCall ob_over ob_bestSet ob_bestOver ob_bestWorth ob_row ob_tenDebts ob_tenMany ob_fewestBy ob_covered ob_queue ob_cameBy ob_parent ob_met ob_calls ob_callMany ob_calledOn ob_saved ob_many ob_width ob_numbers ob_moving), (ce_i9080 y ob_world fob_world), (ce_i6 y ob_parts f_1016)] ∧ va_S A s.heap H locs ∧ lv_has ls 10 [(9, .int v_1412), (8, .int v_1413), (7, .int v_1363), (6, .int v_1272), (0, .ref ob), (3, .int a3)]) ?_ (n := (180 - (0 : Int32).toInt).toNat) ⟨0, 1, rfl, (bw (0) (180) (bkc (x := 0) (c := 0) (by decide)) (by decide)), (bw (0) (1) (bkc (x := 1) (c := 1) (by decide)) (by decide)), (al_0 (by decide) (by decide)), (by have h90 : Int32.toInt 0 = 0 := (by decide); have h91 : Int32.toInt 1 = 1 := (by decide); omega), (st_lo (p_fob_world).1.1 (by omega)), rfl, ⟨hP, hD⟩, hS, lv_sub hl [0, 1, 2, 3, 4, 5] rfl⟩
        rintro n ih_1429 H locs ls st ⟨v_1412, v_1413, hn_1429, bv_1412, bv_1413, rl1413_0, rl1413_1, rl1413_2, rfl, ⟨hP, hD⟩, hS, hl⟩
        refine lv_iload hx hb dX10_lineFor_103 (lv_at hl 0 rfl) ?_
        refine lv_aload_n hx hb dX10_lineFor_105 rfl (lv_at hl 4 rfl) ?_
        refine va_get (D := G) (ci := 10) (v := .ref ob_world) (C := RX10) (T := TX10) (N := 41) hx hb hw0 inA_wsX100 hown hK.1 hP 0 rfl rfl 1 (by decide) (hw0 _ m_352) (fun _ h9 => h9) rfl dX10_lineFor_106 ?_
        refine lv_iload hx hb dX10_lineFor_109 (lv_at hl 2 rfl) ?_
        refine lv_iconst (v := 4) hx hb dX10_lineFor_111 (by decide) ?_
        refine lv_iadd hx hb dX10_lineFor_112 ?_
        refine lv_topi (fun v_1430 ev_1430 => ?_)
        have qv_1430 := ba_add ev_1430 bv_1363 (bkc (x := 4) (c := 4) (by decide)) (by decide)
        have bv_1430 : (158 : Int) ≤ v_1430.toInt ∧ v_1430.toInt ≤ 273 := bq_add qv_1430 bv_1363 (bkc (x := 4) (c := 4) (by decide)) _ _ (by decide)
        have qv_1430 : v_1430.toInt = v_1363.toInt + (4) := qv_1430
        refine va_iald hx hb hK.1 hP 1 1 rfl rfl (vi bv_1430 (by decide)) dX10_lineFor_113 ?_
        refine lv_topi (fun v_1431 ev_1431 => ?_)
        have bv_1431 : (0 : Int) ≤ v_1431.toInt ∧ v_1431.toInt ≤ 180 := rdw ev_1431 (p_fob_world).1.1 pl_37 (by omega) (nc_1361.1)
        have wv_1431 : v_1431.toInt = (fob_world (158 + 5 * v_1272.toInt.toNat)).toInt := by rw [ev_1431, el_at (c := 158) (a := 5) (x := v_1272) (by omega) (by omega)]
        refine lv_icmp_ge (tgt := 146) hx hb dX10_lineFor_114 (by decide) (fun c_1432 => ?_) (fun c_1432 => ?_)
        · skip
          have nc_1432 := nb_le (180) (0) c_1432 bv_1431 bv_1412 (by decide)
          refine lv_iload hx hb dX10_lineFor_146 (lv_at hl 1 rfl) ?_
          refine lv_if_eq (tgt := 154) hx hb dX10_lineFor_148 (by decide) (fun c_1433 => ?_) (fun c_1433 => ?_)
          · skip
            have nc_1433 := nb_eq (0) (0) c_1433 bv_1413 (bkc (x := 0) (c := 0) (by decide)) (by decide)
            obtain ⟨v_1434, ev_1434⟩ : ∃ z : Int32, z = v_1272 + 1 := ⟨_, rfl⟩
            have qv_1434 := ba_add ev_1434 nc_1361.1 (bkc (x := 1) (c := 1) (by decide)) (by decide)
            have bv_1434 : (1 : Int) ≤ v_1434.toInt ∧ v_1434.toInt ≤ 24 := bq_add qv_1434 nc_1361.1 (bkc (x := 1) (c := 1) (by decide)) _ _ (by decide)
            have qv_1434 : v_1434.toInt = v_1272.toInt + (1) := qv_1434
            refine lv_iinc (v := v_1434) (lv' := [(6, .int v_1434), (9, .int v_1412), (8, .int v_1413), (7, .int v_1363), (0, .ref ob), (3, .int a3)]) hx hb dX10_lineFor_154 hl (k := 3) rfl (ev_1434.symm) (by decide) rfl (fun ls hl => ?_)
            refine lv_goto (tgt := 62) hx hb dX10_lineFor_157 (by decide) ?_
            exact ih_1359 _ (ml_inc (hi := 24) hn_1359 qv_1434 (by decide) ((bw (0) (24) bv_1434 (by decide))).2) _ _ _ _ ⟨v_1434, rfl, (bw (0) (24) bv_1434 (by decide)), (by have lm1 : Int32.toInt (-1) = -1 := (by decide); have l91 : Int32.toInt 1 = 1 := (by decide); have l92 : Int32.toInt 2 = 2 := (by decide); have l93 : Int32.toInt 3 = 3 := (by decide); intro C L H H2; exact li_n (rl1272_0 C L H H2) (by have h9 := H.1; omega) (fun x hx => Or.inr (lM_n rl1413_0 (by omega) H hx (by omega) (by omega) (hM_bg (rk_b (p_fob_world).1.1 (by omega)) (rk_b (p_fob_world).1.1 (by omega)) (by have h9 := cnt_b (q := ofB a2.toInt) L; have h8 := H2.1; omega) (by omega) (by omega)) (fct_5 (E_1017.1.trans E_1017a) (E_1017.2.1.trans E_1017b) (E_1017.2.2.1.trans (h_1011 L H2)) E_1017.2.2.2.1 (E_1017.2.2.2.2.trans (by omega))))) (by omega)), (by omega), rfl, ⟨hP, hD⟩, hS, lv_sub hl [0, 4, 5] rfl⟩
          · skip
            have nc_1433 := nb_ne (1) (1) c_1433 bv_1413 (k := 0) (by decide) (by decide)
            refine lv_iload hx hb dX10_lineFor_151 (lv_at hl 3 rfl) ?_
            exact W.iret (v := v_1272) hx hb hr (fun t ht hW => ⟨⟨v_1272, _, rfl, ⟨v_1272, f_1016, (bw (-1) (23) nc_1361.1 (by decide)), (by have lm1 : Int32.toInt (-1) = -1 := (by decide); have l91 : Int32.toInt 1 = 1 := (by decide); have l92 : Int32.toInt 2 = 2 := (by decide); have l93 : Int32.toInt 3 = 3 := (by decide); intro C L H H2; exact li_y (rl1272_0 C L H H2) (by have h9 := H.1; omega) (fun x hx => ⟨by have h9 := (H.2 _ x hx).2.1; omega, lM_y rl1413_0 (by omega) (by omega) H hx (by omega) (by omega) (hM_bg (rk_b (p_fob_world).1.1 (by omega)) (rk_b (p_fob_world).1.1 (by omega)) (by have h9 := cnt_b (q := ofB a2.toInt) L; have h8 := H2.1; omega) (by omega) (by omega)) (fct_5 (E_1017.1.trans E_1017a) (E_1017.2.1.trans E_1017b) (E_1017.2.2.1.trans (h_1011 L H2)) E_1017.2.2.2.1 (E_1017.2.2.2.2.trans (by omega)))⟩)), (by have lm1 : Int32.toInt (-1) = -1 := (by decide); have l91 : Int32.toInt 1 = 1 := (by decide); have l92 : Int32.toInt 2 = 2 := (by decide); have l93 : Int32.toInt 3 = 3 := (by decide); omega), rfl, rfl⟩, by rw [ht]; exact hP, hD⟩, hS.F ht⟩) hS.2.2 dX10_lineFor_153
        · skip
          have nc_1432 := nb_nle (179) (1) c_1432 bv_1412 bv_1431 (by decide)
          refine lv_iload hx hb dX10_lineFor_117 (lv_at hl 1 rfl) ?_
          refine lv_if_eq (tgt := 146) hx hb dX10_lineFor_119 (by decide) (fun c_1435 => ?_) (fun c_1435 => ?_)
          · skip
            have nc_1435 := nb_eq (0) (0) c_1435 bv_1413 (bkc (x := 0) (c := 0) (by decide)) (by decide)
            refine lv_iload hx hb dX10_lineFor_146 (lv_at hl 1 rfl) ?_
            refine lv_if_eq (tgt := 154) hx hb dX10_lineFor_148 (by decide) (fun _ => ?_) (fun c9 => absurd (dc_eq nc_1435.1 (bkc (x := 0) (c := 0) (by decide))) c9)
            obtain ⟨v_1436, ev_1436⟩ : ∃ z : Int32, z = v_1272 + 1 := ⟨_, rfl⟩
            have qv_1436 := ba_add ev_1436 nc_1361.1 (bkc (x := 1) (c := 1) (by decide)) (by decide)
            have bv_1436 : (1 : Int) ≤ v_1436.toInt ∧ v_1436.toInt ≤ 24 := bq_add qv_1436 nc_1361.1 (bkc (x := 1) (c := 1) (by decide)) _ _ (by decide)
            have qv_1436 : v_1436.toInt = v_1272.toInt + (1) := qv_1436
            refine lv_iinc (v := v_1436) (lv' := [(6, .int v_1436), (9, .int v_1412), (8, .int v_1413), (7, .int v_1363), (0, .ref ob), (3, .int a3)]) hx hb dX10_lineFor_154 hl (k := 3) rfl (ev_1436.symm) (by decide) rfl (fun ls hl => ?_)
            refine lv_goto (tgt := 62) hx hb dX10_lineFor_157 (by decide) ?_
            exact ih_1359 _ (ml_inc (hi := 24) hn_1359 qv_1436 (by decide) ((bw (0) (24) bv_1436 (by decide))).2) _ _ _ _ ⟨v_1436, rfl, (bw (0) (24) bv_1436 (by decide)), (by have lm1 : Int32.toInt (-1) = -1 := (by decide); have l91 : Int32.toInt 1 = 1 := (by decide); have l92 : Int32.toInt 2 = 2 := (by decide); have l93 : Int32.toInt 3 = 3 := (by decide); intro C L H H2; exact li_n (rl1272_0 C L H H2) (by have h9 := H.1; omega) (fun x hx => Or.inr (lM_n rl1413_0 (by omega) H hx (by omega) (by omega) (hM_bg (rk_b (p_fob_world).1.1 (by omega)) (rk_b (p_fob_world).1.1 (by omega)) (by have h9 := cnt_b (q := ofB a2.toInt) L; have h8 := H2.1; omega) (by omega) (by omega)) (fct_5 (E_1017.1.trans E_1017a) (E_1017.2.1.trans E_1017b) (E_1017.2.2.1.trans (h_1011 L H2)) E_1017.2.2.2.1 (E_1017.2.2.2.2.trans (by omega))))) (by omega)), (by omega), rfl, ⟨hP, hD⟩, hS, lv_sub hl [0, 4, 5] rfl⟩
          · skip
            have nc_1435 := nb_ne (1) (1) c_1435 bv_1413 (k := 0) (by decide) (by decide)
            refine lv_aload_n hx hb dX10_lineFor_122 rfl (lv_at hl 4 rfl) ?_
            refine lv_aload_n hx hb dX10_lineFor_123 rfl (lv_at hl 4 rfl) ?_
            refine va_get (D := G) (ci := 10) (v := .ref ob_world) (C := RX10) (T := TX10) (N := 41) hx hb hw0 inA_wsX100 hown hK.1 hP 0 rfl rfl 1 (by decide) (hw0 _ m_352) (fun _ h9 => h9) rfl dX10_lineFor_124 ?_
            refine lv_iload hx hb dX10_lineFor_127 (lv_at hl 2 rfl) ?_
            refine lv_iconst (v := 3) hx hb dX10_lineFor_129 (by decide) ?_
            refine lv_iadd hx hb dX10_lineFor_130 ?_
            refine lv_topi (fun v_1437 ev_1437 => ?_)
            have qv_1437 := ba_add ev_1437 bv_1363 (bkc (x := 3) (c := 3) (by decide)) (by decide)
            have bv_1437 : (157 : Int) ≤ v_1437.toInt ∧ v_1437.toInt ≤ 272 := bq_add qv_1437 bv_1363 (bkc (x := 3) (c := 3) (by decide)) _ _ (by decide)
            have qv_1437 : v_1437.toInt = v_1363.toInt + (3) := qv_1437
            refine va_iald hx hb hK.1 hP 1 1 rfl rfl (vi bv_1437 (by decide)) dX10_lineFor_131 ?_
            refine lv_topi (fun v_1438 ev_1438 => ?_)
            have bv_1438 : (0 : Int) ≤ v_1438.toInt ∧ v_1438.toInt ≤ 180 := rdw ev_1438 (p_fob_world).1.1 pl_38 (by omega) (nc_1361.1)
            have wv_1438 : v_1438.toInt = (fob_world (157 + 5 * v_1272.toInt.toNat)).toInt := by rw [ev_1438, el_at (c := 157) (a := 5) (x := v_1272) (by omega) (by omega)]
            refine lv_iload hx hb dX10_lineFor_132 (lv_at hl 0 rfl) ?_
            refine lv_iadd hx hb dX10_lineFor_134 ?_
            refine lv_topi (fun v_1439 ev_1439 => ?_)
            have qv_1439 := ba_add ev_1439 bv_1438 nc_1432.1 (by decide)
            have bv_1439 : (0 : Int) ≤ v_1439.toInt ∧ v_1439.toInt ≤ 359 := bq_add qv_1439 bv_1438 nc_1432.1 _ _ (by decide)
            have h9 := (p_fob_world).2.1 v_1272.toInt.toNat (by omega)
            have h_1440 : (0 : Int) ≤ v_1439.toInt ∧ v_1439.toInt ≤ 179 := by have h8 := RB_2 (p_fob_world).1.1; omega
            refine cVim (As := [.int v_1439]) (rest := []) ⟨hx, hb, hml, hown, hw0⟩ hA hK hP hD hS [true, true, true] (htestHolds l G y _ ob v_1439 ob_thrown ob_world ob_images ob_hasImage ob_tape ob_taped ob_five ob_size ob_at ob_from ob_token ob_value ob_faultKind ob_faultPlace ob_fresh ob_parts ob_houses ob_houseMany ob_worthOf ob_byCall ob_over ob_bestSet ob_bestOver ob_bestWorth ob_row ob_tenDebts ob_tenMany ob_fewestBy ob_covered ob_queue ob_cameBy ob_parent ob_met ob_calls ob_callMany ob_calledOn ob_saved ob_many ob_width ob_numbers ob_moving fob_world f_1016 p_fob_world p_ob_taped p_ob_size p_ob_at p_ob_from p_ob_token p_ob_value p_ob_faultKind p_ob_houseMany p_ob_bestSet p_ob_bestOver p_ob_tenMany p_ob_callMany h_1440 (by omega)) rfl ⟨(callB_of 1 hw0 (gA m_682) rfl rfl rfl (hw0 _ m_41) (hw0 _ m_548) cb_X10_testHolds ⟨Nat.le_of_ble_eq_true rfl, Nat.le_of_ble_eq_true rfl⟩), (hw0 _ m_549), (hw0 _ m_550)⟩ (ci := 10) (q := (RX10, TX10, 41)) rfl rfl rfl hl.1 (Nat.le_of_ble_eq_true rfl) dX10_lineFor_135 ⟨Nat.le_of_ble_eq_true rfl, Nat.le_of_ble_eq_true rfl⟩ (fun r_1441 w_1441 H locs hw_1441 hP hD hS => ?_)
            rcases hw_1441 with ⟨h_1442, rfl, rfl⟩ | ⟨h_1443, rfl, rfl⟩
            · skip
              obtain ⟨hP, hD⟩ : vPD G A H [(ce_X10 ob ob_thrown ob_world ob_images ob_hasImage ob_tape ob_taped ob_five ob_size ob_at ob_from ob_token ob_value ob_faultKind ob_faultPlace ob_fresh ob_parts ob_houses ob_houseMany ob_worthOf ob_byCall ob_over ob_bestSet ob_bestOver ob_bestWorth ob_row ob_tenDebts ob_tenMany ob_fewestBy ob_covered ob_queue ob_cameBy ob_parent ob_met ob_calls ob_callMany ob_calledOn ob_saved ob_many ob_width ob_numbers ob_moving), (ce_i9080 y ob_world fob_world), (ce_i6 y ob_parts f_1016)] := ⟨hP, hD⟩
              refine lv_istore (lv' := [(8, .int 0), (9, .int v_1412), (7, .int v_1363), (6, .int v_1272), (0, .ref ob), (3, .int a3)]) hx hb dX10_lineFor_138 hl (by decide) rfl (fun ls hl => ?_)
              obtain ⟨v_1444, ev_1444⟩ : ∃ z : Int32, z = v_1412 + 1 := ⟨_, rfl⟩
              have qv_1444 := ba_add ev_1444 nc_1432.1 (bkc (x := 1) (c := 1) (by decide)) (by decide)
              have bv_1444 : (1 : Int) ≤ v_1444.toInt ∧ v_1444.toInt ≤ 180 := bq_add qv_1444 nc_1432.1 (bkc (x := 1) (c := 1) (by decide)) _ _ (by decide)
              have qv_1444 : v_1444.toInt = v_1412.toInt + (1) := qv_1444
              refine lv_iinc (v := v_1444) (lv' := [(9, .int v_1444), (8, .int 0), (7, .int v_1363), (6, .int v_1272), (0, .ref ob), (3, .int a3)]) hx hb dX10_lineFor_140 hl (k := 1) rfl (ev_1444.symm) (by decide) rfl (fun ls hl => ?_)
              refine lv_goto (tgt := 103) hx hb dX10_lineFor_143 (by decide) ?_
              exact ih_1429 _ (ml_inc (hi := 180) hn_1429 qv_1444 (by decide) ((bw (0) (180) bv_1444 (by decide))).2) _ _ _ _ ⟨v_1444, 0, rfl, (bw (0) (180) bv_1444 (by decide)), (bw (0) (1) (bkc (x := 0) (c := 0) (by decide)) (by decide)), (al_n (i := v_1412.toInt) (by have h9 := h_1442; rw [show v_1439.toInt.toNat = ((fob_world (157 + 5 * v_1272.toInt.toNat)).toInt + v_1412.toInt).toNat from by omega] at h9; exact h9) ⟨by omega, by omega⟩ (by omega) (by decide)), (by have h90 : Int32.toInt 0 = 0 := (by decide); omega), (st_lo (p_fob_world).1.1 (by omega)), rfl, ⟨hP, hD⟩, hS, lv_sub hl [0, 1, 2, 3, 4, 5] rfl⟩
            · skip
              obtain ⟨hP, hD⟩ : vPD G A H [(ce_X10 ob ob_thrown ob_world ob_images ob_hasImage ob_tape ob_taped ob_five ob_size ob_at ob_from ob_token ob_value ob_faultKind ob_faultPlace ob_fresh ob_parts ob_houses ob_houseMany ob_worthOf ob_byCall ob_over ob_bestSet ob_bestOver ob_bestWorth ob_row ob_tenDebts ob_tenMany ob_fewestBy ob_covered ob_queue ob_cameBy ob_parent ob_met ob_calls ob_callMany ob_calledOn ob_saved ob_many ob_width ob_numbers ob_moving), (ce_i9080 y ob_world fob_world), (ce_i6 y ob_parts f_1016)] := ⟨hP, hD⟩
              refine lv_istore (lv' := [(8, .int 1), (9, .int v_1412), (7, .int v_1363), (6, .int v_1272), (0, .ref ob), (3, .int a3)]) hx hb dX10_lineFor_138 hl (by decide) rfl (fun ls hl => ?_)
              obtain ⟨v_1445, ev_1445⟩ : ∃ z : Int32, z = v_1412 + 1 := ⟨_, rfl⟩
              have qv_1445 := ba_add ev_1445 nc_1432.1 (bkc (x := 1) (c := 1) (by decide)) (by decide)
              have bv_1445 : (1 : Int) ≤ v_1445.toInt ∧ v_1445.toInt ≤ 180 := bq_add qv_1445 nc_1432.1 (bkc (x := 1) (c := 1) (by decide)) _ _ (by decide)
              have qv_1445 : v_1445.toInt = v_1412.toInt + (1) := qv_1445
              refine lv_iinc (v := v_1445) (lv' := [(9, .int v_1445), (8, .int 1), (7, .int v_1363), (6, .int v_1272), (0, .ref ob), (3, .int a3)]) hx hb dX10_lineFor_140 hl (k := 1) rfl (ev_1445.symm) (by decide) rfl (fun ls hl => ?_)
              refine lv_goto (tgt := 103) hx hb dX10_lineFor_143 (by decide) ?_
              exact ih_1429 _ (ml_inc (hi := 180) hn_1429 qv_1445 (by decide) ((bw (0) (180) bv_1445 (by decide))).2) _ _ _ _ ⟨v_1445, 1, rfl, (bw (0) (180) bv_1445 (by decide)), (bw (0) (1) (bkc (x := 1) (c := 1) (by decide)) (by decide)), (al_y rl1413_0 (by omega) (by have h9 := h_1443; rw [show v_1439.toInt.toNat = ((fob_world (157 + 5 * v_1272.toInt.toNat)).toInt + v_1412.toInt).toNat from by omega] at h9; exact h9) ⟨by omega, by omega⟩ (by omega) (by decide)), (by have h90 : Int32.toInt 1 = 1 := (by decide); omega), (st_lo (p_fob_world).1.1 (by omega)), rfl, ⟨hP, hD⟩, hS, lv_sub hl [0, 1, 2, 3, 4, 5] rfl⟩
      · skip
        have nc_1365 : v_1364.toInt ≠ a3.toInt := fun h9 => c_1365 (Int32.toInt_inj.mp h9)
        refine lv_goto (tgt := 154) hx hb dX10_lineFor_94 (by decide) ?_
        obtain ⟨v_1446, ev_1446⟩ : ∃ z : Int32, z = v_1272 + 1 := ⟨_, rfl⟩
        have qv_1446 := ba_add ev_1446 nc_1361.1 (bkc (x := 1) (c := 1) (by decide)) (by decide)
        have bv_1446 : (1 : Int) ≤ v_1446.toInt ∧ v_1446.toInt ≤ 24 := bq_add qv_1446 nc_1361.1 (bkc (x := 1) (c := 1) (by decide)) _ _ (by decide)
        have qv_1446 : v_1446.toInt = v_1272.toInt + (1) := qv_1446
        refine lv_iinc (v := v_1446) (lv' := [(6, .int v_1446), (7, .int v_1363), (0, .ref ob), (3, .int a3)]) hx hb dX10_lineFor_154 hl (k := 1) rfl (ev_1446.symm) (by decide) rfl (fun ls hl => ?_)
        refine lv_goto (tgt := 62) hx hb dX10_lineFor_157 (by decide) ?_
        exact ih_1359 _ (ml_inc (hi := 24) hn_1359 qv_1446 (by decide) ((bw (0) (24) bv_1446 (by decide))).2) _ _ _ _ ⟨v_1446, rfl, (bw (0) (24) bv_1446 (by decide)), (by have lm1 : Int32.toInt (-1) = -1 := (by decide); have l91 : Int32.toInt 1 = 1 := (by decide); have l92 : Int32.toInt 2 = 2 := (by decide); have l93 : Int32.toInt 3 = 3 := (by decide); intro C L H H2; exact li_n (rl1272_0 C L H H2) (by have h9 := H.1; omega) (fun x hx => Or.inl (by have h9 := (H.2 _ x hx).2.1; omega)) (by omega)), (by omega), rfl, ⟨hP, hD⟩, hS, lv_sub hl [0, 2, 3] rfl⟩
  · skip
    refine lv_if_eq (tgt := 57) hx hb dX10_lineFor_50 (by decide) (fun c_1447 => ?_) (fun c_1447 => ?_)
    · skip
      have nc_1447 := nb_eq (0) (0) c_1447 p_a4 (bkc (x := 0) (c := 0) (by decide)) (by decide)
      refine lv_iconst (v := 0) hx hb dX10_lineFor_57 (by decide) ?_
      exact J_58_1015 _ _ _ _ ⟨0, (bw (0) (1) (bkc (x := 0) (c := 0) (by decide)) (by decide)), (by have h90 : Int32.toInt 0 = 0 := (by decide); omega), rfl, ⟨hP, hD⟩, hS, lv_sub hl [0, 3] rfl⟩
    · skip
      have nc_1447 := nb_ne (1) (1) c_1447 p_a4 (k := 0) (by decide) (by decide)
      refine lv_iconst (v := 1) hx hb dX10_lineFor_53 (by decide) ?_
      refine lv_goto (tgt := 58) hx hb dX10_lineFor_54 (by decide) ?_
      exact J_58_1015 _ _ _ _ ⟨1, (bw (0) (1) (bkc (x := 1) (c := 1) (by decide)) (by decide)), (by have h90 : Int32.toInt 1 = 1 := (by decide); omega), rfl, ⟨hP, hD⟩, hS, lv_sub hl [0, 3] rfl⟩
