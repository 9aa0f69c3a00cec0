set_option maxHeartbeats 4000000 in
set_option maxRecDepth 100000 in
theorem sX10_readHouse (l : Launch) (G : va_G) (y : Nat → ClassId) (aK aV : Nat → Nat) (sz : Nat) (ob : Nat) (ob_thrown : Int32) (ob_world : Nat) (ob_images : Nat) (ob_hasImage : Nat) (ob_tape : Nat) (ob_taped : Int32) (ob_five : Nat) (ob_size : Int32) (ob_at : Int32) (ob_from : Int32) (ob_token : Int32) (ob_value : Int32) (ob_faultKind : Int32) (ob_faultPlace : Int32) (ob_fresh : Nat) (ob_parts : Nat) (ob_houses : Nat) (ob_houseMany : Int32) (ob_worthOf : Nat) (ob_byCall : Nat) (ob_over : Nat) (ob_bestSet : Int32) (ob_bestOver : Int32) (ob_bestWorth : Int32) (ob_row : Nat) (ob_tenDebts : Nat) (ob_tenMany : Int32) (ob_fewestBy : Nat) (ob_covered : Nat) (ob_queue : Nat) (ob_cameBy : Nat) (ob_parent : Nat) (ob_met : Nat) (ob_calls : Nat) (ob_callMany : Int32) (ob_calledOn : Nat) (ob_saved : Nat) (ob_many : Nat) (ob_width : Nat) (ob_numbers : Nat) (ob_moving : Nat) (fob_tape : Nat → Int32) (fob_fresh : Nat → Int32) (p_fob_tape : ∀ i, (-128 : Int) ≤ (fob_tape i).toInt ∧ (fob_tape i).toInt ≤ 127) (p_ob_taped : (0 : Int) ≤ ob_taped.toInt ∧ ob_taped.toInt ≤ 1400) (p_ob_size : (0 : Int) ≤ ob_size.toInt ∧ ob_size.toInt ≤ 1400) (p_ob_at : (0 : Int) ≤ ob_at.toInt ∧ ob_at.toInt ≤ 1400) (p_ob_from : (0 : Int) ≤ ob_from.toInt ∧ ob_from.toInt ≤ 1400) (p_ob_token : (0 : Int) ≤ ob_token.toInt ∧ ob_token.toInt ≤ 4) (p_ob_value : (0 : Int) ≤ ob_value.toInt ∧ ob_value.toInt ≤ 9999) (p_ob_faultKind : (0 : Int) ≤ ob_faultKind.toInt ∧ ob_faultKind.toInt ≤ 3) (p_fob_fresh : RWw fob_fresh) (p_ob_houseMany : (0 : Int) ≤ ob_houseMany.toInt ∧ ob_houseMany.toInt ≤ 10) (p_ob_bestSet : (0 : Int) ≤ ob_bestSet.toInt ∧ ob_bestSet.toInt ≤ 1023) (p_ob_bestOver : (-1 : Int) ≤ ob_bestOver.toInt ∧ ob_bestOver.toInt ≤ 180) (p_ob_tenMany : (0 : Int) ≤ ob_tenMany.toInt ∧ ob_tenMany.toInt ≤ 10) (p_ob_callMany : (0 : Int) ≤ ob_callMany.toInt ∧ ob_callMany.toInt ≤ 16) (hq0 : ob_from.toInt ≤ ob_at.toInt) (hq1 : ob_token.toInt = 0 ∨ ob_from.toInt < ob_at.toInt) (hq2 : qTok fob_tape ob_size.toInt 9999 ob_token.toInt ob_from.toInt ob_at.toInt ob_value.toInt) (hq3 : 4 * (fob_fresh 3).toInt ≤ ob_from.toInt + 3) (hq4 : 2 * (fob_fresh 2).toInt ≤ (fob_fresh 3).toInt) (hq5 : (fob_fresh 0).toInt ≤ 15) : Met l yX10_readHouse (Cond.code yX10_readHouse cX10_readHouse 2 none :: wAll) ({ frames := 8, cells := 0, slots := 0, locals := 174 }) (va_Pc [.ref ob] (kps G y aK aV sz [(ce_X10 ob ob_thrown ob_world ob_images ob_hasImage ob_tape ob_taped ob_five ob_size ob_at ob_from ob_token ob_value ob_faultKind ob_faultPlace ob_fresh ob_parts ob_houses ob_houseMany ob_worthOf ob_byCall ob_over ob_bestSet ob_bestOver ob_bestWorth ob_row ob_tenDebts ob_tenMany ob_fewestBy ob_covered ob_queue ob_cameBy ob_parent ob_met ob_calls ob_callMany ob_calledOn ob_saved ob_many ob_width ob_numbers ob_moving), (ce_b1400 y ob_tape fob_tape), (ce_i9080 y ob_fresh fob_fresh)])) (va_Qv (fun (w : va_W) => (∃ (v_593 : Int32) (v_594 : Int32) (v_595 : Int32) (v_596 : Int32) (v_597 : Int32) (v_598 : Int32) (f_599 : Nat → Int32), ((0 : Int) ≤ v_593.toInt ∧ v_593.toInt ≤ 1400) ∧ ((0 : Int) ≤ v_594.toInt ∧ v_594.toInt ≤ 1400) ∧ ((0 : Int) ≤ v_595.toInt ∧ v_595.toInt ≤ 4) ∧ ((0 : Int) ≤ v_596.toInt ∧ v_596.toInt ≤ 9999) ∧ ((0 : Int) ≤ v_597.toInt ∧ v_597.toInt ≤ 3) ∧ (RWw f_599) ∧ (((v_597.toInt, v_598.toInt, v_594.toInt) : Int × Int × Int) = r_opt fob_tape ob_size.toInt 12 0 99 (r_opt fob_tape ob_size.toInt 11 0 399 (r_h2 fob_tape ob_size.toInt ((ob_faultKind.toInt, ob_faultPlace.toInt, ob_from.toInt) : Int × Int × Int)))) ∧ (qTok fob_tape ob_size.toInt 9999 v_595.toInt v_594.toInt v_593.toInt v_596.toInt) ∧ (v_594.toInt ≤ v_593.toInt) ∧ (v_595.toInt = 0 ∨ v_594.toInt < v_593.toInt) ∧ (ob_from.toInt ≤ v_594.toInt) ∧ (ob_faultKind.toInt = 0 ∨ ¬ v_597.toInt = 0) ∧ (4 * (f_599 3).toInt ≤ v_594.toInt + 3) ∧ (2 * (f_599 2).toInt ≤ (f_599 3).toInt) ∧ (¬ v_597.toInt = 0 ∨ (f_599 0).toInt = (fob_fresh 0).toInt + 1) ∧ ((f_599 1).toInt = (fob_fresh 1).toInt) ∧ w = [(ce_X10 ob ob_thrown ob_world ob_images ob_hasImage ob_tape ob_taped ob_five ob_size v_593 v_594 v_595 v_596 v_597 v_598 ob_fresh ob_parts ob_houses ob_houseMany ob_worthOf ob_byCall ob_over ob_bestSet ob_bestOver ob_bestWorth ob_row ob_tenDebts ob_tenMany ob_fewestBy ob_covered ob_queue ob_cameBy ob_parent ob_met ob_calls ob_callMany ob_calledOn ob_saved ob_many ob_width ob_numbers ob_moving), (ce_b1400 y ob_tape fob_tape), (ce_i9080 y ob_fresh f_599)])) (kq G (va_A [(ce_X10 ob ob_thrown ob_world ob_images ob_hasImage ob_tape ob_taped ob_five ob_size ob_at ob_from ob_token ob_value ob_faultKind ob_faultPlace ob_fresh ob_parts ob_houses ob_houseMany ob_worthOf ob_byCall ob_over ob_bestSet ob_bestOver ob_bestWorth ob_row ob_tenDebts ob_tenMany ob_fewestBy ob_covered ob_queue ob_cameBy ob_parent ob_met ob_calls ob_callMany ob_calledOn ob_saved ob_many ob_width ob_numbers ob_moving), (ce_b1400 y ob_tape fob_tape), (ce_i9080 y ob_fresh fob_fresh)] sz)) (va_A [(ce_X10 ob ob_thrown ob_world ob_images ob_hasImage ob_tape ob_taped ob_five ob_size ob_at ob_from ob_token ob_value ob_faultKind ob_faultPlace ob_fresh ob_parts ob_houses ob_houseMany ob_worthOf ob_byCall ob_over ob_bestSet ob_bestOver ob_bestWorth ob_row ob_tenDebts ob_tenMany ob_fewestBy ob_covered ob_queue ob_cameBy ob_parent ob_met ob_calls ob_callMany ob_calledOn ob_saved ob_many ob_width ob_numbers ob_moving), (ce_b1400 y ob_tape fob_tape), (ce_i9080 y ob_fresh fob_fresh)] sz)) 0 0 (va_A [(ce_X10 ob ob_thrown ob_world ob_images ob_hasImage ob_tape ob_taped ob_five ob_size ob_at ob_from ob_token ob_value ob_faultKind ob_faultPlace ob_fresh ob_parts ob_houses ob_houseMany ob_worthOf ob_byCall ob_over ob_bestSet ob_bestOver ob_bestWorth ob_row ob_tenDebts ob_tenMany ob_fewestBy ob_covered ob_queue ob_cameBy ob_parent ob_met ob_calls ob_callMany ob_calledOn ob_saved ob_many ob_width ob_numbers ob_moving), (ce_b1400 y ob_tape fob_tape), (ce_i9080 y ob_fresh fob_fresh)] sz) := by
  refine Met.ofW (cc := cX10_readHouse) (maxL := 2) (ret := none) (by decide) rfl ?_
  intro p e s m args below meth c s₁ B hml hv
  obtain ⟨rfl, ⟨hsz, hP, hK, hD0⟩, hE⟩ := hv
  have hx := B.exec
  have hb := B.bytes
  have hr := B.returns
  have hw0 : ∀ w ∈ wAll, w.before _ s = true := fun w h => atoms_spec (ws := Cond.code yX10_readHouse cX10_readHouse 2 none :: wAll) B.pre w (List.mem_cons_of_mem _ h)
  have hown : s.vm.findClass RX10 = some m.cls := findClass_of_methodNamed B.named
  subst hsz
  have hD := hD0.self (sz := s.heap.size)
  generalize hAe : va_A [(ce_X10 ob ob_thrown ob_world ob_images ob_hasImage ob_tape ob_taped ob_five ob_size ob_at ob_from ob_token ob_value ob_faultKind ob_faultPlace ob_fresh ob_parts ob_houses ob_houseMany ob_worthOf ob_byCall ob_over ob_bestSet ob_bestOver ob_bestWorth ob_row ob_tenDebts ob_tenMany ob_fewestBy ob_covered ob_queue ob_cameBy ob_parent ob_met ob_calls ob_callMany ob_calledOn ob_saved ob_many ob_width ob_numbers ob_moving), (ce_b1400 y ob_tape fob_tape), (ce_i9080 y ob_fresh fob_fresh)] s.heap.size = A at hD hE ⊢
  have hA : ∀ q : Nat, s.heap.size ≤ q → A q := fun q h => by rw [← hAe]; exact Or.inr h
  have hS : va_S A s.heap s.heap [] := va_S.rf
  have hP : va_P G vwCl [(ce_X10 ob ob_thrown ob_world ob_images ob_hasImage ob_tape ob_taped ob_five ob_size ob_at ob_from ob_token ob_value ob_faultKind ob_faultPlace ob_fresh ob_parts ob_houses ob_houseMany ob_worthOf ob_byCall ob_over ob_bestSet ob_bestOver ob_bestWorth ob_row ob_tenDebts ob_tenMany ob_fewestBy ob_covered ob_queue ob_cameBy ob_parent ob_met ob_calls ob_callMany ob_calledOn ob_saved ob_many ob_width ob_numbers ob_moving), (ce_b1400 y ob_tape fob_tape), (ce_i9080 y ob_fresh fob_fresh)] s.heap := hP
  have hl := lv_entry ([.ref ob]) (n := 2) (Nat.le_of_ble_eq_true rfl)
  rw [lg_entry_eq]
  generalize (lg_sl ([.ref ob]) ++ List.replicate (2 - (lg_sl ([.ref ob])).length) Slot.unset).toArray = ls at hl ⊢
  have hl : lv_has ls 2 [(0, .ref ob)] := hl
  refine lv_bipush (v := 10) hx hb dX10_readHouse_0 (by decide) ?_
  refine lv_bipush (v := 9) hx hb dX10_readHouse_2 (by decide) ?_
  refine lv_aload_n hx hb dX10_readHouse_4 rfl (lv_at hl 0 rfl) ?_
  refine va_get (D := G) (ci := 10) (v := .ref ob_fresh) (C := RX10) (T := TX10) (N := 41) hx hb hw0 inA_wsX100 hown hK.1 hP 0 rfl rfl 14 (by decide) (hw0 _ m_521) (fun _ h9 => h9) rfl dX10_readHouse_5 ?_
  refine lv_iconst (v := 0) hx hb dX10_readHouse_8 (by decide) ?_
  refine va_iald hx hb hK.1 hP 2 1 rfl rfl (vi (bkc (x := 0) (c := 0) (by decide)) (by decide)) dX10_readHouse_9 ?_
  refine lv_topi (fun v_1001 ev_1001 => ?_)
  have bv_1001 : (0 : Int) ≤ v_1001.toInt ∧ v_1001.toInt ≤ 16 := rdk ev_1001 (p_fob_fresh).1.1 (by decide)
  have yv_1001 : v_1001.toInt = (fob_fresh 0).toInt := congrArg Int32.toInt ev_1001
  have h_1002 : (0 : Int) ≤ v_1001.toInt ∧ v_1001.toInt ≤ 15 := by omega
  refine lv_imul hx hb dX10_readHouse_10 ?_
  refine lv_topi (fun v_1003 ev_1003 => ?_)
  have qv_1003 := ba_mul 9 (ev_1003.trans (Int32.mul_comm _ _)) h_1002 (by decide) (by decide) (by decide)
  have bv_1003 : (0 : Int) ≤ v_1003.toInt ∧ v_1003.toInt ≤ 135 := qv_1003.2
  refine lv_iadd hx hb dX10_readHouse_11 ?_
  refine lv_topi (fun v_1004 ev_1004 => ?_)
  have qv_1004 := ba_add ev_1004 (bkc (x := 10) (c := 10) (by decide)) bv_1003 (by decide)
  have bv_1004 : (10 : Int) ≤ v_1004.toInt ∧ v_1004.toInt ≤ 145 := bq_add qv_1004 (bkc (x := 10) (c := 10) (by decide)) bv_1003 _ _ (by decide)
  have qv_1004 : v_1004.toInt = (10) + v_1003.toInt := qv_1004
  refine lv_istore_n (lv' := [(1, .int v_1004), (0, .ref ob)]) hx hb dX10_readHouse_12 rfl hl (by decide) rfl (fun ls hl => ?_)
  refine lv_aload_n hx hb dX10_readHouse_13 rfl (lv_at hl 1 rfl) ?_
  refine va_get (D := G) (ci := 10) (v := .ref ob_fresh) (C := RX10) (T := TX10) (N := 41) hx hb hw0 inA_wsX100 hown hK.1 hP 0 rfl rfl 14 (by decide) (hw0 _ m_521) (fun _ h9 => h9) rfl dX10_readHouse_14 ?_
  refine lv_iload_n hx hb dX10_readHouse_17 rfl (lv_at hl 0 rfl) ?_
  refine lv_iconst (v := 0) hx hb dX10_readHouse_18 (by decide) ?_
  refine lv_iadd hx hb dX10_readHouse_19 ?_
  refine lv_topi (fun v_1005 ev_1005 => ?_)
  have qv_1005 := ba_add ev_1005 bv_1004 (bkc (x := 0) (c := 0) (by decide)) (by decide)
  have bv_1005 : (10 : Int) ≤ v_1005.toInt ∧ v_1005.toInt ≤ 145 := bq_add qv_1005 bv_1004 (bkc (x := 0) (c := 0) (by decide)) _ _ (by decide)
  have qv_1005 : v_1005.toInt = v_1004.toInt + (0) := qv_1005
  refine lv_aload_n hx hb dX10_readHouse_20 rfl (lv_at hl 1 rfl) ?_
  refine va_ldcS (own := RX10) (tx := "at") (q := aK 36) hx hb hown (hE.2.1 ("CardBowlModel", 205, "at", 36) sl_CardBowlModel_205) dX10_readHouse_21 ?_
  refine lv_iconst (v := 0) hx hb dX10_readHouse_23 (by decide) ?_
  refine lv_bipush (v := 99) hx hb dX10_readHouse_24 (by decide) ?_
  refine cViSm (As := [.ref (aK 36), .int 0, .int 99]) (rest := [.int v_1005, .ref ob_fresh]) ⟨hx, hb, hml, hown, hw0⟩ hA hK hP hD hS hE [true, true] (stold0_99 l G y aK aV _ ob 36 ob_thrown ob_world ob_images ob_hasImage ob_tape ob_taped ob_five ob_size ob_at ob_from ob_token ob_value ob_faultKind ob_faultPlace ob_fresh ob_parts ob_houses ob_houseMany ob_worthOf ob_byCall ob_over ob_bestSet ob_bestOver ob_bestWorth ob_row ob_tenDebts ob_tenMany ob_fewestBy ob_covered ob_queue ob_cameBy ob_parent ob_met ob_calls ob_callMany ob_calledOn ob_saved ob_many ob_width ob_numbers ob_moving fob_tape p_fob_tape p_ob_taped p_ob_size p_ob_at p_ob_from p_ob_token p_ob_value p_ob_faultKind p_ob_houseMany p_ob_bestSet p_ob_bestOver p_ob_tenMany p_ob_callMany (by decide) (by omega) (by omega) (by assumption) (by decide +kernel)) rfl ⟨(callB_of 3 hw0 (gA m_690) rfl rfl rfl (hw0 _ m_41) (hw0 _ m_602) cb_X10_told ⟨Nat.le_of_ble_eq_true rfl, Nat.le_of_ble_eq_true rfl⟩), (hw0 _ m_603), (hw0 _ m_604)⟩ (ci := 10) (q := (RX10, TX10, 41)) rfl rfl rfl hl.1 (Nat.le_of_ble_eq_true rfl) dX10_readHouse_26 ⟨Nat.le_of_ble_eq_true rfl, Nat.le_of_ble_eq_true rfl⟩ (fun r_1006 w_1006 H locs hw_1006 hP hD hS => ?_)
  obtain ⟨v_1007, v_1008, v_1009, v_1010, v_1011, v_1012, v_1013, bv_1007, bv_1008, bv_1009, bv_1010, bv_1011, bv_1012, h_1014, h_1015, h_1016, h_1017, h_1018, h_1019, h_1020, h_1021, er_1006, rfl⟩ := hw_1006
  subst r_1006
  have hLh_1022 : ((lenS.getD 36 0 : Nat) : Int) = 2 := by decide
  obtain ⟨hP, hD⟩ : vPD G A H [(ce_X10 ob ob_thrown ob_world ob_images ob_hasImage ob_tape ob_taped ob_five ob_size v_1008 v_1009 v_1010 v_1011 v_1012 v_1013 ob_fresh ob_parts ob_houses ob_houseMany ob_worthOf ob_byCall ob_over ob_bestSet ob_bestOver ob_bestWorth ob_row ob_tenDebts ob_tenMany ob_fewestBy ob_covered ob_queue ob_cameBy ob_parent ob_met ob_calls ob_callMany ob_calledOn ob_saved ob_many ob_width ob_numbers ob_moving), (ce_b1400 y ob_tape fob_tape), (ce_i9080 y ob_fresh fob_fresh)] := ⟨hP, hD⟩
  refine va_iast hx hb hK.1 hP hD hS 2 1 rfl rfl (vi bv_1005 (by decide)) dX10_readHouse_29 (fun H locs hP hD hS => ?_)
  generalize hf_1023 : (upd fob_fresh (v_1005 : Int32).toNatClampNeg v_1007) = f_1023 at hP hD
  have zf_1023_0 : (f_1023 0).toInt = (fob_fresh 0).toInt := hf_1023 ▸ pin_ne (ix_not bv_1005 (by decide))
  have zf_1023_1 : (f_1023 1).toInt = (fob_fresh 1).toInt := hf_1023 ▸ pin_ne (ix_not bv_1005 (by decide))
  have zf_1023_2 : (f_1023 2).toInt = (fob_fresh 2).toInt := hf_1023 ▸ pin_ne (ix_not bv_1005 (by decide))
  have zf_1023_3 : (f_1023 3).toInt = (fob_fresh 3).toInt := hf_1023 ▸ pin_ne (ix_not bv_1005 (by decide))
  have bf_1023 : RBw f_1023 := hf_1023 ▸ upw (p_fob_fresh).1.1 pl_85 (by omega) (h_1002) bv_1007
  have cf_1023 : RVw f_1023 := hf_1023 ▸ RV_up (p_fob_fresh).1 (hf_1023 ▸ bf_1023) (ix_out bv_1005 (by decide))
  have df_1023 : RWw f_1023 := ⟨cf_1023, hf_1023 ▸ WQ_up (p_fob_fresh).1.1 (p_fob_fresh).2 (qf_ix bv_1005 (by decide))⟩
  obtain ⟨hP, hD⟩ : vPD G A H [(ce_X10 ob ob_thrown ob_world ob_images ob_hasImage ob_tape ob_taped ob_five ob_size v_1008 v_1009 v_1010 v_1011 v_1012 v_1013 ob_fresh ob_parts ob_houses ob_houseMany ob_worthOf ob_byCall ob_over ob_bestSet ob_bestOver ob_bestWorth ob_row ob_tenDebts ob_tenMany ob_fewestBy ob_covered ob_queue ob_cameBy ob_parent ob_met ob_calls ob_callMany ob_calledOn ob_saved ob_many ob_width ob_numbers ob_moving), (ce_b1400 y ob_tape fob_tape), (ce_i9080 y ob_fresh f_1023)] := ⟨hP, hD⟩
  refine lv_aload_n hx hb dX10_readHouse_30 rfl (lv_at hl 1 rfl) ?_
  refine va_get (D := G) (ci := 10) (v := .ref ob_fresh) (C := RX10) (T := TX10) (N := 41) hx hb hw0 inA_wsX100 hown hK.1 hP 0 rfl rfl 14 (by decide) (hw0 _ m_521) (fun _ h9 => h9) rfl dX10_readHouse_31 ?_
  refine lv_iload_n hx hb dX10_readHouse_34 rfl (lv_at hl 0 rfl) ?_
  refine lv_iconst (v := 1) hx hb dX10_readHouse_35 (by decide) ?_
  refine lv_iadd hx hb dX10_readHouse_36 ?_
  refine lv_topi (fun v_1024 ev_1024 => ?_)
  have qv_1024 := ba_add ev_1024 bv_1004 (bkc (x := 1) (c := 1) (by decide)) (by decide)
  have bv_1024 : (11 : Int) ≤ v_1024.toInt ∧ v_1024.toInt ≤ 146 := bq_add qv_1024 bv_1004 (bkc (x := 1) (c := 1) (by decide)) _ _ (by decide)
  have qv_1024 : v_1024.toInt = v_1004.toInt + (1) := qv_1024
  refine lv_aload_n hx hb dX10_readHouse_37 rfl (lv_at hl 1 rfl) ?_
  refine lv_iconst (v := 0) hx hb dX10_readHouse_38 (by decide) ?_
  refine lv_bipush (v := 99) hx hb dX10_readHouse_39 (by decide) ?_
  refine cVim (As := [.int 0, .int 99]) (rest := [.int v_1024, .ref ob_fresh]) ⟨hx, hb, hml, hown, hw0⟩ hA hK hP hD hS [true, true] (snr0_99 l G y _ ob ob_thrown ob_world ob_images ob_hasImage ob_tape ob_taped ob_five ob_size v_1008 v_1009 v_1010 v_1011 v_1012 v_1013 ob_fresh ob_parts ob_houses ob_houseMany ob_worthOf ob_byCall ob_over ob_bestSet ob_bestOver ob_bestWorth ob_row ob_tenDebts ob_tenMany ob_fewestBy ob_covered ob_queue ob_cameBy ob_parent ob_met ob_calls ob_callMany ob_calledOn ob_saved ob_many ob_width ob_numbers ob_moving fob_tape p_fob_tape p_ob_taped p_ob_size bv_1008 bv_1009 bv_1010 bv_1011 bv_1012 p_ob_houseMany p_ob_bestSet p_ob_bestOver p_ob_tenMany p_ob_callMany (by omega) (by omega) (by assumption)) rfl ⟨(callB_of 2 hw0 (gA m_572) rfl rfl rfl (hw0 _ m_41) (hw0 _ m_605) cb_X10_number ⟨Nat.le_of_ble_eq_true rfl, Nat.le_of_ble_eq_true rfl⟩), (hw0 _ m_606), (hw0 _ m_607)⟩ (ci := 10) (q := (RX10, TX10, 41)) rfl rfl rfl hl.1 (Nat.le_of_ble_eq_true rfl) dX10_readHouse_41 ⟨Nat.le_of_ble_eq_true rfl, Nat.le_of_ble_eq_true rfl⟩ (fun r_1025 w_1025 H locs hw_1025 hP hD hS => ?_)
  obtain ⟨v_1026, v_1027, v_1028, v_1029, v_1030, v_1031, v_1032, bv_1026, bv_1027, bv_1028, bv_1029, bv_1030, bv_1031, h_1033, h_1034, h_1035, h_1036, h_1037, h_1038, h_1039, h_1040, er_1025, rfl⟩ := hw_1025
  subst r_1025
  obtain ⟨hP, hD⟩ : vPD G A H [(ce_X10 ob ob_thrown ob_world ob_images ob_hasImage ob_tape ob_taped ob_five ob_size v_1027 v_1028 v_1029 v_1030 v_1031 v_1032 ob_fresh ob_parts ob_houses ob_houseMany ob_worthOf ob_byCall ob_over ob_bestSet ob_bestOver ob_bestWorth ob_row ob_tenDebts ob_tenMany ob_fewestBy ob_covered ob_queue ob_cameBy ob_parent ob_met ob_calls ob_callMany ob_calledOn ob_saved ob_many ob_width ob_numbers ob_moving), (ce_b1400 y ob_tape fob_tape), (ce_i9080 y ob_fresh f_1023)] := ⟨hP, hD⟩
  refine va_iast hx hb hK.1 hP hD hS 2 1 rfl rfl (vi bv_1024 (by decide)) dX10_readHouse_44 (fun H locs hP hD hS => ?_)
  generalize hf_1041 : (upd f_1023 (v_1024 : Int32).toNatClampNeg v_1026) = f_1041 at hP hD
  have zf_1041_0 : (f_1041 0).toInt = (f_1023 0).toInt := hf_1041 ▸ pin_ne (ix_not bv_1024 (by decide))
  have zf_1041_1 : (f_1041 1).toInt = (f_1023 1).toInt := hf_1041 ▸ pin_ne (ix_not bv_1024 (by decide))
  have zf_1041_2 : (f_1041 2).toInt = (f_1023 2).toInt := hf_1041 ▸ pin_ne (ix_not bv_1024 (by decide))
  have zf_1041_3 : (f_1041 3).toInt = (f_1023 3).toInt := hf_1041 ▸ pin_ne (ix_not bv_1024 (by decide))
  have bf_1041 : RBw f_1041 := hf_1041 ▸ upw (df_1023).1.1 pl_86 (by omega) (h_1002) bv_1026
  have cf_1041 : RVw f_1041 := hf_1041 ▸ RV_up (df_1023).1 (hf_1041 ▸ bf_1041) (ix_out bv_1024 (by decide))
  have df_1041 : RWw f_1041 := ⟨cf_1041, hf_1041 ▸ WQ_up (df_1023).1.1 (df_1023).2 (qf_ix bv_1024 (by decide))⟩
  obtain ⟨hP, hD⟩ : vPD G A H [(ce_X10 ob ob_thrown ob_world ob_images ob_hasImage ob_tape ob_taped ob_five ob_size v_1027 v_1028 v_1029 v_1030 v_1031 v_1032 ob_fresh ob_parts ob_houses ob_houseMany ob_worthOf ob_byCall ob_over ob_bestSet ob_bestOver ob_bestWorth ob_row ob_tenDebts ob_tenMany ob_fewestBy ob_covered ob_queue ob_cameBy ob_parent ob_met ob_calls ob_callMany ob_calledOn ob_saved ob_many ob_width ob_numbers ob_moving), (ce_b1400 y ob_tape fob_tape), (ce_i9080 y ob_fresh f_1041)] := ⟨hP, hD⟩
  refine lv_aload_n hx hb dX10_readHouse_45 rfl (lv_at hl 1 rfl) ?_
  refine va_get (D := G) (ci := 10) (v := .ref ob_fresh) (C := RX10) (T := TX10) (N := 41) hx hb hw0 inA_wsX100 hown hK.1 hP 0 rfl rfl 14 (by decide) (hw0 _ m_521) (fun _ h9 => h9) rfl dX10_readHouse_46 ?_
  refine lv_iload_n hx hb dX10_readHouse_49 rfl (lv_at hl 0 rfl) ?_
  refine lv_iconst (v := 2) hx hb dX10_readHouse_50 (by decide) ?_
  refine lv_iadd hx hb dX10_readHouse_51 ?_
  refine lv_topi (fun v_1042 ev_1042 => ?_)
  have qv_1042 := ba_add ev_1042 bv_1004 (bkc (x := 2) (c := 2) (by decide)) (by decide)
  have bv_1042 : (12 : Int) ≤ v_1042.toInt ∧ v_1042.toInt ≤ 147 := bq_add qv_1042 bv_1004 (bkc (x := 2) (c := 2) (by decide)) _ _ (by decide)
  have qv_1042 : v_1042.toInt = v_1004.toInt + (2) := qv_1042
  refine lv_aload_n hx hb dX10_readHouse_52 rfl (lv_at hl 1 rfl) ?_
  refine va_ldcS (own := RX10) (tx := "rank") (q := aK 37) hx hb hown (hE.2.1 ("CardBowlModel", 210, "rank", 37) sl_CardBowlModel_210) dX10_readHouse_53 ?_
  refine lv_iconst (v := 0) hx hb dX10_readHouse_55 (by decide) ?_
  refine lv_bipush (v := 9) hx hb dX10_readHouse_56 (by decide) ?_
  refine cViSm (As := [.ref (aK 37), .int 0, .int 9]) (rest := [.int v_1042, .ref ob_fresh]) ⟨hx, hb, hml, hown, hw0⟩ hA hK hP hD hS hE [true, true] (stold0_9 l G y aK aV _ ob 37 ob_thrown ob_world ob_images ob_hasImage ob_tape ob_taped ob_five ob_size v_1027 v_1028 v_1029 v_1030 v_1031 v_1032 ob_fresh ob_parts ob_houses ob_houseMany ob_worthOf ob_byCall ob_over ob_bestSet ob_bestOver ob_bestWorth ob_row ob_tenDebts ob_tenMany ob_fewestBy ob_covered ob_queue ob_cameBy ob_parent ob_met ob_calls ob_callMany ob_calledOn ob_saved ob_many ob_width ob_numbers ob_moving fob_tape p_fob_tape p_ob_taped p_ob_size bv_1027 bv_1028 bv_1029 bv_1030 bv_1031 p_ob_houseMany p_ob_bestSet p_ob_bestOver p_ob_tenMany p_ob_callMany (by decide) (by omega) (by omega) (by assumption) (by decide +kernel)) rfl ⟨(callB_of 3 hw0 (gA m_690) rfl rfl rfl (hw0 _ m_41) (hw0 _ m_602) cb_X10_told ⟨Nat.le_of_ble_eq_true rfl, Nat.le_of_ble_eq_true rfl⟩), (hw0 _ m_603), (hw0 _ m_604)⟩ (ci := 10) (q := (RX10, TX10, 41)) rfl rfl rfl hl.1 (Nat.le_of_ble_eq_true rfl) dX10_readHouse_58 ⟨Nat.le_of_ble_eq_true rfl, Nat.le_of_ble_eq_true rfl⟩ (fun r_1043 w_1043 H locs hw_1043 hP hD hS => ?_)
  obtain ⟨v_1044, v_1045, v_1046, v_1047, v_1048, v_1049, v_1050, bv_1044, bv_1045, bv_1046, bv_1047, bv_1048, bv_1049, h_1051, h_1052, h_1053, h_1054, h_1055, h_1056, h_1057, h_1058, er_1043, rfl⟩ := hw_1043
  subst r_1043
  have hLh_1059 : ((lenS.getD 37 0 : Nat) : Int) = 4 := by decide
  obtain ⟨hP, hD⟩ : vPD G A H [(ce_X10 ob ob_thrown ob_world ob_images ob_hasImage ob_tape ob_taped ob_five ob_size v_1045 v_1046 v_1047 v_1048 v_1049 v_1050 ob_fresh ob_parts ob_houses ob_houseMany ob_worthOf ob_byCall ob_over ob_bestSet ob_bestOver ob_bestWorth ob_row ob_tenDebts ob_tenMany ob_fewestBy ob_covered ob_queue ob_cameBy ob_parent ob_met ob_calls ob_callMany ob_calledOn ob_saved ob_many ob_width ob_numbers ob_moving), (ce_b1400 y ob_tape fob_tape), (ce_i9080 y ob_fresh f_1041)] := ⟨hP, hD⟩
  refine va_iast hx hb hK.1 hP hD hS 2 1 rfl rfl (vi bv_1042 (by decide)) dX10_readHouse_61 (fun H locs hP hD hS => ?_)
  generalize hf_1060 : (upd f_1041 (v_1042 : Int32).toNatClampNeg v_1044) = f_1060 at hP hD
  have zf_1060_0 : (f_1060 0).toInt = (f_1041 0).toInt := hf_1060 ▸ pin_ne (ix_not bv_1042 (by decide))
  have zf_1060_1 : (f_1060 1).toInt = (f_1041 1).toInt := hf_1060 ▸ pin_ne (ix_not bv_1042 (by decide))
  have zf_1060_2 : (f_1060 2).toInt = (f_1041 2).toInt := hf_1060 ▸ pin_ne (ix_not bv_1042 (by decide))
  have zf_1060_3 : (f_1060 3).toInt = (f_1041 3).toInt := hf_1060 ▸ pin_ne (ix_not bv_1042 (by decide))
  have bf_1060 : RBw f_1060 := hf_1060 ▸ upw (df_1041).1.1 pl_87 (by omega) (h_1002) bv_1044
  have cf_1060 : RVw f_1060 := hf_1060 ▸ RV_up (df_1041).1 (hf_1060 ▸ bf_1060) (ix_out bv_1042 (by decide))
  have df_1060 : RWw f_1060 := ⟨cf_1060, hf_1060 ▸ WQ_up (df_1041).1.1 (df_1041).2 (qf_ix bv_1042 (by decide))⟩
  obtain ⟨hP, hD⟩ : vPD G A H [(ce_X10 ob ob_thrown ob_world ob_images ob_hasImage ob_tape ob_taped ob_five ob_size v_1045 v_1046 v_1047 v_1048 v_1049 v_1050 ob_fresh ob_parts ob_houses ob_houseMany ob_worthOf ob_byCall ob_over ob_bestSet ob_bestOver ob_bestWorth ob_row ob_tenDebts ob_tenMany ob_fewestBy ob_covered ob_queue ob_cameBy ob_parent ob_met ob_calls ob_callMany ob_calledOn ob_saved ob_many ob_width ob_numbers ob_moving), (ce_b1400 y ob_tape fob_tape), (ce_i9080 y ob_fresh f_1060)] := ⟨hP, hD⟩
  refine lv_aload_n hx hb dX10_readHouse_62 rfl (lv_at hl 1 rfl) ?_
  refine va_ldcS (own := RX10) (tx := "home") (q := aK 38) hx hb hown (hE.2.1 ("CardBowlModel", 212, "home", 38) sl_CardBowlModel_212) dX10_readHouse_63 ?_
  refine cVvSm (As := [.ref (aK 38)]) (rest := []) ⟨hx, hb, hml, hown, hw0⟩ hA hK hP hD hS hE [true, true] (sX10_needs l G y aK aV _ ob 38 ob_thrown ob_world ob_images ob_hasImage ob_tape ob_taped ob_five ob_size v_1045 v_1046 v_1047 v_1048 v_1049 v_1050 ob_fresh ob_parts ob_houses ob_houseMany ob_worthOf ob_byCall ob_over ob_bestSet ob_bestOver ob_bestWorth ob_row ob_tenDebts ob_tenMany ob_fewestBy ob_covered ob_queue ob_cameBy ob_parent ob_met ob_calls ob_callMany ob_calledOn ob_saved ob_many ob_width ob_numbers ob_moving fob_tape p_fob_tape p_ob_taped p_ob_size bv_1045 bv_1046 bv_1047 bv_1048 bv_1049 p_ob_houseMany p_ob_bestSet p_ob_bestOver p_ob_tenMany p_ob_callMany (by decide) (by omega) (by omega) (by assumption) (by decide +kernel)) rfl ⟨(callB_of 1 hw0 (gA m_564) rfl rfl rfl (hw0 _ m_41) (hw0 _ m_608) cb_X10_needs ⟨Nat.le_of_ble_eq_true rfl, Nat.le_of_ble_eq_true rfl⟩), (hw0 _ m_609), (hw0 _ m_610)⟩ (ci := 10) (q := (RX10, TX10, 41)) rfl rfl rfl hl.1 (Nat.le_of_ble_eq_true rfl) dX10_readHouse_65 ⟨Nat.le_of_ble_eq_true rfl, Nat.le_of_ble_eq_true rfl⟩ (fun w_1061 H locs hw_1061 hP hD hS => ?_)
  obtain ⟨v_1062, v_1063, v_1064, v_1065, v_1066, v_1067, bv_1062, bv_1063, bv_1064, bv_1065, bv_1066, h_1068, h_1069, h_1070, h_1071, h_1072, h_1073, h_1074, rfl⟩ := hw_1061
  have hLh_1075 : ((lenS.getD 38 0 : Nat) : Int) = 4 := by decide
  obtain ⟨hP, hD⟩ : vPD G A H [(ce_X10 ob ob_thrown ob_world ob_images ob_hasImage ob_tape ob_taped ob_five ob_size v_1062 v_1063 v_1064 v_1065 v_1066 v_1067 ob_fresh ob_parts ob_houses ob_houseMany ob_worthOf ob_byCall ob_over ob_bestSet ob_bestOver ob_bestWorth ob_row ob_tenDebts ob_tenMany ob_fewestBy ob_covered ob_queue ob_cameBy ob_parent ob_met ob_calls ob_callMany ob_calledOn ob_saved ob_many ob_width ob_numbers ob_moving), (ce_b1400 y ob_tape fob_tape), (ce_i9080 y ob_fresh f_1060)] := ⟨hP, hD⟩
  refine lv_aload_n hx hb dX10_readHouse_68 rfl (lv_at hl 1 rfl) ?_
  refine va_get (D := G) (ci := 10) (v := .ref ob_fresh) (C := RX10) (T := TX10) (N := 41) hx hb hw0 inA_wsX100 hown hK.1 hP 0 rfl rfl 14 (by decide) (hw0 _ m_521) (fun _ h9 => h9) rfl dX10_readHouse_69 ?_
  refine lv_iload_n hx hb dX10_readHouse_72 rfl (lv_at hl 0 rfl) ?_
  refine lv_iconst (v := 3) hx hb dX10_readHouse_73 (by decide) ?_
  refine lv_iadd hx hb dX10_readHouse_74 ?_
  refine lv_topi (fun v_1076 ev_1076 => ?_)
  have qv_1076 := ba_add ev_1076 bv_1004 (bkc (x := 3) (c := 3) (by decide)) (by decide)
  have bv_1076 : (13 : Int) ≤ v_1076.toInt ∧ v_1076.toInt ≤ 148 := bq_add qv_1076 bv_1004 (bkc (x := 3) (c := 3) (by decide)) _ _ (by decide)
  have qv_1076 : v_1076.toInt = v_1004.toInt + (3) := qv_1076
  refine lv_aload_n hx hb dX10_readHouse_75 rfl (lv_at hl 1 rfl) ?_
  refine lv_aload_n hx hb dX10_readHouse_76 rfl (lv_at hl 1 rfl) ?_
  refine cViSm (As := []) (rest := [.ref ob, .int v_1076, .ref ob_fresh]) ⟨hx, hb, hml, hown, hw0⟩ hA hK hP hD hS hE [true, true] (sX10_dayHere l G y aK aV _ ob ob_thrown ob_world ob_images ob_hasImage ob_tape ob_taped ob_five ob_size v_1062 v_1063 v_1064 v_1065 v_1066 v_1067 ob_fresh ob_parts ob_houses ob_houseMany ob_worthOf ob_byCall ob_over ob_bestSet ob_bestOver ob_bestWorth ob_row ob_tenDebts ob_tenMany ob_fewestBy ob_covered ob_queue ob_cameBy ob_parent ob_met ob_calls ob_callMany ob_calledOn ob_saved ob_many ob_width ob_numbers ob_moving fob_tape p_fob_tape p_ob_taped p_ob_size bv_1062 bv_1063 bv_1064 bv_1065 bv_1066 p_ob_houseMany p_ob_bestSet p_ob_bestOver p_ob_tenMany p_ob_callMany (by assumption)) rfl ⟨(callB_of 0 hw0 (gA m_413) rfl rfl rfl (hw0 _ m_41) (hw0 _ m_611) cb_X10_dayHere ⟨Nat.le_of_ble_eq_true rfl, Nat.le_of_ble_eq_true rfl⟩), (hw0 _ m_612), (hw0 _ m_613)⟩ (ci := 10) (q := (RX10, TX10, 41)) rfl rfl rfl hl.1 (Nat.le_of_ble_eq_true rfl) dX10_readHouse_77 ⟨Nat.le_of_ble_eq_true rfl, Nat.le_of_ble_eq_true rfl⟩ (fun r_1077 w_1077 H locs hw_1077 hP hD hS => ?_)
  obtain ⟨v_1078, bv_1078, h_1079, h_1080, er_1077, rfl⟩ := hw_1077
  subst r_1077
  obtain ⟨hP, hD⟩ : vPD G A H [(ce_X10 ob ob_thrown ob_world ob_images ob_hasImage ob_tape ob_taped ob_five ob_size v_1062 v_1063 v_1064 v_1065 v_1066 v_1067 ob_fresh ob_parts ob_houses ob_houseMany ob_worthOf ob_byCall ob_over ob_bestSet ob_bestOver ob_bestWorth ob_row ob_tenDebts ob_tenMany ob_fewestBy ob_covered ob_queue ob_cameBy ob_parent ob_met ob_calls ob_callMany ob_calledOn ob_saved ob_many ob_width ob_numbers ob_moving), (ce_b1400 y ob_tape fob_tape), (ce_i9080 y ob_fresh f_1060)] := ⟨hP, hD⟩
  refine cVim (As := [.int v_1078]) (rest := [.int v_1076, .ref ob_fresh]) ⟨hx, hb, hml, hown, hw0⟩ hA hK hP hD hS [true, true] (sX10_taken l G y _ ob v_1078 ob_thrown ob_world ob_images ob_hasImage ob_tape ob_taped ob_five ob_size v_1062 v_1063 v_1064 v_1065 v_1066 v_1067 ob_fresh ob_parts ob_houses ob_houseMany ob_worthOf ob_byCall ob_over ob_bestSet ob_bestOver ob_bestWorth ob_row ob_tenDebts ob_tenMany ob_fewestBy ob_covered ob_queue ob_cameBy ob_parent ob_met ob_calls ob_callMany ob_calledOn ob_saved ob_many ob_width ob_numbers ob_moving fob_tape p_fob_tape p_ob_taped p_ob_size bv_1062 bv_1063 bv_1064 bv_1065 bv_1066 p_ob_houseMany p_ob_bestSet p_ob_bestOver p_ob_tenMany p_ob_callMany (by omega) (by omega) (by assumption) (by omega)) rfl ⟨(callB_of 1 hw0 (gA m_680) rfl rfl rfl (hw0 _ m_41) (hw0 _ m_614) cb_X10_taken ⟨Nat.le_of_ble_eq_true rfl, Nat.le_of_ble_eq_true rfl⟩), (hw0 _ m_615), (hw0 _ m_616)⟩ (ci := 10) (q := (RX10, TX10, 41)) rfl rfl rfl hl.1 (Nat.le_of_ble_eq_true rfl) dX10_readHouse_80 ⟨Nat.le_of_ble_eq_true rfl, Nat.le_of_ble_eq_true rfl⟩ (fun r_1081 w_1081 H locs hw_1081 hP hD hS => ?_)
  obtain ⟨v_1082, v_1083, v_1084, v_1085, v_1086, v_1087, bv_1082, bv_1083, bv_1084, bv_1085, bv_1086, h_1088, h_1089, h_1090, h_1091, h_1092, h_1093, h_1094, h_1095, er_1081, rfl⟩ := hw_1081
  subst r_1081
  obtain ⟨hP, hD⟩ : vPD G A H [(ce_X10 ob ob_thrown ob_world ob_images ob_hasImage ob_tape ob_taped ob_five ob_size v_1082 v_1083 v_1084 v_1085 v_1086 v_1087 ob_fresh ob_parts ob_houses ob_houseMany ob_worthOf ob_byCall ob_over ob_bestSet ob_bestOver ob_bestWorth ob_row ob_tenDebts ob_tenMany ob_fewestBy ob_covered ob_queue ob_cameBy ob_parent ob_met ob_calls ob_callMany ob_calledOn ob_saved ob_many ob_width ob_numbers ob_moving), (ce_b1400 y ob_tape fob_tape), (ce_i9080 y ob_fresh f_1060)] := ⟨hP, hD⟩
  have tnh_1096 := (h_1089).2.2.2.2
  refine va_iast hx hb hK.1 hP hD hS 2 1 rfl rfl (vi bv_1076 (by decide)) dX10_readHouse_83 (fun H locs hP hD hS => ?_)
  generalize hf_1097 : (upd f_1060 (v_1076 : Int32).toNatClampNeg v_1078) = f_1097 at hP hD
  have zf_1097_0 : (f_1097 0).toInt = (f_1060 0).toInt := hf_1097 ▸ pin_ne (ix_not bv_1076 (by decide))
  have zf_1097_1 : (f_1097 1).toInt = (f_1060 1).toInt := hf_1097 ▸ pin_ne (ix_not bv_1076 (by decide))
  have zf_1097_2 : (f_1097 2).toInt = (f_1060 2).toInt := hf_1097 ▸ pin_ne (ix_not bv_1076 (by decide))
  have zf_1097_3 : (f_1097 3).toInt = (f_1060 3).toInt := hf_1097 ▸ pin_ne (ix_not bv_1076 (by decide))
  have bf_1097 : RBw f_1097 := hf_1097 ▸ upw (df_1060).1.1 pl_88 (by omega) (h_1002) bv_1078
  have cf_1097 : RVw f_1097 := hf_1097 ▸ RV_up (df_1060).1 (hf_1097 ▸ bf_1097) (ix_out bv_1076 (by decide))
  have df_1097 : RWw f_1097 := ⟨cf_1097, hf_1097 ▸ WQ_up (df_1060).1.1 (df_1060).2 (qf_ix bv_1076 (by decide))⟩
  obtain ⟨hP, hD⟩ : vPD G A H [(ce_X10 ob ob_thrown ob_world ob_images ob_hasImage ob_tape ob_taped ob_five ob_size v_1082 v_1083 v_1084 v_1085 v_1086 v_1087 ob_fresh ob_parts ob_houses ob_houseMany ob_worthOf ob_byCall ob_over ob_bestSet ob_bestOver ob_bestWorth ob_row ob_tenDebts ob_tenMany ob_fewestBy ob_covered ob_queue ob_cameBy ob_parent ob_met ob_calls ob_callMany ob_calledOn ob_saved ob_many ob_width ob_numbers ob_moving), (ce_b1400 y ob_tape fob_tape), (ce_i9080 y ob_fresh f_1097)] := ⟨hP, hD⟩
  refine lv_aload_n hx hb dX10_readHouse_84 rfl (lv_at hl 1 rfl) ?_
  refine va_get (D := G) (ci := 10) (v := .ref ob_fresh) (C := RX10) (T := TX10) (N := 41) hx hb hw0 inA_wsX100 hown hK.1 hP 0 rfl rfl 14 (by decide) (hw0 _ m_521) (fun _ h9 => h9) rfl dX10_readHouse_85 ?_
  refine lv_iload_n hx hb dX10_readHouse_88 rfl (lv_at hl 0 rfl) ?_
  refine lv_iconst (v := 4) hx hb dX10_readHouse_89 (by decide) ?_
  refine lv_iadd hx hb dX10_readHouse_90 ?_
  refine lv_topi (fun v_1098 ev_1098 => ?_)
  have qv_1098 := ba_add ev_1098 bv_1004 (bkc (x := 4) (c := 4) (by decide)) (by decide)
  have bv_1098 : (14 : Int) ≤ v_1098.toInt ∧ v_1098.toInt ≤ 149 := bq_add qv_1098 bv_1004 (bkc (x := 4) (c := 4) (by decide)) _ _ (by decide)
  have qv_1098 : v_1098.toInt = v_1004.toInt + (4) := qv_1098
  refine lv_aload_n hx hb dX10_readHouse_91 rfl (lv_at hl 1 rfl) ?_
  refine lv_iconst (v := 0) hx hb dX10_readHouse_92 (by decide) ?_
  refine lv_sipush (v := 180) hx hb dX10_readHouse_93 (by decide) ?_
  refine cVim (As := [.int 0, .int 180]) (rest := [.int v_1098, .ref ob_fresh]) ⟨hx, hb, hml, hown, hw0⟩ hA hK hP hD hS [true, true] (snr0_180 l G y _ ob ob_thrown ob_world ob_images ob_hasImage ob_tape ob_taped ob_five ob_size v_1082 v_1083 v_1084 v_1085 v_1086 v_1087 ob_fresh ob_parts ob_houses ob_houseMany ob_worthOf ob_byCall ob_over ob_bestSet ob_bestOver ob_bestWorth ob_row ob_tenDebts ob_tenMany ob_fewestBy ob_covered ob_queue ob_cameBy ob_parent ob_met ob_calls ob_callMany ob_calledOn ob_saved ob_many ob_width ob_numbers ob_moving fob_tape p_fob_tape p_ob_taped p_ob_size bv_1082 bv_1083 bv_1084 bv_1085 bv_1086 p_ob_houseMany p_ob_bestSet p_ob_bestOver p_ob_tenMany p_ob_callMany (by omega) (by omega) (by assumption)) rfl ⟨(callB_of 2 hw0 (gA m_572) rfl rfl rfl (hw0 _ m_41) (hw0 _ m_605) cb_X10_number ⟨Nat.le_of_ble_eq_true rfl, Nat.le_of_ble_eq_true rfl⟩), (hw0 _ m_606), (hw0 _ m_607)⟩ (ci := 10) (q := (RX10, TX10, 41)) rfl rfl rfl hl.1 (Nat.le_of_ble_eq_true rfl) dX10_readHouse_96 ⟨Nat.le_of_ble_eq_true rfl, Nat.le_of_ble_eq_true rfl⟩ (fun r_1099 w_1099 H locs hw_1099 hP hD hS => ?_)
  obtain ⟨v_1100, v_1101, v_1102, v_1103, v_1104, v_1105, v_1106, bv_1100, bv_1101, bv_1102, bv_1103, bv_1104, bv_1105, h_1107, h_1108, h_1109, h_1110, h_1111, h_1112, h_1113, h_1114, er_1099, rfl⟩ := hw_1099
  subst r_1099
  obtain ⟨hP, hD⟩ : vPD G A H [(ce_X10 ob ob_thrown ob_world ob_images ob_hasImage ob_tape ob_taped ob_five ob_size v_1101 v_1102 v_1103 v_1104 v_1105 v_1106 ob_fresh ob_parts ob_houses ob_houseMany ob_worthOf ob_byCall ob_over ob_bestSet ob_bestOver ob_bestWorth ob_row ob_tenDebts ob_tenMany ob_fewestBy ob_covered ob_queue ob_cameBy ob_parent ob_met ob_calls ob_callMany ob_calledOn ob_saved ob_many ob_width ob_numbers ob_moving), (ce_b1400 y ob_tape fob_tape), (ce_i9080 y ob_fresh f_1097)] := ⟨hP, hD⟩
  refine va_iast hx hb hK.1 hP hD hS 2 1 rfl rfl (vi bv_1098 (by decide)) dX10_readHouse_99 (fun H locs hP hD hS => ?_)
  generalize hf_1115 : (upd f_1097 (v_1098 : Int32).toNatClampNeg v_1100) = f_1115 at hP hD
  have zf_1115_0 : (f_1115 0).toInt = (f_1097 0).toInt := hf_1115 ▸ pin_ne (ix_not bv_1098 (by decide))
  have zf_1115_1 : (f_1115 1).toInt = (f_1097 1).toInt := hf_1115 ▸ pin_ne (ix_not bv_1098 (by decide))
  have zf_1115_2 : (f_1115 2).toInt = (f_1097 2).toInt := hf_1115 ▸ pin_ne (ix_not bv_1098 (by decide))
  have zf_1115_3 : (f_1115 3).toInt = (f_1097 3).toInt := hf_1115 ▸ pin_ne (ix_not bv_1098 (by decide))
  have bf_1115 : RBw f_1115 := hf_1115 ▸ upw (df_1097).1.1 pl_89 (by omega) (h_1002) bv_1100
  have cf_1115 : RVw f_1115 := hf_1115 ▸ RV_up (df_1097).1 (hf_1115 ▸ bf_1115) (ix_out bv_1098 (by decide))
  have df_1115 : RWw f_1115 := ⟨cf_1115, hf_1115 ▸ WQ_up (df_1097).1.1 (df_1097).2 (qf_ix bv_1098 (by decide))⟩
  obtain ⟨hP, hD⟩ : vPD G A H [(ce_X10 ob ob_thrown ob_world ob_images ob_hasImage ob_tape ob_taped ob_five ob_size v_1101 v_1102 v_1103 v_1104 v_1105 v_1106 ob_fresh ob_parts ob_houses ob_houseMany ob_worthOf ob_byCall ob_over ob_bestSet ob_bestOver ob_bestWorth ob_row ob_tenDebts ob_tenMany ob_fewestBy ob_covered ob_queue ob_cameBy ob_parent ob_met ob_calls ob_callMany ob_calledOn ob_saved ob_many ob_width ob_numbers ob_moving), (ce_b1400 y ob_tape fob_tape), (ce_i9080 y ob_fresh f_1115)] := ⟨hP, hD⟩
  refine lv_aload_n hx hb dX10_readHouse_100 rfl (lv_at hl 1 rfl) ?_
  refine va_get (D := G) (ci := 10) (v := .ref ob_fresh) (C := RX10) (T := TX10) (N := 41) hx hb hw0 inA_wsX100 hown hK.1 hP 0 rfl rfl 14 (by decide) (hw0 _ m_521) (fun _ h9 => h9) rfl dX10_readHouse_101 ?_
  refine lv_iload_n hx hb dX10_readHouse_104 rfl (lv_at hl 0 rfl) ?_
  refine lv_iconst (v := 5) hx hb dX10_readHouse_105 (by decide) ?_
  refine lv_iadd hx hb dX10_readHouse_106 ?_
  refine lv_topi (fun v_1116 ev_1116 => ?_)
  have qv_1116 := ba_add ev_1116 bv_1004 (bkc (x := 5) (c := 5) (by decide)) (by decide)
  have bv_1116 : (15 : Int) ≤ v_1116.toInt ∧ v_1116.toInt ≤ 150 := bq_add qv_1116 bv_1004 (bkc (x := 5) (c := 5) (by decide)) _ _ (by decide)
  have qv_1116 : v_1116.toInt = v_1004.toInt + (5) := qv_1116
  refine lv_aload_n hx hb dX10_readHouse_107 rfl (lv_at hl 1 rfl) ?_
  refine lv_aload_n hx hb dX10_readHouse_108 rfl (lv_at hl 1 rfl) ?_
  refine va_get (D := G) (ci := 10) (v := .ref ob_fresh) (C := RX10) (T := TX10) (N := 41) hx hb hw0 inA_wsX100 hown hK.1 hP 0 rfl rfl 14 (by decide) (hw0 _ m_521) (fun _ h9 => h9) rfl dX10_readHouse_109 ?_
  refine lv_iload_n hx hb dX10_readHouse_112 rfl (lv_at hl 0 rfl) ?_
  refine lv_iconst (v := 4) hx hb dX10_readHouse_113 (by decide) ?_
  refine lv_iadd hx hb dX10_readHouse_114 ?_
  refine lv_topi (fun v_1117 ev_1117 => ?_)
  obtain rfl : v_1098 = v_1117 := (ev_1117.trans (ev_1098.symm)).symm
  refine va_iald hx hb hK.1 hP 2 1 rfl rfl (vi bv_1098 (by decide)) dX10_readHouse_115 ?_
  refine lv_topi (fun v_1118 ev_1118 => ?_)
  have bv_1118 : (0 : Int) ≤ v_1118.toInt ∧ v_1118.toInt ≤ 180 := rdw ev_1118 (df_1115).1.1 pl_3 (by omega) (h_1002)
  have E_1119 : v_1118.toInt = v_1100.toInt := by rw [ev_1118]; exact upd_i hf_1115 rfl
  refine lv_sipush (v := 180) hx hb dX10_readHouse_116 (by decide) ?_
  refine cVim (As := [.int v_1118, .int 180]) (rest := [.int v_1116, .ref ob_fresh]) ⟨hx, hb, hml, hown, hw0⟩ hA hK hP hD hS [true, true] (snrF l G y _ ob v_1118 ob_thrown ob_world ob_images ob_hasImage ob_tape ob_taped ob_five ob_size v_1101 v_1102 v_1103 v_1104 v_1105 v_1106 ob_fresh ob_parts ob_houses ob_houseMany ob_worthOf ob_byCall ob_over ob_bestSet ob_bestOver ob_bestWorth ob_row ob_tenDebts ob_tenMany ob_fewestBy ob_covered ob_queue ob_cameBy ob_parent ob_met ob_calls ob_callMany ob_calledOn ob_saved ob_many ob_width ob_numbers ob_moving fob_tape p_fob_tape p_ob_taped p_ob_size bv_1101 bv_1102 bv_1103 bv_1104 bv_1105 p_ob_houseMany p_ob_bestSet p_ob_bestOver p_ob_tenMany p_ob_callMany bv_1118 (by omega) (by omega) (by assumption)) rfl ⟨(callB_of 2 hw0 (gA m_572) rfl rfl rfl (hw0 _ m_41) (hw0 _ m_605) cb_X10_number ⟨Nat.le_of_ble_eq_true rfl, Nat.le_of_ble_eq_true rfl⟩), (hw0 _ m_606), (hw0 _ m_607)⟩ (ci := 10) (q := (RX10, TX10, 41)) rfl rfl rfl hl.1 (Nat.le_of_ble_eq_true rfl) dX10_readHouse_119 ⟨Nat.le_of_ble_eq_true rfl, Nat.le_of_ble_eq_true rfl⟩ (fun r_1120 w_1120 H locs hw_1120 hP hD hS => ?_)
  obtain ⟨v_1121, v_1122, v_1123, v_1124, v_1125, v_1126, v_1127, bv_1121, bv_1122, bv_1123, bv_1124, bv_1125, bv_1126, h_1128, h_1129, h_1130, h_1131, h_1132, h_1133, h_1134, h_1135, er_1120, rfl⟩ := hw_1120
  subst r_1120
  obtain ⟨hP, hD⟩ : vPD G A H [(ce_X10 ob ob_thrown ob_world ob_images ob_hasImage ob_tape ob_taped ob_five ob_size v_1122 v_1123 v_1124 v_1125 v_1126 v_1127 ob_fresh ob_parts ob_houses ob_houseMany ob_worthOf ob_byCall ob_over ob_bestSet ob_bestOver ob_bestWorth ob_row ob_tenDebts ob_tenMany ob_fewestBy ob_covered ob_queue ob_cameBy ob_parent ob_met ob_calls ob_callMany ob_calledOn ob_saved ob_many ob_width ob_numbers ob_moving), (ce_b1400 y ob_tape fob_tape), (ce_i9080 y ob_fresh f_1115)] := ⟨hP, hD⟩
  refine va_iast hx hb hK.1 hP hD hS 2 1 rfl rfl (vi bv_1116 (by decide)) dX10_readHouse_122 (fun H locs hP hD hS => ?_)
  generalize hf_1136 : (upd f_1115 (v_1116 : Int32).toNatClampNeg v_1121) = f_1136 at hP hD
  have zf_1136_0 : (f_1136 0).toInt = (f_1115 0).toInt := hf_1136 ▸ pin_ne (ix_not bv_1116 (by decide))
  have zf_1136_1 : (f_1136 1).toInt = (f_1115 1).toInt := hf_1136 ▸ pin_ne (ix_not bv_1116 (by decide))
  have zf_1136_2 : (f_1136 2).toInt = (f_1115 2).toInt := hf_1136 ▸ pin_ne (ix_not bv_1116 (by decide))
  have zf_1136_3 : (f_1136 3).toInt = (f_1115 3).toInt := hf_1136 ▸ pin_ne (ix_not bv_1116 (by decide))
  have bf_1136 : RBw f_1136 := hf_1136 ▸ upw (df_1115).1.1 pl_90 (by omega) (h_1002) bv_1121
  have cf_1136 : RVw f_1136 := hf_1136 ▸ RV_up (df_1115).1 (hf_1136 ▸ bf_1136) (ix_out bv_1116 (by decide))
  have df_1136 : RWw f_1136 := ⟨cf_1136, hf_1136 ▸ WQ_up (df_1115).1.1 (df_1115).2 (qf_ix bv_1116 (by decide))⟩
  obtain ⟨hP, hD⟩ : vPD G A H [(ce_X10 ob ob_thrown ob_world ob_images ob_hasImage ob_tape ob_taped ob_five ob_size v_1122 v_1123 v_1124 v_1125 v_1126 v_1127 ob_fresh ob_parts ob_houses ob_houseMany ob_worthOf ob_byCall ob_over ob_bestSet ob_bestOver ob_bestWorth ob_row ob_tenDebts ob_tenMany ob_fewestBy ob_covered ob_queue ob_cameBy ob_parent ob_met ob_calls ob_callMany ob_calledOn ob_saved ob_many ob_width ob_numbers ob_moving), (ce_b1400 y ob_tape fob_tape), (ce_i9080 y ob_fresh f_1136)] := ⟨hP, hD⟩
  have E_1137 : ((v_1126.toInt, v_1127.toInt, v_1123.toInt) : Int × Int × Int) = r_h2 fob_tape ob_size.toInt ((ob_faultKind.toInt, ob_faultPlace.toInt, ob_from.toInt) : Int × Int × Int) := by rw [h_1128, E_1119, h_1108, h_1107, h_1088, chi_of h_1080, h_1068, chi_eq (i := 38) (j := 9) (by decide +kernel) (by decide +kernel), h_1051, chi_eq (i := 37) (j := 8) (by decide +kernel) (by decide +kernel), h_1033, h_1014, chi_eq (i := 36) (j := 7) (by decide +kernel) (by decide +kernel)]; rfl
  refine lv_aload_n hx hb dX10_readHouse_123 rfl (lv_at hl 1 rfl) ?_
  refine va_get (D := G) (ci := 10) (v := .ref ob_fresh) (C := RX10) (T := TX10) (N := 41) hx hb hw0 inA_wsX100 hown hK.1 hP 0 rfl rfl 14 (by decide) (hw0 _ m_521) (fun _ h9 => h9) rfl dX10_readHouse_124 ?_
  refine lv_iload_n hx hb dX10_readHouse_127 rfl (lv_at hl 0 rfl) ?_
  refine lv_bipush (v := 6) hx hb dX10_readHouse_128 (by decide) ?_
  refine lv_iadd hx hb dX10_readHouse_130 ?_
  refine lv_topi (fun v_1138 ev_1138 => ?_)
  have qv_1138 := ba_add ev_1138 bv_1004 (bkc (x := 6) (c := 6) (by decide)) (by decide)
  have bv_1138 : (16 : Int) ≤ v_1138.toInt ∧ v_1138.toInt ≤ 151 := bq_add qv_1138 bv_1004 (bkc (x := 6) (c := 6) (by decide)) _ _ (by decide)
  have qv_1138 : v_1138.toInt = v_1004.toInt + (6) := qv_1138
  refine lv_aload_n hx hb dX10_readHouse_131 rfl (lv_at hl 1 rfl) ?_
  refine va_ldcS (own := RX10) (tx := "came") (q := aK 46) hx hb hown (hE.2.1 ("CardBowlModel", 220, "came", 46) sl_CardBowlModel_220) dX10_readHouse_132 ?_
  refine cutW 152 (fun H locs ls st => ∃ (v_1172 : Int32) (v_1173 : Int32) (v_1174 : Int32) (v_1175 : Int32) (v_1176 : Int32) (v_1177 : Int32) (v_1178 : Int32), ((0 : Int) ≤ v_1172.toInt ∧ v_1172.toInt ≤ 399) ∧ ((0 : Int) ≤ v_1173.toInt ∧ v_1173.toInt ≤ 1400) ∧ ((0 : Int) ≤ v_1174.toInt ∧ v_1174.toInt ≤ 1400) ∧ ((0 : Int) ≤ v_1175.toInt ∧ v_1175.toInt ≤ 4) ∧ ((0 : Int) ≤ v_1176.toInt ∧ v_1176.toInt ≤ 9999) ∧ ((0 : Int) ≤ v_1177.toInt ∧ v_1177.toInt ≤ 3) ∧ (((v_1177.toInt, v_1178.toInt, v_1174.toInt) : Int × Int × Int) = r_opt fob_tape ob_size.toInt 11 0 399 (r_h2 fob_tape ob_size.toInt ((ob_faultKind.toInt, ob_faultPlace.toInt, ob_from.toInt) : Int × Int × Int))) ∧ (qTok fob_tape ob_size.toInt 9999 v_1175.toInt v_1174.toInt v_1173.toInt v_1176.toInt) ∧ (v_1174.toInt ≤ v_1173.toInt) ∧ (v_1175.toInt = 0 ∨ v_1174.toInt < v_1173.toInt) ∧ (ob_from.toInt ≤ v_1174.toInt) ∧ (ob_faultKind.toInt = 0 ∨ ¬ v_1177.toInt = 0) ∧ st = [.int v_1172, .int v_1138, .ref ob_fresh] ∧ vPD G A H [(ce_X10 ob ob_thrown ob_world ob_images ob_hasImage ob_tape ob_taped ob_five ob_size v_1173 v_1174 v_1175 v_1176 v_1177 v_1178 ob_fresh ob_parts ob_houses ob_houseMany ob_worthOf ob_byCall ob_over ob_bestSet ob_bestOver ob_bestWorth ob_row ob_tenDebts ob_tenMany ob_fewestBy ob_covered ob_queue ob_cameBy ob_parent ob_met ob_calls ob_callMany ob_calledOn ob_saved ob_many ob_width ob_numbers ob_moving), (ce_b1400 y ob_tape fob_tape), (ce_i9080 y ob_fresh f_1136)] ∧ va_S A s.heap H locs ∧ lv_has ls 2 [(1, .int v_1004), (0, .ref ob)]) ?_ (fun J_152_1178 => ?_)
  · rintro H locs ls st ⟨v_1172, v_1173, v_1174, v_1175, v_1176, v_1177, v_1178, bv_1172, bv_1173, bv_1174, bv_1175, bv_1176, bv_1177, rl1178_0, rl1178_1, rl1178_2, rl1178_3, rl1178_4, rl1178_5, rfl, ⟨hP, hD⟩, hS, hl⟩
    refine va_iast hx hb hK.1 hP hD hS 2 1 rfl rfl (vi bv_1138 (by decide)) dX10_readHouse_152 (fun H locs hP hD hS => ?_)
    generalize hf_1179 : (upd f_1136 (v_1138 : Int32).toNatClampNeg v_1172) = f_1179 at hP hD
    have zf_1179_0 : (f_1179 0).toInt = (f_1136 0).toInt := hf_1179 ▸ pin_ne (ix_not bv_1138 (by decide))
    have zf_1179_1 : (f_1179 1).toInt = (f_1136 1).toInt := hf_1179 ▸ pin_ne (ix_not bv_1138 (by decide))
    have zf_1179_2 : (f_1179 2).toInt = (f_1136 2).toInt := hf_1179 ▸ pin_ne (ix_not bv_1138 (by decide))
    have zf_1179_3 : (f_1179 3).toInt = (f_1136 3).toInt := hf_1179 ▸ pin_ne (ix_not bv_1138 (by decide))
    have bf_1179 : RBw f_1179 := hf_1179 ▸ upw (df_1136).1.1 pl_91 (by omega) (h_1002) bv_1172
    have cf_1179 : RVw f_1179 := hf_1179 ▸ RV_up (df_1136).1 (hf_1179 ▸ bf_1179) (ix_out bv_1138 (by decide))
    have df_1179 : RWw f_1179 := ⟨cf_1179, hf_1179 ▸ WQ_up (df_1136).1.1 (df_1136).2 (qf_ix bv_1138 (by decide))⟩
    obtain ⟨hP, hD⟩ : vPD G A H [(ce_X10 ob ob_thrown ob_world ob_images ob_hasImage ob_tape ob_taped ob_five ob_size v_1173 v_1174 v_1175 v_1176 v_1177 v_1178 ob_fresh ob_parts ob_houses ob_houseMany ob_worthOf ob_byCall ob_over ob_bestSet ob_bestOver ob_bestWorth ob_row ob_tenDebts ob_tenMany ob_fewestBy ob_covered ob_queue ob_cameBy ob_parent ob_met ob_calls ob_callMany ob_calledOn ob_saved ob_many ob_width ob_numbers ob_moving), (ce_b1400 y ob_tape fob_tape), (ce_i9080 y ob_fresh f_1179)] := ⟨hP, hD⟩
    refine lv_aload_n hx hb dX10_readHouse_153 rfl (lv_at hl 1 rfl) ?_
    refine va_get (D := G) (ci := 10) (v := .ref ob_fresh) (C := RX10) (T := TX10) (N := 41) hx hb hw0 inA_wsX100 hown hK.1 hP 0 rfl rfl 14 (by decide) (hw0 _ m_521) (fun _ h9 => h9) rfl dX10_readHouse_154 ?_
    refine lv_iload_n hx hb dX10_readHouse_157 rfl (lv_at hl 0 rfl) ?_
    refine lv_bipush (v := 7) hx hb dX10_readHouse_158 (by decide) ?_
    refine lv_iadd hx hb dX10_readHouse_160 ?_
    refine lv_topi (fun v_1180 ev_1180 => ?_)
    have qv_1180 := ba_add ev_1180 bv_1004 (bkc (x := 7) (c := 7) (by decide)) (by decide)
    have bv_1180 : (17 : Int) ≤ v_1180.toInt ∧ v_1180.toInt ≤ 152 := bq_add qv_1180 bv_1004 (bkc (x := 7) (c := 7) (by decide)) _ _ (by decide)
    have qv_1180 : v_1180.toInt = v_1004.toInt + (7) := qv_1180
    refine lv_aload_n hx hb dX10_readHouse_161 rfl (lv_at hl 1 rfl) ?_
    refine va_ldcS (own := RX10) (tx := "bride") (q := aK 47) hx hb hown (hE.2.1 ("CardBowlModel", 222, "bride", 47) sl_CardBowlModel_222) dX10_readHouse_162 ?_
    refine cutW 181 (fun H locs ls st => ∃ (v_1214 : Int32) (v_1215 : Int32) (v_1216 : Int32) (v_1217 : Int32) (v_1218 : Int32) (v_1219 : Int32) (v_1220 : Int32), ((0 : Int) ≤ v_1214.toInt ∧ v_1214.toInt ≤ 99) ∧ ((0 : Int) ≤ v_1215.toInt ∧ v_1215.toInt ≤ 1400) ∧ ((0 : Int) ≤ v_1216.toInt ∧ v_1216.toInt ≤ 1400) ∧ ((0 : Int) ≤ v_1217.toInt ∧ v_1217.toInt ≤ 4) ∧ ((0 : Int) ≤ v_1218.toInt ∧ v_1218.toInt ≤ 9999) ∧ ((0 : Int) ≤ v_1219.toInt ∧ v_1219.toInt ≤ 3) ∧ (((v_1219.toInt, v_1220.toInt, v_1216.toInt) : Int × Int × Int) = r_opt fob_tape ob_size.toInt 12 0 99 (r_opt fob_tape ob_size.toInt 11 0 399 (r_h2 fob_tape ob_size.toInt ((ob_faultKind.toInt, ob_faultPlace.toInt, ob_from.toInt) : Int × Int × Int)))) ∧ (qTok fob_tape ob_size.toInt 9999 v_1217.toInt v_1216.toInt v_1215.toInt v_1218.toInt) ∧ (v_1216.toInt ≤ v_1215.toInt) ∧ (v_1217.toInt = 0 ∨ v_1216.toInt < v_1215.toInt) ∧ (ob_from.toInt ≤ v_1216.toInt) ∧ (ob_faultKind.toInt = 0 ∨ ¬ v_1219.toInt = 0) ∧ st = [.int v_1214, .int v_1180, .ref ob_fresh] ∧ vPD G A H [(ce_X10 ob ob_thrown ob_world ob_images ob_hasImage ob_tape ob_taped ob_five ob_size v_1215 v_1216 v_1217 v_1218 v_1219 v_1220 ob_fresh ob_parts ob_houses ob_houseMany ob_worthOf ob_byCall ob_over ob_bestSet ob_bestOver ob_bestWorth ob_row ob_tenDebts ob_tenMany ob_fewestBy ob_covered ob_queue ob_cameBy ob_parent ob_met ob_calls ob_callMany ob_calledOn ob_saved ob_many ob_width ob_numbers ob_moving), (ce_b1400 y ob_tape fob_tape), (ce_i9080 y ob_fresh f_1179)] ∧ va_S A s.heap H locs ∧ lv_has ls 2 [(1, .int v_1004), (0, .ref ob)]) ?_ (fun J_181_1220 => ?_)
    · rintro H locs ls st ⟨v_1214, v_1215, v_1216, v_1217, v_1218, v_1219, v_1220, bv_1214, bv_1215, bv_1216, bv_1217, bv_1218, bv_1219, rl1220_0, rl1220_1, rl1220_2, rl1220_3, rl1220_4, rl1220_5, rfl, ⟨hP, hD⟩, hS, hl⟩
      refine va_iast hx hb hK.1 hP hD hS 2 1 rfl rfl (vi bv_1180 (by decide)) dX10_readHouse_181 (fun H locs hP hD hS => ?_)
      generalize hf_1221 : (upd f_1179 (v_1180 : Int32).toNatClampNeg v_1214) = f_1221 at hP hD
      have zf_1221_0 : (f_1221 0).toInt = (f_1179 0).toInt := hf_1221 ▸ pin_ne (ix_not bv_1180 (by decide))
      have zf_1221_1 : (f_1221 1).toInt = (f_1179 1).toInt := hf_1221 ▸ pin_ne (ix_not bv_1180 (by decide))
      have zf_1221_2 : (f_1221 2).toInt = (f_1179 2).toInt := hf_1221 ▸ pin_ne (ix_not bv_1180 (by decide))
      have zf_1221_3 : (f_1221 3).toInt = (f_1179 3).toInt := hf_1221 ▸ pin_ne (ix_not bv_1180 (by decide))
      have bf_1221 : RBw f_1221 := hf_1221 ▸ upw (df_1179).1.1 pl_92 (by omega) (h_1002) bv_1214
      have cf_1221 : RVw f_1221 := hf_1221 ▸ RV_up (df_1179).1 (hf_1221 ▸ bf_1221) (ix_out bv_1180 (by decide))
      have df_1221 : RWw f_1221 := ⟨cf_1221, hf_1221 ▸ WQ_up (df_1179).1.1 (df_1179).2 (qf_ix bv_1180 (by decide))⟩
      obtain ⟨hP, hD⟩ : vPD G A H [(ce_X10 ob ob_thrown ob_world ob_images ob_hasImage ob_tape ob_taped ob_five ob_size v_1215 v_1216 v_1217 v_1218 v_1219 v_1220 ob_fresh ob_parts ob_houses ob_houseMany ob_worthOf ob_byCall ob_over ob_bestSet ob_bestOver ob_bestWorth ob_row ob_tenDebts ob_tenMany ob_fewestBy ob_covered ob_queue ob_cameBy ob_parent ob_met ob_calls ob_callMany ob_calledOn ob_saved ob_many ob_width ob_numbers ob_moving), (ce_b1400 y ob_tape fob_tape), (ce_i9080 y ob_fresh f_1221)] := ⟨hP, hD⟩
      refine lv_aload_n hx hb dX10_readHouse_182 rfl (lv_at hl 1 rfl) ?_
      refine va_get (D := G) (ci := 10) (v := .ref ob_fresh) (C := RX10) (T := TX10) (N := 41) hx hb hw0 inA_wsX100 hown hK.1 hP 0 rfl rfl 14 (by decide) (hw0 _ m_521) (fun _ h9 => h9) rfl dX10_readHouse_183 ?_
      refine lv_iload_n hx hb dX10_readHouse_186 rfl (lv_at hl 0 rfl) ?_
      refine lv_bipush (v := 8) hx hb dX10_readHouse_187 (by decide) ?_
      refine lv_iadd hx hb dX10_readHouse_189 ?_
      refine lv_topi (fun v_1222 ev_1222 => ?_)
      have qv_1222 := ba_add ev_1222 bv_1004 (bkc (x := 8) (c := 8) (by decide)) (by decide)
      have bv_1222 : (18 : Int) ≤ v_1222.toInt ∧ v_1222.toInt ≤ 153 := bq_add qv_1222 bv_1004 (bkc (x := 8) (c := 8) (by decide)) _ _ (by decide)
      have qv_1222 : v_1222.toInt = v_1004.toInt + (8) := qv_1222
      refine lv_iconst (v := 0) hx hb dX10_readHouse_190 (by decide) ?_
      refine va_iast hx hb hK.1 hP hD hS 2 1 rfl rfl (vi bv_1222 (by decide)) dX10_readHouse_191 (fun H locs hP hD hS => ?_)
      generalize hf_1223 : (upd f_1221 (v_1222 : Int32).toNatClampNeg 0) = f_1223 at hP hD
      have zf_1223_0 : (f_1223 0).toInt = (f_1221 0).toInt := hf_1223 ▸ pin_ne (ix_not bv_1222 (by decide))
      have zf_1223_1 : (f_1223 1).toInt = (f_1221 1).toInt := hf_1223 ▸ pin_ne (ix_not bv_1222 (by decide))
      have zf_1223_2 : (f_1223 2).toInt = (f_1221 2).toInt := hf_1223 ▸ pin_ne (ix_not bv_1222 (by decide))
      have zf_1223_3 : (f_1223 3).toInt = (f_1221 3).toInt := hf_1223 ▸ pin_ne (ix_not bv_1222 (by decide))
      have bf_1223 : RBw f_1223 := hf_1223 ▸ upw (df_1221).1.1 pl_93 (by omega) (h_1002) (bkc (x := 0) (c := 0) (by decide))
      have cf_1223 : RVw f_1223 := hf_1223 ▸ RV_up (df_1221).1 (hf_1223 ▸ bf_1223) (ix_out bv_1222 (by decide))
      have df_1223 : RWw f_1223 := ⟨cf_1223, hf_1223 ▸ WQ_up (df_1221).1.1 (df_1221).2 (qf_ix bv_1222 (by decide))⟩
      obtain ⟨hP, hD⟩ : vPD G A H [(ce_X10 ob ob_thrown ob_world ob_images ob_hasImage ob_tape ob_taped ob_five ob_size v_1215 v_1216 v_1217 v_1218 v_1219 v_1220 ob_fresh ob_parts ob_houses ob_houseMany ob_worthOf ob_byCall ob_over ob_bestSet ob_bestOver ob_bestWorth ob_row ob_tenDebts ob_tenMany ob_fewestBy ob_covered ob_queue ob_cameBy ob_parent ob_met ob_calls ob_callMany ob_calledOn ob_saved ob_many ob_width ob_numbers ob_moving), (ce_b1400 y ob_tape fob_tape), (ce_i9080 y ob_fresh f_1223)] := ⟨hP, hD⟩
      refine lv_aload_n hx hb dX10_readHouse_192 rfl (lv_at hl 1 rfl) ?_
      refine cVim (As := []) (rest := []) ⟨hx, hb, hml, hown, hw0⟩ hA hK hP hD hS [true] (sX10_good l G y _ ob ob_thrown ob_world ob_images ob_hasImage ob_tape ob_taped ob_five ob_size v_1215 v_1216 v_1217 v_1218 v_1219 v_1220 ob_fresh ob_parts ob_houses ob_houseMany ob_worthOf ob_byCall ob_over ob_bestSet ob_bestOver ob_bestWorth ob_row ob_tenDebts ob_tenMany ob_fewestBy ob_covered ob_queue ob_cameBy ob_parent ob_met ob_calls ob_callMany ob_calledOn ob_saved ob_many ob_width ob_numbers ob_moving p_ob_taped p_ob_size bv_1215 bv_1216 bv_1217 bv_1218 bv_1219 p_ob_houseMany p_ob_bestSet p_ob_bestOver p_ob_tenMany p_ob_callMany) rfl ⟨(callB_of 0 hw0 (gA m_510) rfl rfl rfl (hw0 _ m_41) (hw0 _ m_453) cb_X10_good ⟨Nat.le_of_ble_eq_true rfl, Nat.le_of_ble_eq_true rfl⟩), (hw0 _ m_454), (hw0 _ m_455)⟩ (ci := 10) (q := (RX10, TX10, 41)) rfl rfl rfl hl.1 (Nat.le_of_ble_eq_true rfl) dX10_readHouse_193 ⟨Nat.le_of_ble_eq_true rfl, Nat.le_of_ble_eq_true rfl⟩ (fun r_1224 w_1224 H locs hw_1224 hP hD hS => ?_)
      rcases hw_1224 with ⟨h_1225, rfl, rfl⟩ | ⟨h_1226, rfl, rfl⟩
      · skip
        obtain ⟨hP, hD⟩ : vPD G A H [(ce_X10 ob ob_thrown ob_world ob_images ob_hasImage ob_tape ob_taped ob_five ob_size v_1215 v_1216 v_1217 v_1218 v_1219 v_1220 ob_fresh ob_parts ob_houses ob_houseMany ob_worthOf ob_byCall ob_over ob_bestSet ob_bestOver ob_bestWorth ob_row ob_tenDebts ob_tenMany ob_fewestBy ob_covered ob_queue ob_cameBy ob_parent ob_met ob_calls ob_callMany ob_calledOn ob_saved ob_many ob_width ob_numbers ob_moving), (ce_b1400 y ob_tape fob_tape), (ce_i9080 y ob_fresh f_1223)] := ⟨hP, hD⟩
        refine lv_if_eq (tgt := 209) hx hb dX10_readHouse_196 (by decide) (fun _ => ?_) (fun c9 => absurd (by decide) c9)
        exact W.vret hx hb hr (fun t ht hW => ⟨⟨_, rfl, ⟨v_1215, v_1216, v_1217, v_1218, v_1219, v_1220, f_1223, bv_1215, bv_1216, bv_1217, bv_1218, (bw (0) (3) h_1225 (by decide)), df_1223, rl1220_0, (by assumption), by omega, by omega, by omega, by omega, by omega, by omega, by omega, by omega, rfl⟩, by rw [ht]; exact hP, hD⟩, hS.F ht⟩) hS.2.2 dX10_readHouse_209
      · skip
        obtain ⟨hP, hD⟩ : vPD G A H [(ce_X10 ob ob_thrown ob_world ob_images ob_hasImage ob_tape ob_taped ob_five ob_size v_1215 v_1216 v_1217 v_1218 v_1219 v_1220 ob_fresh ob_parts ob_houses ob_houseMany ob_worthOf ob_byCall ob_over ob_bestSet ob_bestOver ob_bestWorth ob_row ob_tenDebts ob_tenMany ob_fewestBy ob_covered ob_queue ob_cameBy ob_parent ob_met ob_calls ob_callMany ob_calledOn ob_saved ob_many ob_width ob_numbers ob_moving), (ce_b1400 y ob_tape fob_tape), (ce_i9080 y ob_fresh f_1223)] := ⟨hP, hD⟩
        refine lv_if_eq (tgt := 209) hx hb dX10_readHouse_196 (by decide) (fun c9 => absurd c9 (by decide)) (fun _ => ?_)
        refine lv_aload_n hx hb dX10_readHouse_199 rfl (lv_at hl 1 rfl) ?_
        refine va_get (D := G) (ci := 10) (v := .ref ob_fresh) (C := RX10) (T := TX10) (N := 41) hx hb hw0 inA_wsX100 hown hK.1 hP 0 rfl rfl 14 (by decide) (hw0 _ m_521) (fun _ h9 => h9) rfl dX10_readHouse_200 ?_
        refine lv_iconst (v := 0) hx hb dX10_readHouse_203 (by decide) ?_
        refine lv_dup2_11 hx hb dX10_readHouse_204 rfl rfl ?_
        refine va_iald hx hb hK.1 hP 2 1 rfl rfl (vi (bkc (x := 0) (c := 0) (by decide)) (by decide)) dX10_readHouse_205 ?_
        refine lv_topi (fun v_1227 ev_1227 => ?_)
        have bv_1227 : (0 : Int) ≤ v_1227.toInt ∧ v_1227.toInt ≤ 16 := rdk ev_1227 (df_1223).1.1 (by decide)
        have yv_1227 : v_1227.toInt = (f_1223 0).toInt := congrArg Int32.toInt ev_1227
        refine lv_iconst (v := 1) hx hb dX10_readHouse_206 (by decide) ?_
        refine lv_iadd hx hb dX10_readHouse_207 ?_
        refine lv_topi (fun v_1228 ev_1228 => ?_)
        have qv_1228 := ba_add ev_1228 bv_1227 (bkc (x := 1) (c := 1) (by decide)) (by decide)
        have bv_1228 : (1 : Int) ≤ v_1228.toInt ∧ v_1228.toInt ≤ 17 := bq_add qv_1228 bv_1227 (bkc (x := 1) (c := 1) (by decide)) _ _ (by decide)
        have qv_1228 : v_1228.toInt = v_1227.toInt + (1) := qv_1228
        have h_1229 : (0 : Int) ≤ v_1228.toInt ∧ v_1228.toInt ≤ 16 := by omega
        refine va_iast hx hb hK.1 hP hD hS 2 1 rfl rfl (vi (bkc (x := 0) (c := 0) (by decide)) (by decide)) dX10_readHouse_208 (fun H locs hP hD hS => ?_)
        generalize hf_1230 : (upd f_1223 (0 : Int32).toNatClampNeg v_1228) = f_1230 at hP hD
        have zf_1230_0 : (f_1230 0).toInt = (v_1228 : Int32).toInt := hf_1230 ▸ pin_eq (by decide)
        have zf_1230_1 : (f_1230 1).toInt = (f_1223 1).toInt := hf_1230 ▸ pin_ne (ix_not (bkc (x := 0) (c := 0) (by decide)) (by decide))
        have zf_1230_2 : (f_1230 2).toInt = (f_1223 2).toInt := hf_1230 ▸ pin_ne (ix_not (bkc (x := 0) (c := 0) (by decide)) (by decide))
        have zf_1230_3 : (f_1230 3).toInt = (f_1223 3).toInt := hf_1230 ▸ pin_ne (ix_not (bkc (x := 0) (c := 0) (by decide)) (by decide))
        have bf_1230 : RBw f_1230 := hf_1230 ▸ upk (df_1223).1.1 h_1229 (by decide)
        have cf_1230 : RVw f_1230 := hf_1230 ▸ RV_up (df_1223).1 (hf_1230 ▸ bf_1230) (ix_out (bkc (x := 0) (c := 0) (by decide)) (by decide))
        have df_1230 : RWw f_1230 := ⟨cf_1230, hf_1230 ▸ WQ_up (df_1223).1.1 (df_1223).2 (qf_ix (bkc (x := 0) (c := 0) (by decide)) (by decide))⟩
        obtain ⟨hP, hD⟩ : vPD G A H [(ce_X10 ob ob_thrown ob_world ob_images ob_hasImage ob_tape ob_taped ob_five ob_size v_1215 v_1216 v_1217 v_1218 v_1219 v_1220 ob_fresh ob_parts ob_houses ob_houseMany ob_worthOf ob_byCall ob_over ob_bestSet ob_bestOver ob_bestWorth ob_row ob_tenDebts ob_tenMany ob_fewestBy ob_covered ob_queue ob_cameBy ob_parent ob_met ob_calls ob_callMany ob_calledOn ob_saved ob_many ob_width ob_numbers ob_moving), (ce_b1400 y ob_tape fob_tape), (ce_i9080 y ob_fresh f_1230)] := ⟨hP, hD⟩
        exact W.vret hx hb hr (fun t ht hW => ⟨⟨_, rfl, ⟨v_1215, v_1216, v_1217, v_1218, v_1219, v_1220, f_1230, bv_1215, bv_1216, bv_1217, bv_1218, (bw (0) (3) h_1226 (by decide)), df_1230, rl1220_0, (by assumption), by omega, by omega, by omega, by omega, by omega, by omega, by omega, by omega, rfl⟩, by rw [ht]; exact hP, hD⟩, hS.F ht⟩) hS.2.2 dX10_readHouse_209
    · skip
      refine cViSm (As := [.ref (aK 47)]) (rest := [.int v_1180, .ref ob_fresh]) ⟨hx, hb, hml, hown, hw0⟩ hA hK hP hD hS hE [true, true] (sX10_takes l G y aK aV _ ob 47 ob_thrown ob_world ob_images ob_hasImage ob_tape ob_taped ob_five ob_size v_1173 v_1174 v_1175 v_1176 v_1177 v_1178 ob_fresh ob_parts ob_houses ob_houseMany ob_worthOf ob_byCall ob_over ob_bestSet ob_bestOver ob_bestWorth ob_row ob_tenDebts ob_tenMany ob_fewestBy ob_covered ob_queue ob_cameBy ob_parent ob_met ob_calls ob_callMany ob_calledOn ob_saved ob_many ob_width ob_numbers ob_moving fob_tape p_fob_tape p_ob_taped p_ob_size bv_1173 bv_1174 bv_1175 bv_1176 bv_1177 p_ob_houseMany p_ob_bestSet p_ob_bestOver p_ob_tenMany p_ob_callMany (by decide) (by omega) (by omega) (by assumption) (by decide +kernel)) rfl ⟨(callB_of 1 hw0 (gA m_681) rfl rfl rfl (hw0 _ m_41) (hw0 _ m_565) cb_X10_takes ⟨Nat.le_of_ble_eq_true rfl, Nat.le_of_ble_eq_true rfl⟩), (hw0 _ m_566), (hw0 _ m_567)⟩ (ci := 10) (q := (RX10, TX10, 41)) rfl rfl rfl hl.1 (Nat.le_of_ble_eq_true rfl) dX10_readHouse_164 ⟨Nat.le_of_ble_eq_true rfl, Nat.le_of_ble_eq_true rfl⟩ (fun r_1231 w_1231 H locs hw_1231 hP hD hS => ?_)
      rcases hw_1231 with ⟨h_1232, h_1233, rfl, rfl⟩ | ⟨v_1234, v_1235, v_1236, v_1237, bv_1234, bv_1235, bv_1236, bv_1237, h_1238, h_1239, h_1240, h_1241, h_1242, h_1243, h_1244, h_1245, rfl, rfl⟩
      · skip
        have hLh_1246 : ((lenS.getD 47 0 : Nat) : Int) = 5 := by decide
        obtain ⟨hP, hD⟩ : vPD G A H [(ce_X10 ob ob_thrown ob_world ob_images ob_hasImage ob_tape ob_taped ob_five ob_size v_1173 v_1174 v_1175 v_1176 v_1177 v_1178 ob_fresh ob_parts ob_houses ob_houseMany ob_worthOf ob_byCall ob_over ob_bestSet ob_bestOver ob_bestWorth ob_row ob_tenDebts ob_tenMany ob_fewestBy ob_covered ob_queue ob_cameBy ob_parent ob_met ob_calls ob_callMany ob_calledOn ob_saved ob_many ob_width ob_numbers ob_moving), (ce_b1400 y ob_tape fob_tape), (ce_i9080 y ob_fresh f_1179)] := ⟨hP, hD⟩
        refine lv_if_eq (tgt := 180) hx hb dX10_readHouse_167 (by decide) (fun _ => ?_) (fun c9 => absurd (by decide) c9)
        refine lv_iconst (v := 0) hx hb dX10_readHouse_180 (by decide) ?_
        exact J_181_1220 _ _ _ _ ⟨0, v_1173, v_1174, v_1175, v_1176, v_1177, v_1178, (bw (0) (99) (bkc (x := 0) (c := 0) (by decide)) (by decide)), bv_1173, bv_1174, bv_1175, bv_1176, bv_1177, (by rw [← rl1178_0, ← opt_eq (i := 47) (j := 12) (by decide +kernel) (by decide +kernel)]; exact opt_n h_1232), (by assumption), (by have h90 : Int32.toInt 0 = 0 := (by decide); omega), (by have h90 : Int32.toInt 0 = 0 := (by decide); omega), (by have h90 : Int32.toInt 0 = 0 := (by decide); omega), (by have h90 : Int32.toInt 0 = 0 := (by decide); omega), rfl, ⟨hP, hD⟩, hS, lv_sub hl [0, 1] rfl⟩
      · skip
        have hLh_1247 : ((lenS.getD 47 0 : Nat) : Int) = 5 := by decide
        obtain ⟨hP, hD⟩ : vPD G A H [(ce_X10 ob ob_thrown ob_world ob_images ob_hasImage ob_tape ob_taped ob_five ob_size v_1234 v_1235 v_1236 v_1237 v_1177 v_1178 ob_fresh ob_parts ob_houses ob_houseMany ob_worthOf ob_byCall ob_over ob_bestSet ob_bestOver ob_bestWorth ob_row ob_tenDebts ob_tenMany ob_fewestBy ob_covered ob_queue ob_cameBy ob_parent ob_met ob_calls ob_callMany ob_calledOn ob_saved ob_many ob_width ob_numbers ob_moving), (ce_b1400 y ob_tape fob_tape), (ce_i9080 y ob_fresh f_1179)] := ⟨hP, hD⟩
        refine lv_if_eq (tgt := 180) hx hb dX10_readHouse_167 (by decide) (fun c9 => absurd c9 (by decide)) (fun _ => ?_)
        refine lv_aload_n hx hb dX10_readHouse_170 rfl (lv_at hl 1 rfl) ?_
        refine lv_iconst (v := 0) hx hb dX10_readHouse_171 (by decide) ?_
        refine lv_bipush (v := 99) hx hb dX10_readHouse_172 (by decide) ?_
        refine cVim (As := [.int 0, .int 99]) (rest := [.int v_1180, .ref ob_fresh]) ⟨hx, hb, hml, hown, hw0⟩ hA hK hP hD hS [true, true] (snr0_99 l G y _ ob ob_thrown ob_world ob_images ob_hasImage ob_tape ob_taped ob_five ob_size v_1234 v_1235 v_1236 v_1237 v_1177 v_1178 ob_fresh ob_parts ob_houses ob_houseMany ob_worthOf ob_byCall ob_over ob_bestSet ob_bestOver ob_bestWorth ob_row ob_tenDebts ob_tenMany ob_fewestBy ob_covered ob_queue ob_cameBy ob_parent ob_met ob_calls ob_callMany ob_calledOn ob_saved ob_many ob_width ob_numbers ob_moving fob_tape p_fob_tape p_ob_taped p_ob_size bv_1234 bv_1235 bv_1236 bv_1237 bv_1177 p_ob_houseMany p_ob_bestSet p_ob_bestOver p_ob_tenMany p_ob_callMany (by omega) (by omega) (by assumption)) rfl ⟨(callB_of 2 hw0 (gA m_572) rfl rfl rfl (hw0 _ m_41) (hw0 _ m_605) cb_X10_number ⟨Nat.le_of_ble_eq_true rfl, Nat.le_of_ble_eq_true rfl⟩), (hw0 _ m_606), (hw0 _ m_607)⟩ (ci := 10) (q := (RX10, TX10, 41)) rfl rfl rfl hl.1 (Nat.le_of_ble_eq_true rfl) dX10_readHouse_174 ⟨Nat.le_of_ble_eq_true rfl, Nat.le_of_ble_eq_true rfl⟩ (fun r_1248 w_1248 H locs hw_1248 hP hD hS => ?_)
        obtain ⟨v_1249, v_1250, v_1251, v_1252, v_1253, v_1254, v_1255, bv_1249, bv_1250, bv_1251, bv_1252, bv_1253, bv_1254, h_1256, h_1257, h_1258, h_1259, h_1260, h_1261, h_1262, h_1263, er_1248, rfl⟩ := hw_1248
        subst r_1248
        obtain ⟨hP, hD⟩ : vPD G A H [(ce_X10 ob ob_thrown ob_world ob_images ob_hasImage ob_tape ob_taped ob_five ob_size v_1250 v_1251 v_1252 v_1253 v_1254 v_1255 ob_fresh ob_parts ob_houses ob_houseMany ob_worthOf ob_byCall ob_over ob_bestSet ob_bestOver ob_bestWorth ob_row ob_tenDebts ob_tenMany ob_fewestBy ob_covered ob_queue ob_cameBy ob_parent ob_met ob_calls ob_callMany ob_calledOn ob_saved ob_many ob_width ob_numbers ob_moving), (ce_b1400 y ob_tape fob_tape), (ce_i9080 y ob_fresh f_1179)] := ⟨hP, hD⟩
        refine lv_goto (tgt := 181) hx hb dX10_readHouse_177 (by decide) ?_
        exact J_181_1220 _ _ _ _ ⟨v_1249, v_1250, v_1251, v_1252, v_1253, v_1254, v_1255, bv_1249, bv_1250, bv_1251, bv_1252, bv_1253, bv_1254, (by rw [← rl1178_0, ← opt_eq (i := 47) (j := 12) (by decide +kernel) (by decide +kernel)]; exact opt_y h_1239 h_1238 h_1256), (by assumption), (by omega), (by omega), (by omega), (by omega), rfl, ⟨hP, hD⟩, hS, lv_sub hl [0, 1] rfl⟩
  · skip
    refine cViSm (As := [.ref (aK 46)]) (rest := [.int v_1138, .ref ob_fresh]) ⟨hx, hb, hml, hown, hw0⟩ hA hK hP hD hS hE [true, true] (sX10_takes l G y aK aV _ ob 46 ob_thrown ob_world ob_images ob_hasImage ob_tape ob_taped ob_five ob_size v_1122 v_1123 v_1124 v_1125 v_1126 v_1127 ob_fresh ob_parts ob_houses ob_houseMany ob_worthOf ob_byCall ob_over ob_bestSet ob_bestOver ob_bestWorth ob_row ob_tenDebts ob_tenMany ob_fewestBy ob_covered ob_queue ob_cameBy ob_parent ob_met ob_calls ob_callMany ob_calledOn ob_saved ob_many ob_width ob_numbers ob_moving fob_tape p_fob_tape p_ob_taped p_ob_size bv_1122 bv_1123 bv_1124 bv_1125 bv_1126 p_ob_houseMany p_ob_bestSet p_ob_bestOver p_ob_tenMany p_ob_callMany (by decide) (by omega) (by omega) (by assumption) (by decide +kernel)) rfl ⟨(callB_of 1 hw0 (gA m_681) rfl rfl rfl (hw0 _ m_41) (hw0 _ m_565) cb_X10_takes ⟨Nat.le_of_ble_eq_true rfl, Nat.le_of_ble_eq_true rfl⟩), (hw0 _ m_566), (hw0 _ m_567)⟩ (ci := 10) (q := (RX10, TX10, 41)) rfl rfl rfl hl.1 (Nat.le_of_ble_eq_true rfl) dX10_readHouse_134 ⟨Nat.le_of_ble_eq_true rfl, Nat.le_of_ble_eq_true rfl⟩ (fun r_1264 w_1264 H locs hw_1264 hP hD hS => ?_)
    rcases hw_1264 with ⟨h_1265, h_1266, rfl, rfl⟩ | ⟨v_1267, v_1268, v_1269, v_1270, bv_1267, bv_1268, bv_1269, bv_1270, h_1271, h_1272, h_1273, h_1274, h_1275, h_1276, h_1277, h_1278, rfl, rfl⟩
    · skip
      have hLh_1279 : ((lenS.getD 46 0 : Nat) : Int) = 4 := by decide
      obtain ⟨hP, hD⟩ : vPD G A H [(ce_X10 ob ob_thrown ob_world ob_images ob_hasImage ob_tape ob_taped ob_five ob_size v_1122 v_1123 v_1124 v_1125 v_1126 v_1127 ob_fresh ob_parts ob_houses ob_houseMany ob_worthOf ob_byCall ob_over ob_bestSet ob_bestOver ob_bestWorth ob_row ob_tenDebts ob_tenMany ob_fewestBy ob_covered ob_queue ob_cameBy ob_parent ob_met ob_calls ob_callMany ob_calledOn ob_saved ob_many ob_width ob_numbers ob_moving), (ce_b1400 y ob_tape fob_tape), (ce_i9080 y ob_fresh f_1136)] := ⟨hP, hD⟩
      refine lv_if_eq (tgt := 151) hx hb dX10_readHouse_137 (by decide) (fun _ => ?_) (fun c9 => absurd (by decide) c9)
      refine lv_iconst (v := 0) hx hb dX10_readHouse_151 (by decide) ?_
      exact J_152_1178 _ _ _ _ ⟨0, v_1122, v_1123, v_1124, v_1125, v_1126, v_1127, (bw (0) (399) (bkc (x := 0) (c := 0) (by decide)) (by decide)), bv_1122, bv_1123, bv_1124, bv_1125, bv_1126, (by rw [← E_1137, ← opt_eq (i := 46) (j := 11) (by decide +kernel) (by decide +kernel)]; exact opt_n h_1265), (by assumption), (by have h90 : Int32.toInt 0 = 0 := (by decide); omega), (by have h90 : Int32.toInt 0 = 0 := (by decide); omega), (by have h90 : Int32.toInt 0 = 0 := (by decide); omega), (by have h90 : Int32.toInt 0 = 0 := (by decide); omega), rfl, ⟨hP, hD⟩, hS, lv_sub hl [0, 1] rfl⟩
    · skip
      have hLh_1280 : ((lenS.getD 46 0 : Nat) : Int) = 4 := by decide
      obtain ⟨hP, hD⟩ : vPD G A H [(ce_X10 ob ob_thrown ob_world ob_images ob_hasImage ob_tape ob_taped ob_five ob_size v_1267 v_1268 v_1269 v_1270 v_1126 v_1127 ob_fresh ob_parts ob_houses ob_houseMany ob_worthOf ob_byCall ob_over ob_bestSet ob_bestOver ob_bestWorth ob_row ob_tenDebts ob_tenMany ob_fewestBy ob_covered ob_queue ob_cameBy ob_parent ob_met ob_calls ob_callMany ob_calledOn ob_saved ob_many ob_width ob_numbers ob_moving), (ce_b1400 y ob_tape fob_tape), (ce_i9080 y ob_fresh f_1136)] := ⟨hP, hD⟩
      refine lv_if_eq (tgt := 151) hx hb dX10_readHouse_137 (by decide) (fun c9 => absurd c9 (by decide)) (fun _ => ?_)
      refine lv_aload_n hx hb dX10_readHouse_140 rfl (lv_at hl 1 rfl) ?_
      refine lv_iconst (v := 0) hx hb dX10_readHouse_141 (by decide) ?_
      refine lv_sipush (v := 399) hx hb dX10_readHouse_142 (by decide) ?_
      refine cVim (As := [.int 0, .int 399]) (rest := [.int v_1138, .ref ob_fresh]) ⟨hx, hb, hml, hown, hw0⟩ hA hK hP hD hS [true, true] (snr0_399 l G y _ ob ob_thrown ob_world ob_images ob_hasImage ob_tape ob_taped ob_five ob_size v_1267 v_1268 v_1269 v_1270 v_1126 v_1127 ob_fresh ob_parts ob_houses ob_houseMany ob_worthOf ob_byCall ob_over ob_bestSet ob_bestOver ob_bestWorth ob_row ob_tenDebts ob_tenMany ob_fewestBy ob_covered ob_queue ob_cameBy ob_parent ob_met ob_calls ob_callMany ob_calledOn ob_saved ob_many ob_width ob_numbers ob_moving fob_tape p_fob_tape p_ob_taped p_ob_size bv_1267 bv_1268 bv_1269 bv_1270 bv_1126 p_ob_houseMany p_ob_bestSet p_ob_bestOver p_ob_tenMany p_ob_callMany (by omega) (by omega) (by assumption)) rfl ⟨(callB_of 2 hw0 (gA m_572) rfl rfl rfl (hw0 _ m_41) (hw0 _ m_605) cb_X10_number ⟨Nat.le_of_ble_eq_true rfl, Nat.le_of_ble_eq_true rfl⟩), (hw0 _ m_606), (hw0 _ m_607)⟩ (ci := 10) (q := (RX10, TX10, 41)) rfl rfl rfl hl.1 (Nat.le_of_ble_eq_true rfl) dX10_readHouse_145 ⟨Nat.le_of_ble_eq_true rfl, Nat.le_of_ble_eq_true rfl⟩ (fun r_1281 w_1281 H locs hw_1281 hP hD hS => ?_)
      obtain ⟨v_1282, v_1283, v_1284, v_1285, v_1286, v_1287, v_1288, bv_1282, bv_1283, bv_1284, bv_1285, bv_1286, bv_1287, h_1289, h_1290, h_1291, h_1292, h_1293, h_1294, h_1295, h_1296, er_1281, rfl⟩ := hw_1281
      subst r_1281
      obtain ⟨hP, hD⟩ : vPD G A H [(ce_X10 ob ob_thrown ob_world ob_images ob_hasImage ob_tape ob_taped ob_five ob_size v_1283 v_1284 v_1285 v_1286 v_1287 v_1288 ob_fresh ob_parts ob_houses ob_houseMany ob_worthOf ob_byCall ob_over ob_bestSet ob_bestOver ob_bestWorth ob_row ob_tenDebts ob_tenMany ob_fewestBy ob_covered ob_queue ob_cameBy ob_parent ob_met ob_calls ob_callMany ob_calledOn ob_saved ob_many ob_width ob_numbers ob_moving), (ce_b1400 y ob_tape fob_tape), (ce_i9080 y ob_fresh f_1136)] := ⟨hP, hD⟩
      refine lv_goto (tgt := 152) hx hb dX10_readHouse_148 (by decide) ?_
      exact J_152_1178 _ _ _ _ ⟨v_1282, v_1283, v_1284, v_1285, v_1286, v_1287, v_1288, bv_1282, bv_1283, bv_1284, bv_1285, bv_1286, bv_1287, (by rw [← E_1137, ← opt_eq (i := 46) (j := 11) (by decide +kernel) (by decide +kernel)]; exact opt_y h_1272 h_1271 h_1289), (by assumption), (by omega), (by omega), (by omega), (by omega), rfl, ⟨hP, hD⟩, hS, lv_sub hl [0, 1] rfl⟩

set_option maxHeartbeats 4000000 in
set_option maxRecDepth 100000 in
theorem sX10_readKnow (l : Launch) (G : va_G) (y : Nat → ClassId) (sz : Nat) (ob : Nat) (ob_thrown : Int32) (ob_world : Nat) (ob_images : Nat) (ob_hasImage : Nat) (ob_tape : Nat) (ob_taped : Int32) (ob_five : Nat) (ob_size : Int32) (ob_at : Int32) (ob_from : Int32) (ob_token : Int32) (ob_value : Int32) (ob_faultKind : Int32) (ob_faultPlace : Int32) (ob_fresh : Nat) (ob_parts : Nat) (ob_houses : Nat) (ob_houseMany : Int32) (ob_worthOf : Nat) (ob_byCall : Nat) (ob_over : Nat) (ob_bestSet : Int32) (ob_bestOver : Int32) (ob_bestWorth : Int32) (ob_row : Nat) (ob_tenDebts : Nat) (ob_tenMany : Int32) (ob_fewestBy : Nat) (ob_covered : Nat) (ob_queue : Nat) (ob_cameBy : Nat) (ob_parent : Nat) (ob_met : Nat) (ob_calls : Nat) (ob_callMany : Int32) (ob_calledOn : Nat) (ob_saved : Nat) (ob_many : Nat) (ob_width : Nat) (ob_numbers : Nat) (ob_moving : Nat) (fob_tape : Nat → Int32) (fob_fresh : Nat → Int32) (p_fob_tape : ∀ i, (-128 : Int) ≤ (fob_tape i).toInt ∧ (fob_tape i).toInt ≤ 127) (p_ob_taped : (0 : Int) ≤ ob_taped.toInt ∧ ob_taped.toInt ≤ 1400) (p_ob_size : (0 : Int) ≤ ob_size.toInt ∧ ob_size.toInt ≤ 1400) (p_ob_at : (0 : Int) ≤ ob_at.toInt ∧ ob_at.toInt ≤ 1400) (p_ob_from : (0 : Int) ≤ ob_from.toInt ∧ ob_from.toInt ≤ 1400) (p_ob_token : (0 : Int) ≤ ob_token.toInt ∧ ob_token.toInt ≤ 4) (p_ob_value : (0 : Int) ≤ ob_value.toInt ∧ ob_value.toInt ≤ 9999) (p_ob_faultKind : (0 : Int) ≤ ob_faultKind.toInt ∧ ob_faultKind.toInt ≤ 3) (p_fob_fresh : RWw fob_fresh) (p_ob_houseMany : (0 : Int) ≤ ob_houseMany.toInt ∧ ob_houseMany.toInt ≤ 10) (p_ob_bestSet : (0 : Int) ≤ ob_bestSet.toInt ∧ ob_bestSet.toInt ≤ 1023) (p_ob_bestOver : (-1 : Int) ≤ ob_bestOver.toInt ∧ ob_bestOver.toInt ≤ 180) (p_ob_tenMany : (0 : Int) ≤ ob_tenMany.toInt ∧ ob_tenMany.toInt ≤ 10) (p_ob_callMany : (0 : Int) ≤ ob_callMany.toInt ∧ ob_callMany.toInt ≤ 16) (hq0 : ob_from.toInt ≤ ob_at.toInt) (hq1 : ob_token.toInt = 0 ∨ ob_from.toInt < ob_at.toInt) (hq2 : qTok fob_tape ob_size.toInt 9999 ob_token.toInt ob_from.toInt ob_at.toInt ob_value.toInt) (hq3 : 4 * (fob_fresh 3).toInt ≤ ob_from.toInt + 3) (hq4 : 2 * (fob_fresh 2).toInt ≤ (fob_fresh 3).toInt) : Met l yX10_readKnow (Cond.code yX10_readKnow cX10_readKnow 3 none :: wAll) ({ frames := 3, cells := 0, slots := 0, locals := 69 }) (va_Pc [.ref ob] (kp G y sz [(ce_X10 ob ob_thrown ob_world ob_images ob_hasImage ob_tape ob_taped ob_five ob_size ob_at ob_from ob_token ob_value ob_faultKind ob_faultPlace ob_fresh ob_parts ob_houses ob_houseMany ob_worthOf ob_byCall ob_over ob_bestSet ob_bestOver ob_bestWorth ob_row ob_tenDebts ob_tenMany ob_fewestBy ob_covered ob_queue ob_cameBy ob_parent ob_met ob_calls ob_callMany ob_calledOn ob_saved ob_many ob_width ob_numbers ob_moving), (ce_b1400 y ob_tape fob_tape), (ce_i9080 y ob_fresh fob_fresh)])) (va_Qv (fun (w : va_W) => (∃ (v_345 : Int32) (v_346 : Int32) (v_347 : Int32) (v_348 : Int32) (v_349 : Int32) (v_350 : Int32) (f_351 : Nat → Int32), ((0 : Int) ≤ v_345.toInt ∧ v_345.toInt ≤ 1400) ∧ ((0 : Int) ≤ v_346.toInt ∧ v_346.toInt ≤ 1400) ∧ ((0 : Int) ≤ v_347.toInt ∧ v_347.toInt ≤ 4) ∧ ((0 : Int) ≤ v_348.toInt ∧ v_348.toInt ≤ 9999) ∧ ((0 : Int) ≤ v_349.toInt ∧ v_349.toInt ≤ 3) ∧ (RWw f_351) ∧ (((v_349.toInt, v_350.toInt, v_346.toInt) : Int × Int × Int) = r_kn fob_tape ob_size.toInt (fob_fresh 0).toInt ((ob_faultKind.toInt, ob_faultPlace.toInt, ob_from.toInt) : Int × Int × Int)) ∧ (qTok fob_tape ob_size.toInt 9999 v_347.toInt v_346.toInt v_345.toInt v_348.toInt) ∧ (v_346.toInt ≤ v_345.toInt) ∧ (v_347.toInt = 0 ∨ v_346.toInt < v_345.toInt) ∧ (ob_from.toInt ≤ v_346.toInt) ∧ (ob_faultKind.toInt = 0 ∨ ¬ v_349.toInt = 0) ∧ (4 * (f_351 3).toInt ≤ v_346.toInt + 3) ∧ (2 * (f_351 2).toInt ≤ (f_351 3).toInt) ∧ ((f_351 0).toInt = (fob_fresh 0).toInt ∧ (f_351 1).toInt = (fob_fresh 1).toInt) ∧ w = [(ce_X10 ob ob_thrown ob_world ob_images ob_hasImage ob_tape ob_taped ob_five ob_size v_345 v_346 v_347 v_348 v_349 v_350 ob_fresh ob_parts ob_houses ob_houseMany ob_worthOf ob_byCall ob_over ob_bestSet ob_bestOver ob_bestWorth ob_row ob_tenDebts ob_tenMany ob_fewestBy ob_covered ob_queue ob_cameBy ob_parent ob_met ob_calls ob_callMany ob_calledOn ob_saved ob_many ob_width ob_numbers ob_moving), (ce_b1400 y ob_tape fob_tape), (ce_i9080 y ob_fresh f_351)])) (kq G (va_A [(ce_X10 ob ob_thrown ob_world ob_images ob_hasImage ob_tape ob_taped ob_five ob_size ob_at ob_from ob_token ob_value ob_faultKind ob_faultPlace ob_fresh ob_parts ob_houses ob_houseMany ob_worthOf ob_byCall ob_over ob_bestSet ob_bestOver ob_bestWorth ob_row ob_tenDebts ob_tenMany ob_fewestBy ob_covered ob_queue ob_cameBy ob_parent ob_met ob_calls ob_callMany ob_calledOn ob_saved ob_many ob_width ob_numbers ob_moving), (ce_b1400 y ob_tape fob_tape), (ce_i9080 y ob_fresh fob_fresh)] sz)) (va_A [(ce_X10 ob ob_thrown ob_world ob_images ob_hasImage ob_tape ob_taped ob_five ob_size ob_at ob_from ob_token ob_value ob_faultKind ob_faultPlace ob_fresh ob_parts ob_houses ob_houseMany ob_worthOf ob_byCall ob_over ob_bestSet ob_bestOver ob_bestWorth ob_row ob_tenDebts ob_tenMany ob_fewestBy ob_covered ob_queue ob_cameBy ob_parent ob_met ob_calls ob_callMany ob_calledOn ob_saved ob_many ob_width ob_numbers ob_moving), (ce_b1400 y ob_tape fob_tape), (ce_i9080 y ob_fresh fob_fresh)] sz)) 0 0 (va_A [(ce_X10 ob ob_thrown ob_world ob_images ob_hasImage ob_tape ob_taped ob_five ob_size ob_at ob_from ob_token ob_value ob_faultKind ob_faultPlace ob_fresh ob_parts ob_houses ob_houseMany ob_worthOf ob_byCall ob_over ob_bestSet ob_bestOver ob_bestWorth ob_row ob_tenDebts ob_tenMany ob_fewestBy ob_covered ob_queue ob_cameBy ob_parent ob_met ob_calls ob_callMany ob_calledOn ob_saved ob_many ob_width ob_numbers ob_moving), (ce_b1400 y ob_tape fob_tape), (ce_i9080 y ob_fresh fob_fresh)] sz) := by
  refine Met.ofW (cc := cX10_readKnow) (maxL := 3) (ret := none) (by decide) rfl ?_
  intro p e s m args below meth c s₁ B hml hv
  obtain ⟨rfl, hsz, hP, hK, hD0⟩ := hv
  have hx := B.exec
  have hb := B.bytes
  have hr := B.returns
  have hw0 : ∀ w ∈ wAll, w.before _ s = true := fun w h => atoms_spec (ws := Cond.code yX10_readKnow cX10_readKnow 3 none :: wAll) B.pre w (List.mem_cons_of_mem _ h)
  have hown : s.vm.findClass RX10 = some m.cls := findClass_of_methodNamed B.named
  subst hsz
  have hD := hD0.self (sz := s.heap.size)
  generalize hAe : va_A [(ce_X10 ob ob_thrown ob_world ob_images ob_hasImage ob_tape ob_taped ob_five ob_size ob_at ob_from ob_token ob_value ob_faultKind ob_faultPlace ob_fresh ob_parts ob_houses ob_houseMany ob_worthOf ob_byCall ob_over ob_bestSet ob_bestOver ob_bestWorth ob_row ob_tenDebts ob_tenMany ob_fewestBy ob_covered ob_queue ob_cameBy ob_parent ob_met ob_calls ob_callMany ob_calledOn ob_saved ob_many ob_width ob_numbers ob_moving), (ce_b1400 y ob_tape fob_tape), (ce_i9080 y ob_fresh fob_fresh)] s.heap.size = A at hD ⊢
  have hA : ∀ q : Nat, s.heap.size ≤ q → A q := fun q h => by rw [← hAe]; exact Or.inr h
  have hS : va_S A s.heap s.heap [] := va_S.rf
  have hP : va_P G vwCl [(ce_X10 ob ob_thrown ob_world ob_images ob_hasImage ob_tape ob_taped ob_five ob_size ob_at ob_from ob_token ob_value ob_faultKind ob_faultPlace ob_fresh ob_parts ob_houses ob_houseMany ob_worthOf ob_byCall ob_over ob_bestSet ob_bestOver ob_bestWorth ob_row ob_tenDebts ob_tenMany ob_fewestBy ob_covered ob_queue ob_cameBy ob_parent ob_met ob_calls ob_callMany ob_calledOn ob_saved ob_many ob_width ob_numbers ob_moving), (ce_b1400 y ob_tape fob_tape), (ce_i9080 y ob_fresh fob_fresh)] s.heap := hP
  have hl := lv_entry ([.ref ob]) (n := 3) (Nat.le_of_ble_eq_true rfl)
  rw [lg_entry_eq]
  generalize (lg_sl ([.ref ob]) ++ List.replicate (3 - (lg_sl ([.ref ob])).length) Slot.unset).toArray = ls at hl ⊢
  have hl : lv_has ls 3 [(0, .ref ob)] := hl
  refine lv_aload_n hx hb dX10_readKnow_0 rfl (lv_at hl 0 rfl) ?_
  refine lv_iconst (v := 0) hx hb dX10_readKnow_1 (by decide) ?_
  refine lv_aload_n hx hb dX10_readKnow_2 rfl (lv_at hl 0 rfl) ?_
  refine va_get (D := G) (ci := 10) (v := .ref ob_fresh) (C := RX10) (T := TX10) (N := 41) hx hb hw0 inA_wsX100 hown hK.1 hP 0 rfl rfl 14 (by decide) (hw0 _ m_521) (fun _ h9 => h9) rfl dX10_readKnow_3 ?_
  refine lv_iconst (v := 0) hx hb dX10_readKnow_6 (by decide) ?_
  refine va_iald hx hb hK.1 hP 2 1 rfl rfl (vi (bkc (x := 0) (c := 0) (by decide)) (by decide)) dX10_readKnow_7 ?_
  refine lv_topi (fun v_1001 ev_1001 => ?_)
  have bv_1001 : (0 : Int) ≤ v_1001.toInt ∧ v_1001.toInt ≤ 16 := rdk ev_1001 (p_fob_fresh).1.1 (by decide)
  have yv_1001 : v_1001.toInt = (fob_fresh 0).toInt := congrArg Int32.toInt ev_1001
  refine lv_iconst (v := 1) hx hb dX10_readKnow_8 (by decide) ?_
  refine lv_isub hx hb dX10_readKnow_9 ?_
  refine lv_topi (fun v_1002 ev_1002 => ?_)
  have qv_1002 := ba_sub ev_1002 bv_1001 (bkc (x := 1) (c := 1) (by decide)) (by decide)
  have bv_1002 : (-1 : Int) ≤ v_1002.toInt ∧ v_1002.toInt ≤ 15 := bq_sub qv_1002 bv_1001 (bkc (x := 1) (c := 1) (by decide)) _ _ (by decide)
  have qv_1002 : v_1002.toInt = v_1001.toInt - (1) := qv_1002
  refine cVim (As := [.int 0, .int v_1002]) (rest := []) ⟨hx, hb, hml, hown, hw0⟩ hA hK hP hD hS [true, true] (snrH l G y _ ob v_1002 ob_thrown ob_world ob_images ob_hasImage ob_tape ob_taped ob_five ob_size ob_at ob_from ob_token ob_value ob_faultKind ob_faultPlace ob_fresh ob_parts ob_houses ob_houseMany ob_worthOf ob_byCall ob_over ob_bestSet ob_bestOver ob_bestWorth ob_row ob_tenDebts ob_tenMany ob_fewestBy ob_covered ob_queue ob_cameBy ob_parent ob_met ob_calls ob_callMany ob_calledOn ob_saved ob_many ob_width ob_numbers ob_moving fob_tape p_fob_tape p_ob_taped p_ob_size p_ob_at p_ob_from p_ob_token p_ob_value p_ob_faultKind p_ob_houseMany p_ob_bestSet p_ob_bestOver p_ob_tenMany p_ob_callMany bv_1002 (by omega) (by omega) (by assumption)) rfl ⟨(callB_of 2 hw0 (gA m_572) rfl rfl rfl (hw0 _ m_41) (hw0 _ m_605) cb_X10_number ⟨Nat.le_of_ble_eq_true rfl, Nat.le_of_ble_eq_true rfl⟩), (hw0 _ m_606), (hw0 _ m_607)⟩ (ci := 10) (q := (RX10, TX10, 41)) rfl rfl rfl hl.1 (Nat.le_of_ble_eq_true rfl) dX10_readKnow_10 ⟨Nat.le_of_ble_eq_true rfl, Nat.le_of_ble_eq_true rfl⟩ (fun r_1003 w_1003 H locs hw_1003 hP hD hS => ?_)
  obtain ⟨v_1004, v_1005, v_1006, v_1007, v_1008, v_1009, v_1010, bv_1004, bv_1005, bv_1006, bv_1007, bv_1008, bv_1009, h_1011, h_1012, h_1013, h_1014, h_1015, h_1016, h_1017, h_1018, er_1003, rfl⟩ := hw_1003
  subst r_1003
  obtain ⟨hP, hD⟩ : vPD G A H [(ce_X10 ob ob_thrown ob_world ob_images ob_hasImage ob_tape ob_taped ob_five ob_size v_1005 v_1006 v_1007 v_1008 v_1009 v_1010 ob_fresh ob_parts ob_houses ob_houseMany ob_worthOf ob_byCall ob_over ob_bestSet ob_bestOver ob_bestWorth ob_row ob_tenDebts ob_tenMany ob_fewestBy ob_covered ob_queue ob_cameBy ob_parent ob_met ob_calls ob_callMany ob_calledOn ob_saved ob_many ob_width ob_numbers ob_moving), (ce_b1400 y ob_tape fob_tape), (ce_i9080 y ob_fresh fob_fresh)] := ⟨hP, hD⟩
  refine lv_istore_n (lv' := [(1, .int v_1004), (0, .ref ob)]) hx hb dX10_readKnow_13 rfl hl (by decide) rfl (fun ls hl => ?_)
  refine lv_aload_n hx hb dX10_readKnow_14 rfl (lv_at hl 1 rfl) ?_
  refine cVim (As := []) (rest := []) ⟨hx, hb, hml, hown, hw0⟩ hA hK hP hD hS [true] (sX10_good l G y _ ob ob_thrown ob_world ob_images ob_hasImage ob_tape ob_taped ob_five ob_size v_1005 v_1006 v_1007 v_1008 v_1009 v_1010 ob_fresh ob_parts ob_houses ob_houseMany ob_worthOf ob_byCall ob_over ob_bestSet ob_bestOver ob_bestWorth ob_row ob_tenDebts ob_tenMany ob_fewestBy ob_covered ob_queue ob_cameBy ob_parent ob_met ob_calls ob_callMany ob_calledOn ob_saved ob_many ob_width ob_numbers ob_moving p_ob_taped p_ob_size bv_1005 bv_1006 bv_1007 bv_1008 bv_1009 p_ob_houseMany p_ob_bestSet p_ob_bestOver p_ob_tenMany p_ob_callMany) rfl ⟨(callB_of 0 hw0 (gA m_510) rfl rfl rfl (hw0 _ m_41) (hw0 _ m_453) cb_X10_good ⟨Nat.le_of_ble_eq_true rfl, Nat.le_of_ble_eq_true rfl⟩), (hw0 _ m_454), (hw0 _ m_455)⟩ (ci := 10) (q := (RX10, TX10, 41)) rfl rfl rfl hl.1 (Nat.le_of_ble_eq_true rfl) dX10_readKnow_15 ⟨Nat.le_of_ble_eq_true rfl, Nat.le_of_ble_eq_true rfl⟩ (fun r_1019 w_1019 H locs hw_1019 hP hD hS => ?_)
  rcases hw_1019 with ⟨h_1020, rfl, rfl⟩ | ⟨h_1021, rfl, rfl⟩
  · skip
    obtain ⟨hP, hD⟩ : vPD G A H [(ce_X10 ob ob_thrown ob_world ob_images ob_hasImage ob_tape ob_taped ob_five ob_size v_1005 v_1006 v_1007 v_1008 v_1009 v_1010 ob_fresh ob_parts ob_houses ob_houseMany ob_worthOf ob_byCall ob_over ob_bestSet ob_bestOver ob_bestWorth ob_row ob_tenDebts ob_tenMany ob_fewestBy ob_covered ob_queue ob_cameBy ob_parent ob_met ob_calls ob_callMany ob_calledOn ob_saved ob_many ob_width ob_numbers ob_moving), (ce_b1400 y ob_tape fob_tape), (ce_i9080 y ob_fresh fob_fresh)] := ⟨hP, hD⟩
    refine lv_if_eq (tgt := 42) hx hb dX10_readKnow_18 (by decide) (fun _ => ?_) (fun c9 => absurd (by decide) c9)
    have E_1022 : ((v_1009.toInt, v_1010.toInt, v_1006.toInt) : Int × Int × Int) = r_k1 fob_tape ob_size.toInt v_1004.toInt ((v_1009.toInt, v_1010.toInt, v_1006.toInt) : Int × Int × Int) := k1_f (by omega)
    refine lv_aload_n hx hb dX10_readKnow_42 rfl (lv_at hl 1 rfl) ?_
    refine lv_iconst (v := 0) hx hb dX10_readKnow_43 (by decide) ?_
    refine lv_aload_n hx hb dX10_readKnow_44 rfl (lv_at hl 1 rfl) ?_
    refine va_get (D := G) (ci := 10) (v := .ref ob_fresh) (C := RX10) (T := TX10) (N := 41) hx hb hw0 inA_wsX100 hown hK.1 hP 0 rfl rfl 14 (by decide) (hw0 _ m_521) (fun _ h9 => h9) rfl dX10_readKnow_45 ?_
    refine lv_iconst (v := 0) hx hb dX10_readKnow_48 (by decide) ?_
    refine va_iald hx hb hK.1 hP 2 1 rfl rfl (vi (bkc (x := 0) (c := 0) (by decide)) (by decide)) dX10_readKnow_49 ?_
    refine lv_topi (fun v_1023 ev_1023 => ?_)
    obtain rfl : v_1001 = v_1023 := (ev_1023.trans (ev_1001.symm)).symm
    refine lv_iconst (v := 1) hx hb dX10_readKnow_50 (by decide) ?_
    refine lv_isub hx hb dX10_readKnow_51 ?_
    refine lv_topi (fun v_1024 ev_1024 => ?_)
    obtain rfl : v_1002 = v_1024 := (ev_1024.trans (ev_1002.symm)).symm
    refine cVim (As := [.int 0, .int v_1002]) (rest := []) ⟨hx, hb, hml, hown, hw0⟩ hA hK hP hD hS [true, true] (snrH l G y _ ob v_1002 ob_thrown ob_world ob_images ob_hasImage ob_tape ob_taped ob_five ob_size v_1005 v_1006 v_1007 v_1008 v_1009 v_1010 ob_fresh ob_parts ob_houses ob_houseMany ob_worthOf ob_byCall ob_over ob_bestSet ob_bestOver ob_bestWorth ob_row ob_tenDebts ob_tenMany ob_fewestBy ob_covered ob_queue ob_cameBy ob_parent ob_met ob_calls ob_callMany ob_calledOn ob_saved ob_many ob_width ob_numbers ob_moving fob_tape p_fob_tape p_ob_taped p_ob_size bv_1005 bv_1006 bv_1007 bv_1008 (bw (0) (3) h_1020 (by decide)) p_ob_houseMany p_ob_bestSet p_ob_bestOver p_ob_tenMany p_ob_callMany bv_1002 (by omega) (by omega) (by assumption)) rfl ⟨(callB_of 2 hw0 (gA m_572) rfl rfl rfl (hw0 _ m_41) (hw0 _ m_605) cb_X10_number ⟨Nat.le_of_ble_eq_true rfl, Nat.le_of_ble_eq_true rfl⟩), (hw0 _ m_606), (hw0 _ m_607)⟩ (ci := 10) (q := (RX10, TX10, 41)) rfl rfl rfl hl.1 (Nat.le_of_ble_eq_true rfl) dX10_readKnow_52 ⟨Nat.le_of_ble_eq_true rfl, Nat.le_of_ble_eq_true rfl⟩ (fun r_1025 w_1025 H locs hw_1025 hP hD hS => ?_)
    obtain ⟨v_1026, v_1027, v_1028, v_1029, v_1030, v_1031, v_1032, bv_1026, bv_1027, bv_1028, bv_1029, bv_1030, bv_1031, h_1033, h_1034, h_1035, h_1036, h_1037, h_1038, h_1039, h_1040, er_1025, rfl⟩ := hw_1025
    subst r_1025
    obtain ⟨hP, hD⟩ : vPD G A H [(ce_X10 ob ob_thrown ob_world ob_images ob_hasImage ob_tape ob_taped ob_five ob_size v_1027 v_1028 v_1029 v_1030 v_1031 v_1032 ob_fresh ob_parts ob_houses ob_houseMany ob_worthOf ob_byCall ob_over ob_bestSet ob_bestOver ob_bestWorth ob_row ob_tenDebts ob_tenMany ob_fewestBy ob_covered ob_queue ob_cameBy ob_parent ob_met ob_calls ob_callMany ob_calledOn ob_saved ob_many ob_width ob_numbers ob_moving), (ce_b1400 y ob_tape fob_tape), (ce_i9080 y ob_fresh fob_fresh)] := ⟨hP, hD⟩
    refine lv_istore_n (lv' := [(2, .int v_1026), (1, .int v_1004), (0, .ref ob)]) hx hb dX10_readKnow_55 rfl hl (by decide) rfl (fun ls hl => ?_)
    refine lv_aload_n hx hb dX10_readKnow_56 rfl (lv_at hl 2 rfl) ?_
    refine cVim (As := []) (rest := []) ⟨hx, hb, hml, hown, hw0⟩ hA hK hP hD hS [true] (sX10_good l G y _ ob ob_thrown ob_world ob_images ob_hasImage ob_tape ob_taped ob_five ob_size v_1027 v_1028 v_1029 v_1030 v_1031 v_1032 ob_fresh ob_parts ob_houses ob_houseMany ob_worthOf ob_byCall ob_over ob_bestSet ob_bestOver ob_bestWorth ob_row ob_tenDebts ob_tenMany ob_fewestBy ob_covered ob_queue ob_cameBy ob_parent ob_met ob_calls ob_callMany ob_calledOn ob_saved ob_many ob_width ob_numbers ob_moving p_ob_taped p_ob_size bv_1027 bv_1028 bv_1029 bv_1030 bv_1031 p_ob_houseMany p_ob_bestSet p_ob_bestOver p_ob_tenMany p_ob_callMany) rfl ⟨(callB_of 0 hw0 (gA m_510) rfl rfl rfl (hw0 _ m_41) (hw0 _ m_453) cb_X10_good ⟨Nat.le_of_ble_eq_true rfl, Nat.le_of_ble_eq_true rfl⟩), (hw0 _ m_454), (hw0 _ m_455)⟩ (ci := 10) (q := (RX10, TX10, 41)) rfl rfl rfl hl.1 (Nat.le_of_ble_eq_true rfl) dX10_readKnow_57 ⟨Nat.le_of_ble_eq_true rfl, Nat.le_of_ble_eq_true rfl⟩ (fun r_1041 w_1041 H locs hw_1041 hP hD hS => ?_)
    rcases hw_1041 with ⟨h_1042, rfl, rfl⟩ | ⟨h_1043, rfl, rfl⟩
    · skip
      obtain ⟨hP, hD⟩ : vPD G A H [(ce_X10 ob ob_thrown ob_world ob_images ob_hasImage ob_tape ob_taped ob_five ob_size v_1027 v_1028 v_1029 v_1030 v_1031 v_1032 ob_fresh ob_parts ob_houses ob_houseMany ob_worthOf ob_byCall ob_over ob_bestSet ob_bestOver ob_bestWorth ob_row ob_tenDebts ob_tenMany ob_fewestBy ob_covered ob_queue ob_cameBy ob_parent ob_met ob_calls ob_callMany ob_calledOn ob_saved ob_many ob_width ob_numbers ob_moving), (ce_b1400 y ob_tape fob_tape), (ce_i9080 y ob_fresh fob_fresh)] := ⟨hP, hD⟩
      refine lv_if_ne (tgt := 64) hx hb dX10_readKnow_60 (by decide) (fun c9 => absurd (by decide) c9) (fun _ => ?_)
      exact W.vret hx hb hr (fun t ht hW => ⟨⟨_, rfl, ⟨v_1027, v_1028, v_1029, v_1030, v_1031, v_1032, fob_fresh, bv_1027, bv_1028, bv_1029, bv_1030, (bw (0) (3) h_1042 (by decide)), p_fob_fresh, (by rw [h_1033, E_1022, h_1012, h_1011, qv_1002, yv_1001]; rfl), (by assumption), by omega, by omega, by omega, by omega, by omega, by omega, by omega, rfl⟩, by rw [ht]; exact hP, hD⟩, hS.F ht⟩) hS.2.2 dX10_readKnow_63
    · skip
      obtain ⟨hP, hD⟩ : vPD G A H [(ce_X10 ob ob_thrown ob_world ob_images ob_hasImage ob_tape ob_taped ob_five ob_size v_1027 v_1028 v_1029 v_1030 v_1031 v_1032 ob_fresh ob_parts ob_houses ob_houseMany ob_worthOf ob_byCall ob_over ob_bestSet ob_bestOver ob_bestWorth ob_row ob_tenDebts ob_tenMany ob_fewestBy ob_covered ob_queue ob_cameBy ob_parent ob_met ob_calls ob_callMany ob_calledOn ob_saved ob_many ob_width ob_numbers ob_moving), (ce_b1400 y ob_tape fob_tape), (ce_i9080 y ob_fresh fob_fresh)] := ⟨hP, hD⟩
      refine lv_if_ne (tgt := 64) hx hb dX10_readKnow_60 (by decide) (fun _ => ?_) (fun c9 => absurd c9 (by decide))
      refine lv_aload_n hx hb dX10_readKnow_64 rfl (lv_at hl 2 rfl) ?_
      refine va_get (D := G) (ci := 10) (v := .ref ob_fresh) (C := RX10) (T := TX10) (N := 41) hx hb hw0 inA_wsX100 hown hK.1 hP 0 rfl rfl 14 (by decide) (hw0 _ m_521) (fun _ h9 => h9) rfl dX10_readKnow_65 ?_
      refine lv_bipush (v := 10) hx hb dX10_readKnow_68 (by decide) ?_
      refine lv_bipush (v := 9) hx hb dX10_readKnow_70 (by decide) ?_
      refine lv_iload_n hx hb dX10_readKnow_72 rfl (lv_at hl 1 rfl) ?_
      refine lv_imul hx hb dX10_readKnow_73 ?_
      refine lv_topi (fun v_1044 ev_1044 => ?_)
      have qv_1044 := ba_mul 9 (ev_1044.trans (Int32.mul_comm _ _)) bv_1004 (by decide) (by decide) (by decide)
      have bv_1044 : (0 : Int) ≤ v_1044.toInt ∧ v_1044.toInt ≤ 135 := qv_1044.2
      refine lv_iadd hx hb dX10_readKnow_74 ?_
      refine lv_topi (fun v_1045 ev_1045 => ?_)
      have qv_1045 := ba_add ev_1045 (bkc (x := 10) (c := 10) (by decide)) bv_1044 (by decide)
      have bv_1045 : (10 : Int) ≤ v_1045.toInt ∧ v_1045.toInt ≤ 145 := bq_add qv_1045 (bkc (x := 10) (c := 10) (by decide)) bv_1044 _ _ (by decide)
      have qv_1045 : v_1045.toInt = (10) + v_1044.toInt := qv_1045
      refine lv_bipush (v := 8) hx hb dX10_readKnow_75 (by decide) ?_
      refine lv_iadd hx hb dX10_readKnow_77 ?_
      refine lv_topi (fun v_1046 ev_1046 => ?_)
      have qv_1046 := ba_add ev_1046 bv_1045 (bkc (x := 8) (c := 8) (by decide)) (by decide)
      have bv_1046 : (18 : Int) ≤ v_1046.toInt ∧ v_1046.toInt ≤ 153 := bq_add qv_1046 bv_1045 (bkc (x := 8) (c := 8) (by decide)) _ _ (by decide)
      have qv_1046 : v_1046.toInt = v_1045.toInt + (8) := qv_1046
      refine lv_dup2_11 hx hb dX10_readKnow_78 rfl rfl ?_
      refine va_iald hx hb hK.1 hP 2 1 rfl rfl (vi bv_1046 (by decide)) dX10_readKnow_79 ?_
      refine lv_topi (fun v_1047 ev_1047 => ?_)
      have bv_1047 : (0 : Int) ≤ v_1047.toInt ∧ v_1047.toInt ≤ 65535 := rdw ev_1047 (p_fob_fresh).1.1 pl_5 (by omega) (bv_1004)
      refine lv_iconst (v := 1) hx hb dX10_readKnow_80 (by decide) ?_
      refine lv_iload_n hx hb dX10_readKnow_81 rfl (lv_at hl 0 rfl) ?_
      refine lv_ishl hx hb dX10_readKnow_82 ?_
      refine lv_topi (fun v_1048 ev_1048 => ?_)
      have bv_1048 : (1 : Int) ≤ v_1048.toInt ∧ v_1048.toInt ≤ 32768 := ba_shl 0 15 ev_1048 bv_1026 (by decide)
      refine lv_ior hx hb dX10_readKnow_83 ?_
      refine lv_topi (fun v_1049 ev_1049 => ?_)
      have bv_1049 : (0 : Int) ≤ v_1049.toInt ∧ v_1049.toInt ≤ 65535 := ba_or 16 ev_1049 bv_1047 bv_1048 (by decide)
      refine va_iast hx hb hK.1 hP hD hS 2 1 rfl rfl (vi bv_1046 (by decide)) dX10_readKnow_84 (fun H locs hP hD hS => ?_)
      generalize hf_1050 : (upd fob_fresh (v_1046 : Int32).toNatClampNeg v_1049) = f_1050 at hP hD
      have zf_1050_0 : (f_1050 0).toInt = (fob_fresh 0).toInt := hf_1050 ▸ pin_ne (ix_not bv_1046 (by decide))
      have zf_1050_1 : (f_1050 1).toInt = (fob_fresh 1).toInt := hf_1050 ▸ pin_ne (ix_not bv_1046 (by decide))
      have zf_1050_2 : (f_1050 2).toInt = (fob_fresh 2).toInt := hf_1050 ▸ pin_ne (ix_not bv_1046 (by decide))
      have zf_1050_3 : (f_1050 3).toInt = (fob_fresh 3).toInt := hf_1050 ▸ pin_ne (ix_not bv_1046 (by decide))
      have bf_1050 : RBw f_1050 := hf_1050 ▸ upw (p_fob_fresh).1.1 pl_94 (by omega) (bv_1004) bv_1049
      have cf_1050 : RVw f_1050 := hf_1050 ▸ RV_up (p_fob_fresh).1 (hf_1050 ▸ bf_1050) (ix_out bv_1046 (by decide))
      have df_1050 : RWw f_1050 := ⟨cf_1050, hf_1050 ▸ WQ_up (p_fob_fresh).1.1 (p_fob_fresh).2 (qf_ix bv_1046 (by decide))⟩
      obtain ⟨hP, hD⟩ : vPD G A H [(ce_X10 ob ob_thrown ob_world ob_images ob_hasImage ob_tape ob_taped ob_five ob_size v_1027 v_1028 v_1029 v_1030 v_1031 v_1032 ob_fresh ob_parts ob_houses ob_houseMany ob_worthOf ob_byCall ob_over ob_bestSet ob_bestOver ob_bestWorth ob_row ob_tenDebts ob_tenMany ob_fewestBy ob_covered ob_queue ob_cameBy ob_parent ob_met ob_calls ob_callMany ob_calledOn ob_saved ob_many ob_width ob_numbers ob_moving), (ce_b1400 y ob_tape fob_tape), (ce_i9080 y ob_fresh f_1050)] := ⟨hP, hD⟩
      refine lv_aload_n hx hb dX10_readKnow_85 rfl (lv_at hl 2 rfl) ?_
      refine va_get (D := G) (ci := 10) (v := .ref ob_fresh) (C := RX10) (T := TX10) (N := 41) hx hb hw0 inA_wsX100 hown hK.1 hP 0 rfl rfl 14 (by decide) (hw0 _ m_521) (fun _ h9 => h9) rfl dX10_readKnow_86 ?_
      refine lv_bipush (v := 10) hx hb dX10_readKnow_89 (by decide) ?_
      refine lv_bipush (v := 9) hx hb dX10_readKnow_91 (by decide) ?_
      refine lv_iload_n hx hb dX10_readKnow_93 rfl (lv_at hl 0 rfl) ?_
      refine lv_imul hx hb dX10_readKnow_94 ?_
      refine lv_topi (fun v_1051 ev_1051 => ?_)
      have qv_1051 := ba_mul 9 (ev_1051.trans (Int32.mul_comm _ _)) bv_1026 (by decide) (by decide) (by decide)
      have bv_1051 : (0 : Int) ≤ v_1051.toInt ∧ v_1051.toInt ≤ 135 := qv_1051.2
      refine lv_iadd hx hb dX10_readKnow_95 ?_
      refine lv_topi (fun v_1052 ev_1052 => ?_)
      have qv_1052 := ba_add ev_1052 (bkc (x := 10) (c := 10) (by decide)) bv_1051 (by decide)
      have bv_1052 : (10 : Int) ≤ v_1052.toInt ∧ v_1052.toInt ≤ 145 := bq_add qv_1052 (bkc (x := 10) (c := 10) (by decide)) bv_1051 _ _ (by decide)
      have qv_1052 : v_1052.toInt = (10) + v_1051.toInt := qv_1052
      refine lv_bipush (v := 8) hx hb dX10_readKnow_96 (by decide) ?_
      refine lv_iadd hx hb dX10_readKnow_98 ?_
      refine lv_topi (fun v_1053 ev_1053 => ?_)
      have qv_1053 := ba_add ev_1053 bv_1052 (bkc (x := 8) (c := 8) (by decide)) (by decide)
      have bv_1053 : (18 : Int) ≤ v_1053.toInt ∧ v_1053.toInt ≤ 153 := bq_add qv_1053 bv_1052 (bkc (x := 8) (c := 8) (by decide)) _ _ (by decide)
      have qv_1053 : v_1053.toInt = v_1052.toInt + (8) := qv_1053
      refine lv_dup2_11 hx hb dX10_readKnow_99 rfl rfl ?_
      refine va_iald hx hb hK.1 hP 2 1 rfl rfl (vi bv_1053 (by decide)) dX10_readKnow_100 ?_
      refine lv_topi (fun v_1054 ev_1054 => ?_)
      have bv_1054 : (0 : Int) ≤ v_1054.toInt ∧ v_1054.toInt ≤ 65535 := rdw ev_1054 (df_1050).1.1 pl_5 (by omega) (bv_1026)
      refine lv_iconst (v := 1) hx hb dX10_readKnow_101 (by decide) ?_
      refine lv_iload_n hx hb dX10_readKnow_102 rfl (lv_at hl 1 rfl) ?_
      refine lv_ishl hx hb dX10_readKnow_103 ?_
      refine lv_topi (fun v_1055 ev_1055 => ?_)
      have bv_1055 : (1 : Int) ≤ v_1055.toInt ∧ v_1055.toInt ≤ 32768 := ba_shl 0 15 ev_1055 bv_1004 (by decide)
      refine lv_ior hx hb dX10_readKnow_104 ?_
      refine lv_topi (fun v_1056 ev_1056 => ?_)
      have bv_1056 : (0 : Int) ≤ v_1056.toInt ∧ v_1056.toInt ≤ 65535 := ba_or 16 ev_1056 bv_1054 bv_1055 (by decide)
      refine va_iast hx hb hK.1 hP hD hS 2 1 rfl rfl (vi bv_1053 (by decide)) dX10_readKnow_105 (fun H locs hP hD hS => ?_)
      generalize hf_1057 : (upd f_1050 (v_1053 : Int32).toNatClampNeg v_1056) = f_1057 at hP hD
      have zf_1057_0 : (f_1057 0).toInt = (f_1050 0).toInt := hf_1057 ▸ pin_ne (ix_not bv_1053 (by decide))
      have zf_1057_1 : (f_1057 1).toInt = (f_1050 1).toInt := hf_1057 ▸ pin_ne (ix_not bv_1053 (by decide))
      have zf_1057_2 : (f_1057 2).toInt = (f_1050 2).toInt := hf_1057 ▸ pin_ne (ix_not bv_1053 (by decide))
      have zf_1057_3 : (f_1057 3).toInt = (f_1050 3).toInt := hf_1057 ▸ pin_ne (ix_not bv_1053 (by decide))
      have bf_1057 : RBw f_1057 := hf_1057 ▸ upw (df_1050).1.1 pl_94 (by omega) (bv_1026) bv_1056
      have cf_1057 : RVw f_1057 := hf_1057 ▸ RV_up (df_1050).1 (hf_1057 ▸ bf_1057) (ix_out bv_1053 (by decide))
      have df_1057 : RWw f_1057 := ⟨cf_1057, hf_1057 ▸ WQ_up (df_1050).1.1 (df_1050).2 (qf_ix bv_1053 (by decide))⟩
      obtain ⟨hP, hD⟩ : vPD G A H [(ce_X10 ob ob_thrown ob_world ob_images ob_hasImage ob_tape ob_taped ob_five ob_size v_1027 v_1028 v_1029 v_1030 v_1031 v_1032 ob_fresh ob_parts ob_houses ob_houseMany ob_worthOf ob_byCall ob_over ob_bestSet ob_bestOver ob_bestWorth ob_row ob_tenDebts ob_tenMany ob_fewestBy ob_covered ob_queue ob_cameBy ob_parent ob_met ob_calls ob_callMany ob_calledOn ob_saved ob_many ob_width ob_numbers ob_moving), (ce_b1400 y ob_tape fob_tape), (ce_i9080 y ob_fresh f_1057)] := ⟨hP, hD⟩
      exact W.vret hx hb hr (fun t ht hW => ⟨⟨_, rfl, ⟨v_1027, v_1028, v_1029, v_1030, v_1031, v_1032, f_1057, bv_1027, bv_1028, bv_1029, bv_1030, (bw (0) (3) h_1043 (by decide)), df_1057, (by rw [h_1033, E_1022, h_1012, h_1011, qv_1002, yv_1001]; rfl), (by assumption), by omega, by omega, by omega, by omega, by omega, by omega, by omega, rfl⟩, by rw [ht]; exact hP, hD⟩, hS.F ht⟩) hS.2.2 dX10_readKnow_106
  · skip
    obtain ⟨hP, hD⟩ : vPD G A H [(ce_X10 ob ob_thrown ob_world ob_images ob_hasImage ob_tape ob_taped ob_five ob_size v_1005 v_1006 v_1007 v_1008 v_1009 v_1010 ob_fresh ob_parts ob_houses ob_houseMany ob_worthOf ob_byCall ob_over ob_bestSet ob_bestOver ob_bestWorth ob_row ob_tenDebts ob_tenMany ob_fewestBy ob_covered ob_queue ob_cameBy ob_parent ob_met ob_calls ob_callMany ob_calledOn ob_saved ob_many ob_width ob_numbers ob_moving), (ce_b1400 y ob_tape fob_tape), (ce_i9080 y ob_fresh fob_fresh)] := ⟨hP, hD⟩
    refine lv_if_eq (tgt := 42) hx hb dX10_readKnow_18 (by decide) (fun c9 => absurd c9 (by decide)) (fun _ => ?_)
    refine lv_aload_n hx hb dX10_readKnow_21 rfl (lv_at hl 1 rfl) ?_
    refine va_get (D := G) (ci := 10) (v := .int v_1007) (C := RX10) (T := TX10) (N := 41) hx hb hw0 inA_wsX100 hown hK.1 hP 0 rfl rfl 10 (by decide) (hw0 _ m_342) (fun _ h9 => h9) rfl dX10_readKnow_22 ?_
    refine lv_iconst (v := 2) hx hb dX10_readKnow_25 (by decide) ?_
    refine lv_icmp_ne (tgt := 42) hx hb dX10_readKnow_26 (by decide) (fun c_1058 => ?_) (fun c_1058 => ?_)
    · skip
      have nc_1058 := nb_ne (0) (4) c_1058 bv_1007 (k := 2) (by decide) (by decide)
      have E_1059 : ((v_1009.toInt, v_1010.toInt, v_1006.toInt) : Int × Int × Int) = r_k1 fob_tape ob_size.toInt v_1004.toInt ((v_1009.toInt, v_1010.toInt, v_1006.toInt) : Int × Int × Int) := by first | exact k1_n (by assumption) (by omega) (by omega) | exact k1_f (by omega)
      refine lv_aload_n hx hb dX10_readKnow_42 rfl (lv_at hl 1 rfl) ?_
      refine lv_iconst (v := 0) hx hb dX10_readKnow_43 (by decide) ?_
      refine lv_aload_n hx hb dX10_readKnow_44 rfl (lv_at hl 1 rfl) ?_
      refine va_get (D := G) (ci := 10) (v := .ref ob_fresh) (C := RX10) (T := TX10) (N := 41) hx hb hw0 inA_wsX100 hown hK.1 hP 0 rfl rfl 14 (by decide) (hw0 _ m_521) (fun _ h9 => h9) rfl dX10_readKnow_45 ?_
      refine lv_iconst (v := 0) hx hb dX10_readKnow_48 (by decide) ?_
      refine va_iald hx hb hK.1 hP 2 1 rfl rfl (vi (bkc (x := 0) (c := 0) (by decide)) (by decide)) dX10_readKnow_49 ?_
      refine lv_topi (fun v_1060 ev_1060 => ?_)
      obtain rfl : v_1001 = v_1060 := (ev_1060.trans (ev_1001.symm)).symm
      refine lv_iconst (v := 1) hx hb dX10_readKnow_50 (by decide) ?_
      refine lv_isub hx hb dX10_readKnow_51 ?_
      refine lv_topi (fun v_1061 ev_1061 => ?_)
      obtain rfl : v_1002 = v_1061 := (ev_1061.trans (ev_1002.symm)).symm
      refine cVim (As := [.int 0, .int v_1002]) (rest := []) ⟨hx, hb, hml, hown, hw0⟩ hA hK hP hD hS [true, true] (snrH l G y _ ob v_1002 ob_thrown ob_world ob_images ob_hasImage ob_tape ob_taped ob_five ob_size v_1005 v_1006 v_1007 v_1008 v_1009 v_1010 ob_fresh ob_parts ob_houses ob_houseMany ob_worthOf ob_byCall ob_over ob_bestSet ob_bestOver ob_bestWorth ob_row ob_tenDebts ob_tenMany ob_fewestBy ob_covered ob_queue ob_cameBy ob_parent ob_met ob_calls ob_callMany ob_calledOn ob_saved ob_many ob_width ob_numbers ob_moving fob_tape p_fob_tape p_ob_taped p_ob_size bv_1005 bv_1006 nc_1058.1 bv_1008 (bw (0) (3) h_1021 (by decide)) p_ob_houseMany p_ob_bestSet p_ob_bestOver p_ob_tenMany p_ob_callMany bv_1002 (by omega) (by omega) (by assumption)) rfl ⟨(callB_of 2 hw0 (gA m_572) rfl rfl rfl (hw0 _ m_41) (hw0 _ m_605) cb_X10_number ⟨Nat.le_of_ble_eq_true rfl, Nat.le_of_ble_eq_true rfl⟩), (hw0 _ m_606), (hw0 _ m_607)⟩ (ci := 10) (q := (RX10, TX10, 41)) rfl rfl rfl hl.1 (Nat.le_of_ble_eq_true rfl) dX10_readKnow_52 ⟨Nat.le_of_ble_eq_true rfl, Nat.le_of_ble_eq_true rfl⟩ (fun r_1062 w_1062 H locs hw_1062 hP hD hS => ?_)
      obtain ⟨v_1063, v_1064, v_1065, v_1066, v_1067, v_1068, v_1069, bv_1063, bv_1064, bv_1065, bv_1066, bv_1067, bv_1068, h_1070, h_1071, h_1072, h_1073, h_1074, h_1075, h_1076, h_1077, er_1062, rfl⟩ := hw_1062
      subst r_1062
      obtain ⟨hP, hD⟩ : vPD G A H [(ce_X10 ob ob_thrown ob_world ob_images ob_hasImage ob_tape ob_taped ob_five ob_size v_1064 v_1065 v_1066 v_1067 v_1068 v_1069 ob_fresh ob_parts ob_houses ob_houseMany ob_worthOf ob_byCall ob_over ob_bestSet ob_bestOver ob_bestWorth ob_row ob_tenDebts ob_tenMany ob_fewestBy ob_covered ob_queue ob_cameBy ob_parent ob_met ob_calls ob_callMany ob_calledOn ob_saved ob_many ob_width ob_numbers ob_moving), (ce_b1400 y ob_tape fob_tape), (ce_i9080 y ob_fresh fob_fresh)] := ⟨hP, hD⟩
      refine lv_istore_n (lv' := [(2, .int v_1063), (1, .int v_1004), (0, .ref ob)]) hx hb dX10_readKnow_55 rfl hl (by decide) rfl (fun ls hl => ?_)
      refine lv_aload_n hx hb dX10_readKnow_56 rfl (lv_at hl 2 rfl) ?_
      refine cVim (As := []) (rest := []) ⟨hx, hb, hml, hown, hw0⟩ hA hK hP hD hS [true] (sX10_good l G y _ ob ob_thrown ob_world ob_images ob_hasImage ob_tape ob_taped ob_five ob_size v_1064 v_1065 v_1066 v_1067 v_1068 v_1069 ob_fresh ob_parts ob_houses ob_houseMany ob_worthOf ob_byCall ob_over ob_bestSet ob_bestOver ob_bestWorth ob_row ob_tenDebts ob_tenMany ob_fewestBy ob_covered ob_queue ob_cameBy ob_parent ob_met ob_calls ob_callMany ob_calledOn ob_saved ob_many ob_width ob_numbers ob_moving p_ob_taped p_ob_size bv_1064 bv_1065 bv_1066 bv_1067 bv_1068 p_ob_houseMany p_ob_bestSet p_ob_bestOver p_ob_tenMany p_ob_callMany) rfl ⟨(callB_of 0 hw0 (gA m_510) rfl rfl rfl (hw0 _ m_41) (hw0 _ m_453) cb_X10_good ⟨Nat.le_of_ble_eq_true rfl, Nat.le_of_ble_eq_true rfl⟩), (hw0 _ m_454), (hw0 _ m_455)⟩ (ci := 10) (q := (RX10, TX10, 41)) rfl rfl rfl hl.1 (Nat.le_of_ble_eq_true rfl) dX10_readKnow_57 ⟨Nat.le_of_ble_eq_true rfl, Nat.le_of_ble_eq_true rfl⟩ (fun r_1078 w_1078 H locs hw_1078 hP hD hS => ?_)
      rcases hw_1078 with ⟨h_1079, rfl, rfl⟩ | ⟨h_1080, rfl, rfl⟩
      · skip
        obtain ⟨hP, hD⟩ : vPD G A H [(ce_X10 ob ob_thrown ob_world ob_images ob_hasImage ob_tape ob_taped ob_five ob_size v_1064 v_1065 v_1066 v_1067 v_1068 v_1069 ob_fresh ob_parts ob_houses ob_houseMany ob_worthOf ob_byCall ob_over ob_bestSet ob_bestOver ob_bestWorth ob_row ob_tenDebts ob_tenMany ob_fewestBy ob_covered ob_queue ob_cameBy ob_parent ob_met ob_calls ob_callMany ob_calledOn ob_saved ob_many ob_width ob_numbers ob_moving), (ce_b1400 y ob_tape fob_tape), (ce_i9080 y ob_fresh fob_fresh)] := ⟨hP, hD⟩
        refine lv_if_ne (tgt := 64) hx hb dX10_readKnow_60 (by decide) (fun c9 => absurd (by decide) c9) (fun _ => ?_)
        exact W.vret hx hb hr (fun t ht hW => ⟨⟨_, rfl, ⟨v_1064, v_1065, v_1066, v_1067, v_1068, v_1069, fob_fresh, bv_1064, bv_1065, bv_1066, bv_1067, (bw (0) (3) h_1079 (by decide)), p_fob_fresh, (by rw [h_1070, E_1059, h_1012, h_1011, qv_1002, yv_1001]; rfl), (by assumption), by omega, by omega, by omega, by omega, by omega, by omega, by omega, rfl⟩, by rw [ht]; exact hP, hD⟩, hS.F ht⟩) hS.2.2 dX10_readKnow_63
      · skip
        obtain ⟨hP, hD⟩ : vPD G A H [(ce_X10 ob ob_thrown ob_world ob_images ob_hasImage ob_tape ob_taped ob_five ob_size v_1064 v_1065 v_1066 v_1067 v_1068 v_1069 ob_fresh ob_parts ob_houses ob_houseMany ob_worthOf ob_byCall ob_over ob_bestSet ob_bestOver ob_bestWorth ob_row ob_tenDebts ob_tenMany ob_fewestBy ob_covered ob_queue ob_cameBy ob_parent ob_met ob_calls ob_callMany ob_calledOn ob_saved ob_many ob_width ob_numbers ob_moving), (ce_b1400 y ob_tape fob_tape), (ce_i9080 y ob_fresh fob_fresh)] := ⟨hP, hD⟩
        refine lv_if_ne (tgt := 64) hx hb dX10_readKnow_60 (by decide) (fun _ => ?_) (fun c9 => absurd c9 (by decide))
        refine lv_aload_n hx hb dX10_readKnow_64 rfl (lv_at hl 2 rfl) ?_
        refine va_get (D := G) (ci := 10) (v := .ref ob_fresh) (C := RX10) (T := TX10) (N := 41) hx hb hw0 inA_wsX100 hown hK.1 hP 0 rfl rfl 14 (by decide) (hw0 _ m_521) (fun _ h9 => h9) rfl dX10_readKnow_65 ?_
        refine lv_bipush (v := 10) hx hb dX10_readKnow_68 (by decide) ?_
        refine lv_bipush (v := 9) hx hb dX10_readKnow_70 (by decide) ?_
        refine lv_iload_n hx hb dX10_readKnow_72 rfl (lv_at hl 1 rfl) ?_
        refine lv_imul hx hb dX10_readKnow_73 ?_
        refine lv_topi (fun v_1081 ev_1081 => ?_)
        have qv_1081 := ba_mul 9 (ev_1081.trans (Int32.mul_comm _ _)) bv_1004 (by decide) (by decide) (by decide)
        have bv_1081 : (0 : Int) ≤ v_1081.toInt ∧ v_1081.toInt ≤ 135 := qv_1081.2
        refine lv_iadd hx hb dX10_readKnow_74 ?_
        refine lv_topi (fun v_1082 ev_1082 => ?_)
        have qv_1082 := ba_add ev_1082 (bkc (x := 10) (c := 10) (by decide)) bv_1081 (by decide)
        have bv_1082 : (10 : Int) ≤ v_1082.toInt ∧ v_1082.toInt ≤ 145 := bq_add qv_1082 (bkc (x := 10) (c := 10) (by decide)) bv_1081 _ _ (by decide)
        have qv_1082 : v_1082.toInt = (10) + v_1081.toInt := qv_1082
        refine lv_bipush (v := 8) hx hb dX10_readKnow_75 (by decide) ?_
        refine lv_iadd hx hb dX10_readKnow_77 ?_
        refine lv_topi (fun v_1083 ev_1083 => ?_)
        have qv_1083 := ba_add ev_1083 bv_1082 (bkc (x := 8) (c := 8) (by decide)) (by decide)
        have bv_1083 : (18 : Int) ≤ v_1083.toInt ∧ v_1083.toInt ≤ 153 := bq_add qv_1083 bv_1082 (bkc (x := 8) (c := 8) (by decide)) _ _ (by decide)
        have qv_1083 : v_1083.toInt = v_1082.toInt + (8) := qv_1083
        refine lv_dup2_11 hx hb dX10_readKnow_78 rfl rfl ?_
        refine va_iald hx hb hK.1 hP 2 1 rfl rfl (vi bv_1083 (by decide)) dX10_readKnow_79 ?_
        refine lv_topi (fun v_1084 ev_1084 => ?_)
        have bv_1084 : (0 : Int) ≤ v_1084.toInt ∧ v_1084.toInt ≤ 65535 := rdw ev_1084 (p_fob_fresh).1.1 pl_5 (by omega) (bv_1004)
        refine lv_iconst (v := 1) hx hb dX10_readKnow_80 (by decide) ?_
        refine lv_iload_n hx hb dX10_readKnow_81 rfl (lv_at hl 0 rfl) ?_
        refine lv_ishl hx hb dX10_readKnow_82 ?_
        refine lv_topi (fun v_1085 ev_1085 => ?_)
        have bv_1085 : (1 : Int) ≤ v_1085.toInt ∧ v_1085.toInt ≤ 32768 := ba_shl 0 15 ev_1085 bv_1063 (by decide)
        refine lv_ior hx hb dX10_readKnow_83 ?_
        refine lv_topi (fun v_1086 ev_1086 => ?_)
        have bv_1086 : (0 : Int) ≤ v_1086.toInt ∧ v_1086.toInt ≤ 65535 := ba_or 16 ev_1086 bv_1084 bv_1085 (by decide)
        refine va_iast hx hb hK.1 hP hD hS 2 1 rfl rfl (vi bv_1083 (by decide)) dX10_readKnow_84 (fun H locs hP hD hS => ?_)
        generalize hf_1087 : (upd fob_fresh (v_1083 : Int32).toNatClampNeg v_1086) = f_1087 at hP hD
        have zf_1087_0 : (f_1087 0).toInt = (fob_fresh 0).toInt := hf_1087 ▸ pin_ne (ix_not bv_1083 (by decide))
        have zf_1087_1 : (f_1087 1).toInt = (fob_fresh 1).toInt := hf_1087 ▸ pin_ne (ix_not bv_1083 (by decide))
        have zf_1087_2 : (f_1087 2).toInt = (fob_fresh 2).toInt := hf_1087 ▸ pin_ne (ix_not bv_1083 (by decide))
        have zf_1087_3 : (f_1087 3).toInt = (fob_fresh 3).toInt := hf_1087 ▸ pin_ne (ix_not bv_1083 (by decide))
        have bf_1087 : RBw f_1087 := hf_1087 ▸ upw (p_fob_fresh).1.1 pl_94 (by omega) (bv_1004) bv_1086
        have cf_1087 : RVw f_1087 := hf_1087 ▸ RV_up (p_fob_fresh).1 (hf_1087 ▸ bf_1087) (ix_out bv_1083 (by decide))
        have df_1087 : RWw f_1087 := ⟨cf_1087, hf_1087 ▸ WQ_up (p_fob_fresh).1.1 (p_fob_fresh).2 (qf_ix bv_1083 (by decide))⟩
        obtain ⟨hP, hD⟩ : vPD G A H [(ce_X10 ob ob_thrown ob_world ob_images ob_hasImage ob_tape ob_taped ob_five ob_size v_1064 v_1065 v_1066 v_1067 v_1068 v_1069 ob_fresh ob_parts ob_houses ob_houseMany ob_worthOf ob_byCall ob_over ob_bestSet ob_bestOver ob_bestWorth ob_row ob_tenDebts ob_tenMany ob_fewestBy ob_covered ob_queue ob_cameBy ob_parent ob_met ob_calls ob_callMany ob_calledOn ob_saved ob_many ob_width ob_numbers ob_moving), (ce_b1400 y ob_tape fob_tape), (ce_i9080 y ob_fresh f_1087)] := ⟨hP, hD⟩
        refine lv_aload_n hx hb dX10_readKnow_85 rfl (lv_at hl 2 rfl) ?_
        refine va_get (D := G) (ci := 10) (v := .ref ob_fresh) (C := RX10) (T := TX10) (N := 41) hx hb hw0 inA_wsX100 hown hK.1 hP 0 rfl rfl 14 (by decide) (hw0 _ m_521) (fun _ h9 => h9) rfl dX10_readKnow_86 ?_
        refine lv_bipush (v := 10) hx hb dX10_readKnow_89 (by decide) ?_
        refine lv_bipush (v := 9) hx hb dX10_readKnow_91 (by decide) ?_
        refine lv_iload_n hx hb dX10_readKnow_93 rfl (lv_at hl 0 rfl) ?_
        refine lv_imul hx hb dX10_readKnow_94 ?_
        refine lv_topi (fun v_1088 ev_1088 => ?_)
        have qv_1088 := ba_mul 9 (ev_1088.trans (Int32.mul_comm _ _)) bv_1063 (by decide) (by decide) (by decide)
        have bv_1088 : (0 : Int) ≤ v_1088.toInt ∧ v_1088.toInt ≤ 135 := qv_1088.2
        refine lv_iadd hx hb dX10_readKnow_95 ?_
        refine lv_topi (fun v_1089 ev_1089 => ?_)
        have qv_1089 := ba_add ev_1089 (bkc (x := 10) (c := 10) (by decide)) bv_1088 (by decide)
        have bv_1089 : (10 : Int) ≤ v_1089.toInt ∧ v_1089.toInt ≤ 145 := bq_add qv_1089 (bkc (x := 10) (c := 10) (by decide)) bv_1088 _ _ (by decide)
        have qv_1089 : v_1089.toInt = (10) + v_1088.toInt := qv_1089
        refine lv_bipush (v := 8) hx hb dX10_readKnow_96 (by decide) ?_
        refine lv_iadd hx hb dX10_readKnow_98 ?_
        refine lv_topi (fun v_1090 ev_1090 => ?_)
        have qv_1090 := ba_add ev_1090 bv_1089 (bkc (x := 8) (c := 8) (by decide)) (by decide)
        have bv_1090 : (18 : Int) ≤ v_1090.toInt ∧ v_1090.toInt ≤ 153 := bq_add qv_1090 bv_1089 (bkc (x := 8) (c := 8) (by decide)) _ _ (by decide)
        have qv_1090 : v_1090.toInt = v_1089.toInt + (8) := qv_1090
        refine lv_dup2_11 hx hb dX10_readKnow_99 rfl rfl ?_
        refine va_iald hx hb hK.1 hP 2 1 rfl rfl (vi bv_1090 (by decide)) dX10_readKnow_100 ?_
        refine lv_topi (fun v_1091 ev_1091 => ?_)
        have bv_1091 : (0 : Int) ≤ v_1091.toInt ∧ v_1091.toInt ≤ 65535 := rdw ev_1091 (df_1087).1.1 pl_5 (by omega) (bv_1063)
        refine lv_iconst (v := 1) hx hb dX10_readKnow_101 (by decide) ?_
        refine lv_iload_n hx hb dX10_readKnow_102 rfl (lv_at hl 1 rfl) ?_
        refine lv_ishl hx hb dX10_readKnow_103 ?_
        refine lv_topi (fun v_1092 ev_1092 => ?_)
        have bv_1092 : (1 : Int) ≤ v_1092.toInt ∧ v_1092.toInt ≤ 32768 := ba_shl 0 15 ev_1092 bv_1004 (by decide)
        refine lv_ior hx hb dX10_readKnow_104 ?_
        refine lv_topi (fun v_1093 ev_1093 => ?_)
        have bv_1093 : (0 : Int) ≤ v_1093.toInt ∧ v_1093.toInt ≤ 65535 := ba_or 16 ev_1093 bv_1091 bv_1092 (by decide)
        refine va_iast hx hb hK.1 hP hD hS 2 1 rfl rfl (vi bv_1090 (by decide)) dX10_readKnow_105 (fun H locs hP hD hS => ?_)
        generalize hf_1094 : (upd f_1087 (v_1090 : Int32).toNatClampNeg v_1093) = f_1094 at hP hD
        have zf_1094_0 : (f_1094 0).toInt = (f_1087 0).toInt := hf_1094 ▸ pin_ne (ix_not bv_1090 (by decide))
        have zf_1094_1 : (f_1094 1).toInt = (f_1087 1).toInt := hf_1094 ▸ pin_ne (ix_not bv_1090 (by decide))
        have zf_1094_2 : (f_1094 2).toInt = (f_1087 2).toInt := hf_1094 ▸ pin_ne (ix_not bv_1090 (by decide))
        have zf_1094_3 : (f_1094 3).toInt = (f_1087 3).toInt := hf_1094 ▸ pin_ne (ix_not bv_1090 (by decide))
        have bf_1094 : RBw f_1094 := hf_1094 ▸ upw (df_1087).1.1 pl_94 (by omega) (bv_1063) bv_1093
        have cf_1094 : RVw f_1094 := hf_1094 ▸ RV_up (df_1087).1 (hf_1094 ▸ bf_1094) (ix_out bv_1090 (by decide))
        have df_1094 : RWw f_1094 := ⟨cf_1094, hf_1094 ▸ WQ_up (df_1087).1.1 (df_1087).2 (qf_ix bv_1090 (by decide))⟩
        obtain ⟨hP, hD⟩ : vPD G A H [(ce_X10 ob ob_thrown ob_world ob_images ob_hasImage ob_tape ob_taped ob_five ob_size v_1064 v_1065 v_1066 v_1067 v_1068 v_1069 ob_fresh ob_parts ob_houses ob_houseMany ob_worthOf ob_byCall ob_over ob_bestSet ob_bestOver ob_bestWorth ob_row ob_tenDebts ob_tenMany ob_fewestBy ob_covered ob_queue ob_cameBy ob_parent ob_met ob_calls ob_callMany ob_calledOn ob_saved ob_many ob_width ob_numbers ob_moving), (ce_b1400 y ob_tape fob_tape), (ce_i9080 y ob_fresh f_1094)] := ⟨hP, hD⟩
        exact W.vret hx hb hr (fun t ht hW => ⟨⟨_, rfl, ⟨v_1064, v_1065, v_1066, v_1067, v_1068, v_1069, f_1094, bv_1064, bv_1065, bv_1066, bv_1067, (bw (0) (3) h_1080 (by decide)), df_1094, (by rw [h_1070, E_1059, h_1012, h_1011, qv_1002, yv_1001]; rfl), (by assumption), by omega, by omega, by omega, by omega, by omega, by omega, by omega, rfl⟩, by rw [ht]; exact hP, hD⟩, hS.F ht⟩) hS.2.2 dX10_readKnow_106
    · skip
      have nc_1058 := nb_eq (2) (2) c_1058 bv_1007 (bkc (x := 2) (c := 2) (by decide)) (by decide)
      refine lv_aload_n hx hb dX10_readKnow_29 rfl (lv_at hl 1 rfl) ?_
      refine va_get (D := G) (ci := 10) (v := .int v_1008) (C := RX10) (T := TX10) (N := 41) hx hb hw0 inA_wsX100 hown hK.1 hP 0 rfl rfl 11 (by decide) (hw0 _ m_349) (fun _ h9 => h9) rfl dX10_readKnow_30 ?_
      refine lv_iload_n hx hb dX10_readKnow_33 rfl (lv_at hl 0 rfl) ?_
      refine lv_icmp_ne (tgt := 42) hx hb dX10_readKnow_34 (by decide) (fun c_1095 => ?_) (fun c_1095 => ?_)
      · skip
        have nc_1095 : v_1008.toInt ≠ v_1004.toInt := fun h9 => c_1095 (Int32.toInt_inj.mp h9)
        have E_1096 : ((v_1009.toInt, v_1010.toInt, v_1006.toInt) : Int × Int × Int) = r_k1 fob_tape ob_size.toInt v_1004.toInt ((v_1009.toInt, v_1010.toInt, v_1006.toInt) : Int × Int × Int) := by first | exact k1_n (by assumption) (by omega) (by omega) | exact k1_f (by omega)
        refine lv_aload_n hx hb dX10_readKnow_42 rfl (lv_at hl 1 rfl) ?_
        refine lv_iconst (v := 0) hx hb dX10_readKnow_43 (by decide) ?_
        refine lv_aload_n hx hb dX10_readKnow_44 rfl (lv_at hl 1 rfl) ?_
        refine va_get (D := G) (ci := 10) (v := .ref ob_fresh) (C := RX10) (T := TX10) (N := 41) hx hb hw0 inA_wsX100 hown hK.1 hP 0 rfl rfl 14 (by decide) (hw0 _ m_521) (fun _ h9 => h9) rfl dX10_readKnow_45 ?_
        refine lv_iconst (v := 0) hx hb dX10_readKnow_48 (by decide) ?_
        refine va_iald hx hb hK.1 hP 2 1 rfl rfl (vi (bkc (x := 0) (c := 0) (by decide)) (by decide)) dX10_readKnow_49 ?_
        refine lv_topi (fun v_1097 ev_1097 => ?_)
        obtain rfl : v_1001 = v_1097 := (ev_1097.trans (ev_1001.symm)).symm
        refine lv_iconst (v := 1) hx hb dX10_readKnow_50 (by decide) ?_
        refine lv_isub hx hb dX10_readKnow_51 ?_
        refine lv_topi (fun v_1098 ev_1098 => ?_)
        obtain rfl : v_1002 = v_1098 := (ev_1098.trans (ev_1002.symm)).symm
        refine cVim (As := [.int 0, .int v_1002]) (rest := []) ⟨hx, hb, hml, hown, hw0⟩ hA hK hP hD hS [true, true] (snrH l G y _ ob v_1002 ob_thrown ob_world ob_images ob_hasImage ob_tape ob_taped ob_five ob_size v_1005 v_1006 v_1007 v_1008 v_1009 v_1010 ob_fresh ob_parts ob_houses ob_houseMany ob_worthOf ob_byCall ob_over ob_bestSet ob_bestOver ob_bestWorth ob_row ob_tenDebts ob_tenMany ob_fewestBy ob_covered ob_queue ob_cameBy ob_parent ob_met ob_calls ob_callMany ob_calledOn ob_saved ob_many ob_width ob_numbers ob_moving fob_tape p_fob_tape p_ob_taped p_ob_size bv_1005 bv_1006 (bw (0) (4) nc_1058.1 (by decide)) bv_1008 (bw (0) (3) h_1021 (by decide)) p_ob_houseMany p_ob_bestSet p_ob_bestOver p_ob_tenMany p_ob_callMany bv_1002 (by omega) (by omega) (by assumption)) rfl ⟨(callB_of 2 hw0 (gA m_572) rfl rfl rfl (hw0 _ m_41) (hw0 _ m_605) cb_X10_number ⟨Nat.le_of_ble_eq_true rfl, Nat.le_of_ble_eq_true rfl⟩), (hw0 _ m_606), (hw0 _ m_607)⟩ (ci := 10) (q := (RX10, TX10, 41)) rfl rfl rfl hl.1 (Nat.le_of_ble_eq_true rfl) dX10_readKnow_52 ⟨Nat.le_of_ble_eq_true rfl, Nat.le_of_ble_eq_true rfl⟩ (fun r_1099 w_1099 H locs hw_1099 hP hD hS => ?_)
        obtain ⟨v_1100, v_1101, v_1102, v_1103, v_1104, v_1105, v_1106, bv_1100, bv_1101, bv_1102, bv_1103, bv_1104, bv_1105, h_1107, h_1108, h_1109, h_1110, h_1111, h_1112, h_1113, h_1114, er_1099, rfl⟩ := hw_1099
        subst r_1099
        obtain ⟨hP, hD⟩ : vPD G A H [(ce_X10 ob ob_thrown ob_world ob_images ob_hasImage ob_tape ob_taped ob_five ob_size v_1101 v_1102 v_1103 v_1104 v_1105 v_1106 ob_fresh ob_parts ob_houses ob_houseMany ob_worthOf ob_byCall ob_over ob_bestSet ob_bestOver ob_bestWorth ob_row ob_tenDebts ob_tenMany ob_fewestBy ob_covered ob_queue ob_cameBy ob_parent ob_met ob_calls ob_callMany ob_calledOn ob_saved ob_many ob_width ob_numbers ob_moving), (ce_b1400 y ob_tape fob_tape), (ce_i9080 y ob_fresh fob_fresh)] := ⟨hP, hD⟩
        refine lv_istore_n (lv' := [(2, .int v_1100), (1, .int v_1004), (0, .ref ob)]) hx hb dX10_readKnow_55 rfl hl (by decide) rfl (fun ls hl => ?_)
        refine lv_aload_n hx hb dX10_readKnow_56 rfl (lv_at hl 2 rfl) ?_
        refine cVim (As := []) (rest := []) ⟨hx, hb, hml, hown, hw0⟩ hA hK hP hD hS [true] (sX10_good l G y _ ob ob_thrown ob_world ob_images ob_hasImage ob_tape ob_taped ob_five ob_size v_1101 v_1102 v_1103 v_1104 v_1105 v_1106 ob_fresh ob_parts ob_houses ob_houseMany ob_worthOf ob_byCall ob_over ob_bestSet ob_bestOver ob_bestWorth ob_row ob_tenDebts ob_tenMany ob_fewestBy ob_covered ob_queue ob_cameBy ob_parent ob_met ob_calls ob_callMany ob_calledOn ob_saved ob_many ob_width ob_numbers ob_moving p_ob_taped p_ob_size bv_1101 bv_1102 bv_1103 bv_1104 bv_1105 p_ob_houseMany p_ob_bestSet p_ob_bestOver p_ob_tenMany p_ob_callMany) rfl ⟨(callB_of 0 hw0 (gA m_510) rfl rfl rfl (hw0 _ m_41) (hw0 _ m_453) cb_X10_good ⟨Nat.le_of_ble_eq_true rfl, Nat.le_of_ble_eq_true rfl⟩), (hw0 _ m_454), (hw0 _ m_455)⟩ (ci := 10) (q := (RX10, TX10, 41)) rfl rfl rfl hl.1 (Nat.le_of_ble_eq_true rfl) dX10_readKnow_57 ⟨Nat.le_of_ble_eq_true rfl, Nat.le_of_ble_eq_true rfl⟩ (fun r_1115 w_1115 H locs hw_1115 hP hD hS => ?_)
        rcases hw_1115 with ⟨h_1116, rfl, rfl⟩ | ⟨h_1117, rfl, rfl⟩
        · skip
          obtain ⟨hP, hD⟩ : vPD G A H [(ce_X10 ob ob_thrown ob_world ob_images ob_hasImage ob_tape ob_taped ob_five ob_size v_1101 v_1102 v_1103 v_1104 v_1105 v_1106 ob_fresh ob_parts ob_houses ob_houseMany ob_worthOf ob_byCall ob_over ob_bestSet ob_bestOver ob_bestWorth ob_row ob_tenDebts ob_tenMany ob_fewestBy ob_covered ob_queue ob_cameBy ob_parent ob_met ob_calls ob_callMany ob_calledOn ob_saved ob_many ob_width ob_numbers ob_moving), (ce_b1400 y ob_tape fob_tape), (ce_i9080 y ob_fresh fob_fresh)] := ⟨hP, hD⟩
          refine lv_if_ne (tgt := 64) hx hb dX10_readKnow_60 (by decide) (fun c9 => absurd (by decide) c9) (fun _ => ?_)
          exact W.vret hx hb hr (fun t ht hW => ⟨⟨_, rfl, ⟨v_1101, v_1102, v_1103, v_1104, v_1105, v_1106, fob_fresh, bv_1101, bv_1102, bv_1103, bv_1104, (bw (0) (3) h_1116 (by decide)), p_fob_fresh, (by rw [h_1107, E_1096, h_1012, h_1011, qv_1002, yv_1001]; rfl), (by assumption), by omega, by omega, by omega, by omega, by omega, by omega, by omega, rfl⟩, by rw [ht]; exact hP, hD⟩, hS.F ht⟩) hS.2.2 dX10_readKnow_63
        · skip
          obtain ⟨hP, hD⟩ : vPD G A H [(ce_X10 ob ob_thrown ob_world ob_images ob_hasImage ob_tape ob_taped ob_five ob_size v_1101 v_1102 v_1103 v_1104 v_1105 v_1106 ob_fresh ob_parts ob_houses ob_houseMany ob_worthOf ob_byCall ob_over ob_bestSet ob_bestOver ob_bestWorth ob_row ob_tenDebts ob_tenMany ob_fewestBy ob_covered ob_queue ob_cameBy ob_parent ob_met ob_calls ob_callMany ob_calledOn ob_saved ob_many ob_width ob_numbers ob_moving), (ce_b1400 y ob_tape fob_tape), (ce_i9080 y ob_fresh fob_fresh)] := ⟨hP, hD⟩
          refine lv_if_ne (tgt := 64) hx hb dX10_readKnow_60 (by decide) (fun _ => ?_) (fun c9 => absurd c9 (by decide))
          refine lv_aload_n hx hb dX10_readKnow_64 rfl (lv_at hl 2 rfl) ?_
          refine va_get (D := G) (ci := 10) (v := .ref ob_fresh) (C := RX10) (T := TX10) (N := 41) hx hb hw0 inA_wsX100 hown hK.1 hP 0 rfl rfl 14 (by decide) (hw0 _ m_521) (fun _ h9 => h9) rfl dX10_readKnow_65 ?_
          refine lv_bipush (v := 10) hx hb dX10_readKnow_68 (by decide) ?_
          refine lv_bipush (v := 9) hx hb dX10_readKnow_70 (by decide) ?_
          refine lv_iload_n hx hb dX10_readKnow_72 rfl (lv_at hl 1 rfl) ?_
          refine lv_imul hx hb dX10_readKnow_73 ?_
          refine lv_topi (fun v_1118 ev_1118 => ?_)
          have qv_1118 := ba_mul 9 (ev_1118.trans (Int32.mul_comm _ _)) bv_1004 (by decide) (by decide) (by decide)
          have bv_1118 : (0 : Int) ≤ v_1118.toInt ∧ v_1118.toInt ≤ 135 := qv_1118.2
          refine lv_iadd hx hb dX10_readKnow_74 ?_
          refine lv_topi (fun v_1119 ev_1119 => ?_)
          have qv_1119 := ba_add ev_1119 (bkc (x := 10) (c := 10) (by decide)) bv_1118 (by decide)
          have bv_1119 : (10 : Int) ≤ v_1119.toInt ∧ v_1119.toInt ≤ 145 := bq_add qv_1119 (bkc (x := 10) (c := 10) (by decide)) bv_1118 _ _ (by decide)
          have qv_1119 : v_1119.toInt = (10) + v_1118.toInt := qv_1119
          refine lv_bipush (v := 8) hx hb dX10_readKnow_75 (by decide) ?_
          refine lv_iadd hx hb dX10_readKnow_77 ?_
          refine lv_topi (fun v_1120 ev_1120 => ?_)
          have qv_1120 := ba_add ev_1120 bv_1119 (bkc (x := 8) (c := 8) (by decide)) (by decide)
          have bv_1120 : (18 : Int) ≤ v_1120.toInt ∧ v_1120.toInt ≤ 153 := bq_add qv_1120 bv_1119 (bkc (x := 8) (c := 8) (by decide)) _ _ (by decide)
          have qv_1120 : v_1120.toInt = v_1119.toInt + (8) := qv_1120
          refine lv_dup2_11 hx hb dX10_readKnow_78 rfl rfl ?_
          refine va_iald hx hb hK.1 hP 2 1 rfl rfl (vi bv_1120 (by decide)) dX10_readKnow_79 ?_
          refine lv_topi (fun v_1121 ev_1121 => ?_)
          have bv_1121 : (0 : Int) ≤ v_1121.toInt ∧ v_1121.toInt ≤ 65535 := rdw ev_1121 (p_fob_fresh).1.1 pl_5 (by omega) (bv_1004)
          refine lv_iconst (v := 1) hx hb dX10_readKnow_80 (by decide) ?_
          refine lv_iload_n hx hb dX10_readKnow_81 rfl (lv_at hl 0 rfl) ?_
          refine lv_ishl hx hb dX10_readKnow_82 ?_
          refine lv_topi (fun v_1122 ev_1122 => ?_)
          have bv_1122 : (1 : Int) ≤ v_1122.toInt ∧ v_1122.toInt ≤ 32768 := ba_shl 0 15 ev_1122 bv_1100 (by decide)
          refine lv_ior hx hb dX10_readKnow_83 ?_
          refine lv_topi (fun v_1123 ev_1123 => ?_)
          have bv_1123 : (0 : Int) ≤ v_1123.toInt ∧ v_1123.toInt ≤ 65535 := ba_or 16 ev_1123 bv_1121 bv_1122 (by decide)
          refine va_iast hx hb hK.1 hP hD hS 2 1 rfl rfl (vi bv_1120 (by decide)) dX10_readKnow_84 (fun H locs hP hD hS => ?_)
          generalize hf_1124 : (upd fob_fresh (v_1120 : Int32).toNatClampNeg v_1123) = f_1124 at hP hD
          have zf_1124_0 : (f_1124 0).toInt = (fob_fresh 0).toInt := hf_1124 ▸ pin_ne (ix_not bv_1120 (by decide))
          have zf_1124_1 : (f_1124 1).toInt = (fob_fresh 1).toInt := hf_1124 ▸ pin_ne (ix_not bv_1120 (by decide))
          have zf_1124_2 : (f_1124 2).toInt = (fob_fresh 2).toInt := hf_1124 ▸ pin_ne (ix_not bv_1120 (by decide))
          have zf_1124_3 : (f_1124 3).toInt = (fob_fresh 3).toInt := hf_1124 ▸ pin_ne (ix_not bv_1120 (by decide))
          have bf_1124 : RBw f_1124 := hf_1124 ▸ upw (p_fob_fresh).1.1 pl_94 (by omega) (bv_1004) bv_1123
          have cf_1124 : RVw f_1124 := hf_1124 ▸ RV_up (p_fob_fresh).1 (hf_1124 ▸ bf_1124) (ix_out bv_1120 (by decide))
          have df_1124 : RWw f_1124 := ⟨cf_1124, hf_1124 ▸ WQ_up (p_fob_fresh).1.1 (p_fob_fresh).2 (qf_ix bv_1120 (by decide))⟩
          obtain ⟨hP, hD⟩ : vPD G A H [(ce_X10 ob ob_thrown ob_world ob_images ob_hasImage ob_tape ob_taped ob_five ob_size v_1101 v_1102 v_1103 v_1104 v_1105 v_1106 ob_fresh ob_parts ob_houses ob_houseMany ob_worthOf ob_byCall ob_over ob_bestSet ob_bestOver ob_bestWorth ob_row ob_tenDebts ob_tenMany ob_fewestBy ob_covered ob_queue ob_cameBy ob_parent ob_met ob_calls ob_callMany ob_calledOn ob_saved ob_many ob_width ob_numbers ob_moving), (ce_b1400 y ob_tape fob_tape), (ce_i9080 y ob_fresh f_1124)] := ⟨hP, hD⟩
          refine lv_aload_n hx hb dX10_readKnow_85 rfl (lv_at hl 2 rfl) ?_
          refine va_get (D := G) (ci := 10) (v := .ref ob_fresh) (C := RX10) (T := TX10) (N := 41) hx hb hw0 inA_wsX100 hown hK.1 hP 0 rfl rfl 14 (by decide) (hw0 _ m_521) (fun _ h9 => h9) rfl dX10_readKnow_86 ?_
          refine lv_bipush (v := 10) hx hb dX10_readKnow_89 (by decide) ?_
          refine lv_bipush (v := 9) hx hb dX10_readKnow_91 (by decide) ?_
          refine lv_iload_n hx hb dX10_readKnow_93 rfl (lv_at hl 0 rfl) ?_
          refine lv_imul hx hb dX10_readKnow_94 ?_
          refine lv_topi (fun v_1125 ev_1125 => ?_)
          have qv_1125 := ba_mul 9 (ev_1125.trans (Int32.mul_comm _ _)) bv_1100 (by decide) (by decide) (by decide)
          have bv_1125 : (0 : Int) ≤ v_1125.toInt ∧ v_1125.toInt ≤ 135 := qv_1125.2
          refine lv_iadd hx hb dX10_readKnow_95 ?_
          refine lv_topi (fun v_1126 ev_1126 => ?_)
          have qv_1126 := ba_add ev_1126 (bkc (x := 10) (c := 10) (by decide)) bv_1125 (by decide)
          have bv_1126 : (10 : Int) ≤ v_1126.toInt ∧ v_1126.toInt ≤ 145 := bq_add qv_1126 (bkc (x := 10) (c := 10) (by decide)) bv_1125 _ _ (by decide)
          have qv_1126 : v_1126.toInt = (10) + v_1125.toInt := qv_1126
          refine lv_bipush (v := 8) hx hb dX10_readKnow_96 (by decide) ?_
          refine lv_iadd hx hb dX10_readKnow_98 ?_
          refine lv_topi (fun v_1127 ev_1127 => ?_)
          have qv_1127 := ba_add ev_1127 bv_1126 (bkc (x := 8) (c := 8) (by decide)) (by decide)
          have bv_1127 : (18 : Int) ≤ v_1127.toInt ∧ v_1127.toInt ≤ 153 := bq_add qv_1127 bv_1126 (bkc (x := 8) (c := 8) (by decide)) _ _ (by decide)
          have qv_1127 : v_1127.toInt = v_1126.toInt + (8) := qv_1127
          refine lv_dup2_11 hx hb dX10_readKnow_99 rfl rfl ?_
          refine va_iald hx hb hK.1 hP 2 1 rfl rfl (vi bv_1127 (by decide)) dX10_readKnow_100 ?_
          refine lv_topi (fun v_1128 ev_1128 => ?_)
          have bv_1128 : (0 : Int) ≤ v_1128.toInt ∧ v_1128.toInt ≤ 65535 := rdw ev_1128 (df_1124).1.1 pl_5 (by omega) (bv_1100)
          refine lv_iconst (v := 1) hx hb dX10_readKnow_101 (by decide) ?_
          refine lv_iload_n hx hb dX10_readKnow_102 rfl (lv_at hl 1 rfl) ?_
          refine lv_ishl hx hb dX10_readKnow_103 ?_
          refine lv_topi (fun v_1129 ev_1129 => ?_)
          have bv_1129 : (1 : Int) ≤ v_1129.toInt ∧ v_1129.toInt ≤ 32768 := ba_shl 0 15 ev_1129 bv_1004 (by decide)
          refine lv_ior hx hb dX10_readKnow_104 ?_
          refine lv_topi (fun v_1130 ev_1130 => ?_)
          have bv_1130 : (0 : Int) ≤ v_1130.toInt ∧ v_1130.toInt ≤ 65535 := ba_or 16 ev_1130 bv_1128 bv_1129 (by decide)
          refine va_iast hx hb hK.1 hP hD hS 2 1 rfl rfl (vi bv_1127 (by decide)) dX10_readKnow_105 (fun H locs hP hD hS => ?_)
          generalize hf_1131 : (upd f_1124 (v_1127 : Int32).toNatClampNeg v_1130) = f_1131 at hP hD
          have zf_1131_0 : (f_1131 0).toInt = (f_1124 0).toInt := hf_1131 ▸ pin_ne (ix_not bv_1127 (by decide))
          have zf_1131_1 : (f_1131 1).toInt = (f_1124 1).toInt := hf_1131 ▸ pin_ne (ix_not bv_1127 (by decide))
          have zf_1131_2 : (f_1131 2).toInt = (f_1124 2).toInt := hf_1131 ▸ pin_ne (ix_not bv_1127 (by decide))
          have zf_1131_3 : (f_1131 3).toInt = (f_1124 3).toInt := hf_1131 ▸ pin_ne (ix_not bv_1127 (by decide))
          have bf_1131 : RBw f_1131 := hf_1131 ▸ upw (df_1124).1.1 pl_94 (by omega) (bv_1100) bv_1130
          have cf_1131 : RVw f_1131 := hf_1131 ▸ RV_up (df_1124).1 (hf_1131 ▸ bf_1131) (ix_out bv_1127 (by decide))
          have df_1131 : RWw f_1131 := ⟨cf_1131, hf_1131 ▸ WQ_up (df_1124).1.1 (df_1124).2 (qf_ix bv_1127 (by decide))⟩
          obtain ⟨hP, hD⟩ : vPD G A H [(ce_X10 ob ob_thrown ob_world ob_images ob_hasImage ob_tape ob_taped ob_five ob_size v_1101 v_1102 v_1103 v_1104 v_1105 v_1106 ob_fresh ob_parts ob_houses ob_houseMany ob_worthOf ob_byCall ob_over ob_bestSet ob_bestOver ob_bestWorth ob_row ob_tenDebts ob_tenMany ob_fewestBy ob_covered ob_queue ob_cameBy ob_parent ob_met ob_calls ob_callMany ob_calledOn ob_saved ob_many ob_width ob_numbers ob_moving), (ce_b1400 y ob_tape fob_tape), (ce_i9080 y ob_fresh f_1131)] := ⟨hP, hD⟩
          exact W.vret hx hb hr (fun t ht hW => ⟨⟨_, rfl, ⟨v_1101, v_1102, v_1103, v_1104, v_1105, v_1106, f_1131, bv_1101, bv_1102, bv_1103, bv_1104, (bw (0) (3) h_1117 (by decide)), df_1131, (by rw [h_1107, E_1096, h_1012, h_1011, qv_1002, yv_1001]; rfl), (by assumption), by omega, by omega, by omega, by omega, by omega, by omega, by omega, rfl⟩, by rw [ht]; exact hP, hD⟩, hS.F ht⟩) hS.2.2 dX10_readKnow_106
      · skip
        have nc_1095 := nb_eq (0) (15) c_1095 bv_1008 bv_1004 (by decide)
        refine lv_aload_n hx hb dX10_readKnow_37 rfl (lv_at hl 1 rfl) ?_
        refine lv_iconst (v := 2) hx hb dX10_readKnow_38 (by decide) ?_
        refine cVvm (As := [.int 2]) (rest := []) ⟨hx, hb, hml, hown, hw0⟩ hA hK hP hD hS [true] (sX10_errs l G y _ ob 2 ob_thrown ob_world ob_images ob_hasImage ob_tape ob_taped ob_five ob_size v_1005 v_1006 v_1007 v_1008 v_1009 v_1010 ob_fresh ob_parts ob_houses ob_houseMany ob_worthOf ob_byCall ob_over ob_bestSet ob_bestOver ob_bestWorth ob_row ob_tenDebts ob_tenMany ob_fewestBy ob_covered ob_queue ob_cameBy ob_parent ob_met ob_calls ob_callMany ob_calledOn ob_saved ob_many ob_width ob_numbers ob_moving p_ob_taped p_ob_size bv_1005 bv_1006 (bw (0) (4) nc_1058.1 (by decide)) (bw (0) (9999) nc_1095.1 (by decide)) (bw (0) (3) h_1021 (by decide)) p_ob_houseMany p_ob_bestSet p_ob_bestOver p_ob_tenMany p_ob_callMany (bw (1) (3) (bkc (x := 2) (c := 2) (by decide)) (by decide))) rfl ⟨(callB_of 1 hw0 (gA m_452) rfl rfl rfl (hw0 _ m_41) (hw0 _ m_568) cb_X10_errs ⟨Nat.le_of_ble_eq_true rfl, Nat.le_of_ble_eq_true rfl⟩), (hw0 _ m_569), (hw0 _ m_570)⟩ (ci := 10) (q := (RX10, TX10, 41)) rfl rfl rfl hl.1 (Nat.le_of_ble_eq_true rfl) dX10_readKnow_39 ⟨Nat.le_of_ble_eq_true rfl, Nat.le_of_ble_eq_true rfl⟩ (fun w_1132 H locs hw_1132 hP hD hS => ?_)
        obtain ⟨v_1133, v_1134, bv_1133, h_1135, h_1136, rfl⟩ := hw_1132
        obtain ⟨hP, hD⟩ : vPD G A H [(ce_X10 ob ob_thrown ob_world ob_images ob_hasImage ob_tape ob_taped ob_five ob_size v_1005 v_1006 v_1007 v_1008 v_1133 v_1134 ob_fresh ob_parts ob_houses ob_houseMany ob_worthOf ob_byCall ob_over ob_bestSet ob_bestOver ob_bestWorth ob_row ob_tenDebts ob_tenMany ob_fewestBy ob_covered ob_queue ob_cameBy ob_parent ob_met ob_calls ob_callMany ob_calledOn ob_saved ob_many ob_width ob_numbers ob_moving), (ce_b1400 y ob_tape fob_tape), (ce_i9080 y ob_fresh fob_fresh)] := ⟨hP, hD⟩
        have E_1137 : ((v_1133.toInt, v_1134.toInt, v_1006.toInt) : Int × Int × Int) = r_k1 fob_tape ob_size.toInt v_1004.toInt ((v_1009.toInt, v_1010.toInt, v_1006.toInt) : Int × Int × Int) := k1_y (by assumption) (by omega) (by omega) (by omega) h_1135
        refine lv_aload_n hx hb dX10_readKnow_42 rfl (lv_at hl 1 rfl) ?_
        refine lv_iconst (v := 0) hx hb dX10_readKnow_43 (by decide) ?_
        refine lv_aload_n hx hb dX10_readKnow_44 rfl (lv_at hl 1 rfl) ?_
        refine va_get (D := G) (ci := 10) (v := .ref ob_fresh) (C := RX10) (T := TX10) (N := 41) hx hb hw0 inA_wsX100 hown hK.1 hP 0 rfl rfl 14 (by decide) (hw0 _ m_521) (fun _ h9 => h9) rfl dX10_readKnow_45 ?_
        refine lv_iconst (v := 0) hx hb dX10_readKnow_48 (by decide) ?_
        refine va_iald hx hb hK.1 hP 2 1 rfl rfl (vi (bkc (x := 0) (c := 0) (by decide)) (by decide)) dX10_readKnow_49 ?_
        refine lv_topi (fun v_1138 ev_1138 => ?_)
        obtain rfl : v_1001 = v_1138 := (ev_1138.trans (ev_1001.symm)).symm
        refine lv_iconst (v := 1) hx hb dX10_readKnow_50 (by decide) ?_
        refine lv_isub hx hb dX10_readKnow_51 ?_
        refine lv_topi (fun v_1139 ev_1139 => ?_)
        obtain rfl : v_1002 = v_1139 := (ev_1139.trans (ev_1002.symm)).symm
        refine cVim (As := [.int 0, .int v_1002]) (rest := []) ⟨hx, hb, hml, hown, hw0⟩ hA hK hP hD hS [true, true] (snrH l G y _ ob v_1002 ob_thrown ob_world ob_images ob_hasImage ob_tape ob_taped ob_five ob_size v_1005 v_1006 v_1007 v_1008 v_1133 v_1134 ob_fresh ob_parts ob_houses ob_houseMany ob_worthOf ob_byCall ob_over ob_bestSet ob_bestOver ob_bestWorth ob_row ob_tenDebts ob_tenMany ob_fewestBy ob_covered ob_queue ob_cameBy ob_parent ob_met ob_calls ob_callMany ob_calledOn ob_saved ob_many ob_width ob_numbers ob_moving fob_tape p_fob_tape p_ob_taped p_ob_size bv_1005 bv_1006 (bw (0) (4) nc_1058.1 (by decide)) (bw (0) (9999) nc_1095.1 (by decide)) (bw (0) (3) bv_1133 (by decide)) p_ob_houseMany p_ob_bestSet p_ob_bestOver p_ob_tenMany p_ob_callMany bv_1002 (by omega) (by omega) (by assumption)) rfl ⟨(callB_of 2 hw0 (gA m_572) rfl rfl rfl (hw0 _ m_41) (hw0 _ m_605) cb_X10_number ⟨Nat.le_of_ble_eq_true rfl, Nat.le_of_ble_eq_true rfl⟩), (hw0 _ m_606), (hw0 _ m_607)⟩ (ci := 10) (q := (RX10, TX10, 41)) rfl rfl rfl hl.1 (Nat.le_of_ble_eq_true rfl) dX10_readKnow_52 ⟨Nat.le_of_ble_eq_true rfl, Nat.le_of_ble_eq_true rfl⟩ (fun r_1140 w_1140 H locs hw_1140 hP hD hS => ?_)
        obtain ⟨v_1141, v_1142, v_1143, v_1144, v_1145, v_1146, v_1147, bv_1141, bv_1142, bv_1143, bv_1144, bv_1145, bv_1146, h_1148, h_1149, h_1150, h_1151, h_1152, h_1153, h_1154, h_1155, er_1140, rfl⟩ := hw_1140
        subst r_1140
        obtain ⟨hP, hD⟩ : vPD G A H [(ce_X10 ob ob_thrown ob_world ob_images ob_hasImage ob_tape ob_taped ob_five ob_size v_1142 v_1143 v_1144 v_1145 v_1146 v_1147 ob_fresh ob_parts ob_houses ob_houseMany ob_worthOf ob_byCall ob_over ob_bestSet ob_bestOver ob_bestWorth ob_row ob_tenDebts ob_tenMany ob_fewestBy ob_covered ob_queue ob_cameBy ob_parent ob_met ob_calls ob_callMany ob_calledOn ob_saved ob_many ob_width ob_numbers ob_moving), (ce_b1400 y ob_tape fob_tape), (ce_i9080 y ob_fresh fob_fresh)] := ⟨hP, hD⟩
        refine lv_istore_n (lv' := [(2, .int v_1141), (1, .int v_1004), (0, .ref ob)]) hx hb dX10_readKnow_55 rfl hl (by decide) rfl (fun ls hl => ?_)
        refine lv_aload_n hx hb dX10_readKnow_56 rfl (lv_at hl 2 rfl) ?_
        refine cVim (As := []) (rest := []) ⟨hx, hb, hml, hown, hw0⟩ hA hK hP hD hS [true] (sX10_good l G y _ ob ob_thrown ob_world ob_images ob_hasImage ob_tape ob_taped ob_five ob_size v_1142 v_1143 v_1144 v_1145 v_1146 v_1147 ob_fresh ob_parts ob_houses ob_houseMany ob_worthOf ob_byCall ob_over ob_bestSet ob_bestOver ob_bestWorth ob_row ob_tenDebts ob_tenMany ob_fewestBy ob_covered ob_queue ob_cameBy ob_parent ob_met ob_calls ob_callMany ob_calledOn ob_saved ob_many ob_width ob_numbers ob_moving p_ob_taped p_ob_size bv_1142 bv_1143 bv_1144 bv_1145 bv_1146 p_ob_houseMany p_ob_bestSet p_ob_bestOver p_ob_tenMany p_ob_callMany) rfl ⟨(callB_of 0 hw0 (gA m_510) rfl rfl rfl (hw0 _ m_41) (hw0 _ m_453) cb_X10_good ⟨Nat.le_of_ble_eq_true rfl, Nat.le_of_ble_eq_true rfl⟩), (hw0 _ m_454), (hw0 _ m_455)⟩ (ci := 10) (q := (RX10, TX10, 41)) rfl rfl rfl hl.1 (Nat.le_of_ble_eq_true rfl) dX10_readKnow_57 ⟨Nat.le_of_ble_eq_true rfl, Nat.le_of_ble_eq_true rfl⟩ (fun r_1156 w_1156 H locs hw_1156 hP hD hS => ?_)
        rcases hw_1156 with ⟨h_1157, rfl, rfl⟩ | ⟨h_1158, rfl, rfl⟩
        · skip
          obtain ⟨hP, hD⟩ : vPD G A H [(ce_X10 ob ob_thrown ob_world ob_images ob_hasImage ob_tape ob_taped ob_five ob_size v_1142 v_1143 v_1144 v_1145 v_1146 v_1147 ob_fresh ob_parts ob_houses ob_houseMany ob_worthOf ob_byCall ob_over ob_bestSet ob_bestOver ob_bestWorth ob_row ob_tenDebts ob_tenMany ob_fewestBy ob_covered ob_queue ob_cameBy ob_parent ob_met ob_calls ob_callMany ob_calledOn ob_saved ob_many ob_width ob_numbers ob_moving), (ce_b1400 y ob_tape fob_tape), (ce_i9080 y ob_fresh fob_fresh)] := ⟨hP, hD⟩
          refine lv_if_ne (tgt := 64) hx hb dX10_readKnow_60 (by decide) (fun c9 => absurd (by decide) c9) (fun _ => ?_)
          exact W.vret hx hb hr (fun t ht hW => ⟨⟨_, rfl, ⟨v_1142, v_1143, v_1144, v_1145, v_1146, v_1147, fob_fresh, bv_1142, bv_1143, bv_1144, bv_1145, (bw (0) (3) h_1157 (by decide)), p_fob_fresh, (by rw [h_1148, E_1137, h_1012, h_1011, qv_1002, yv_1001]; rfl), (by assumption), by omega, by omega, by omega, by omega, by omega, by omega, by omega, rfl⟩, by rw [ht]; exact hP, hD⟩, hS.F ht⟩) hS.2.2 dX10_readKnow_63
        · skip
          obtain ⟨hP, hD⟩ : vPD G A H [(ce_X10 ob ob_thrown ob_world ob_images ob_hasImage ob_tape ob_taped ob_five ob_size v_1142 v_1143 v_1144 v_1145 v_1146 v_1147 ob_fresh ob_parts ob_houses ob_houseMany ob_worthOf ob_byCall ob_over ob_bestSet ob_bestOver ob_bestWorth ob_row ob_tenDebts ob_tenMany ob_fewestBy ob_covered ob_queue ob_cameBy ob_parent ob_met ob_calls ob_callMany ob_calledOn ob_saved ob_many ob_width ob_numbers ob_moving), (ce_b1400 y ob_tape fob_tape), (ce_i9080 y ob_fresh fob_fresh)] := ⟨hP, hD⟩
          refine lv_if_ne (tgt := 64) hx hb dX10_readKnow_60 (by decide) (fun _ => ?_) (fun c9 => absurd c9 (by decide))
          refine lv_aload_n hx hb dX10_readKnow_64 rfl (lv_at hl 2 rfl) ?_
          refine va_get (D := G) (ci := 10) (v := .ref ob_fresh) (C := RX10) (T := TX10) (N := 41) hx hb hw0 inA_wsX100 hown hK.1 hP 0 rfl rfl 14 (by decide) (hw0 _ m_521) (fun _ h9 => h9) rfl dX10_readKnow_65 ?_
          refine lv_bipush (v := 10) hx hb dX10_readKnow_68 (by decide) ?_
          refine lv_bipush (v := 9) hx hb dX10_readKnow_70 (by decide) ?_
          refine lv_iload_n hx hb dX10_readKnow_72 rfl (lv_at hl 1 rfl) ?_
          refine lv_imul hx hb dX10_readKnow_73 ?_
          refine lv_topi (fun v_1159 ev_1159 => ?_)
          have qv_1159 := ba_mul 9 (ev_1159.trans (Int32.mul_comm _ _)) nc_1095.2.1 (by decide) (by decide) (by decide)
          have bv_1159 : (0 : Int) ≤ v_1159.toInt ∧ v_1159.toInt ≤ 135 := qv_1159.2
          refine lv_iadd hx hb dX10_readKnow_74 ?_
          refine lv_topi (fun v_1160 ev_1160 => ?_)
          have qv_1160 := ba_add ev_1160 (bkc (x := 10) (c := 10) (by decide)) bv_1159 (by decide)
          have bv_1160 : (10 : Int) ≤ v_1160.toInt ∧ v_1160.toInt ≤ 145 := bq_add qv_1160 (bkc (x := 10) (c := 10) (by decide)) bv_1159 _ _ (by decide)
          have qv_1160 : v_1160.toInt = (10) + v_1159.toInt := qv_1160
          refine lv_bipush (v := 8) hx hb dX10_readKnow_75 (by decide) ?_
          refine lv_iadd hx hb dX10_readKnow_77 ?_
          refine lv_topi (fun v_1161 ev_1161 => ?_)
          have qv_1161 := ba_add ev_1161 bv_1160 (bkc (x := 8) (c := 8) (by decide)) (by decide)
          have bv_1161 : (18 : Int) ≤ v_1161.toInt ∧ v_1161.toInt ≤ 153 := bq_add qv_1161 bv_1160 (bkc (x := 8) (c := 8) (by decide)) _ _ (by decide)
          have qv_1161 : v_1161.toInt = v_1160.toInt + (8) := qv_1161
          refine lv_dup2_11 hx hb dX10_readKnow_78 rfl rfl ?_
          refine va_iald hx hb hK.1 hP 2 1 rfl rfl (vi bv_1161 (by decide)) dX10_readKnow_79 ?_
          refine lv_topi (fun v_1162 ev_1162 => ?_)
          have bv_1162 : (0 : Int) ≤ v_1162.toInt ∧ v_1162.toInt ≤ 65535 := rdw ev_1162 (p_fob_fresh).1.1 pl_5 (by omega) (nc_1095.2.1)
          refine lv_iconst (v := 1) hx hb dX10_readKnow_80 (by decide) ?_
          refine lv_iload_n hx hb dX10_readKnow_81 rfl (lv_at hl 0 rfl) ?_
          refine lv_ishl hx hb dX10_readKnow_82 ?_
          refine lv_topi (fun v_1163 ev_1163 => ?_)
          have bv_1163 : (1 : Int) ≤ v_1163.toInt ∧ v_1163.toInt ≤ 32768 := ba_shl 0 15 ev_1163 bv_1141 (by decide)
          refine lv_ior hx hb dX10_readKnow_83 ?_
          refine lv_topi (fun v_1164 ev_1164 => ?_)
          have bv_1164 : (0 : Int) ≤ v_1164.toInt ∧ v_1164.toInt ≤ 65535 := ba_or 16 ev_1164 bv_1162 bv_1163 (by decide)
          refine va_iast hx hb hK.1 hP hD hS 2 1 rfl rfl (vi bv_1161 (by decide)) dX10_readKnow_84 (fun H locs hP hD hS => ?_)
          generalize hf_1165 : (upd fob_fresh (v_1161 : Int32).toNatClampNeg v_1164) = f_1165 at hP hD
          have zf_1165_0 : (f_1165 0).toInt = (fob_fresh 0).toInt := hf_1165 ▸ pin_ne (ix_not bv_1161 (by decide))
          have zf_1165_1 : (f_1165 1).toInt = (fob_fresh 1).toInt := hf_1165 ▸ pin_ne (ix_not bv_1161 (by decide))
          have zf_1165_2 : (f_1165 2).toInt = (fob_fresh 2).toInt := hf_1165 ▸ pin_ne (ix_not bv_1161 (by decide))
          have zf_1165_3 : (f_1165 3).toInt = (fob_fresh 3).toInt := hf_1165 ▸ pin_ne (ix_not bv_1161 (by decide))
          have bf_1165 : RBw f_1165 := hf_1165 ▸ upw (p_fob_fresh).1.1 pl_94 (by omega) (nc_1095.2.1) bv_1164
          have cf_1165 : RVw f_1165 := hf_1165 ▸ RV_up (p_fob_fresh).1 (hf_1165 ▸ bf_1165) (ix_out bv_1161 (by decide))
          have df_1165 : RWw f_1165 := ⟨cf_1165, hf_1165 ▸ WQ_up (p_fob_fresh).1.1 (p_fob_fresh).2 (qf_ix bv_1161 (by decide))⟩
          obtain ⟨hP, hD⟩ : vPD G A H [(ce_X10 ob ob_thrown ob_world ob_images ob_hasImage ob_tape ob_taped ob_five ob_size v_1142 v_1143 v_1144 v_1145 v_1146 v_1147 ob_fresh ob_parts ob_houses ob_houseMany ob_worthOf ob_byCall ob_over ob_bestSet ob_bestOver ob_bestWorth ob_row ob_tenDebts ob_tenMany ob_fewestBy ob_covered ob_queue ob_cameBy ob_parent ob_met ob_calls ob_callMany ob_calledOn ob_saved ob_many ob_width ob_numbers ob_moving), (ce_b1400 y ob_tape fob_tape), (ce_i9080 y ob_fresh f_1165)] := ⟨hP, hD⟩
          refine lv_aload_n hx hb dX10_readKnow_85 rfl (lv_at hl 2 rfl) ?_
          refine va_get (D := G) (ci := 10) (v := .ref ob_fresh) (C := RX10) (T := TX10) (N := 41) hx hb hw0 inA_wsX100 hown hK.1 hP 0 rfl rfl 14 (by decide) (hw0 _ m_521) (fun _ h9 => h9) rfl dX10_readKnow_86 ?_
          refine lv_bipush (v := 10) hx hb dX10_readKnow_89 (by decide) ?_
          refine lv_bipush (v := 9) hx hb dX10_readKnow_91 (by decide) ?_
          refine lv_iload_n hx hb dX10_readKnow_93 rfl (lv_at hl 0 rfl) ?_
          refine lv_imul hx hb dX10_readKnow_94 ?_
          refine lv_topi (fun v_1166 ev_1166 => ?_)
          have qv_1166 := ba_mul 9 (ev_1166.trans (Int32.mul_comm _ _)) bv_1141 (by decide) (by decide) (by decide)
          have bv_1166 : (0 : Int) ≤ v_1166.toInt ∧ v_1166.toInt ≤ 135 := qv_1166.2
          refine lv_iadd hx hb dX10_readKnow_95 ?_
          refine lv_topi (fun v_1167 ev_1167 => ?_)
          have qv_1167 := ba_add ev_1167 (bkc (x := 10) (c := 10) (by decide)) bv_1166 (by decide)
          have bv_1167 : (10 : Int) ≤ v_1167.toInt ∧ v_1167.toInt ≤ 145 := bq_add qv_1167 (bkc (x := 10) (c := 10) (by decide)) bv_1166 _ _ (by decide)
          have qv_1167 : v_1167.toInt = (10) + v_1166.toInt := qv_1167
          refine lv_bipush (v := 8) hx hb dX10_readKnow_96 (by decide) ?_
          refine lv_iadd hx hb dX10_readKnow_98 ?_
          refine lv_topi (fun v_1168 ev_1168 => ?_)
          have qv_1168 := ba_add ev_1168 bv_1167 (bkc (x := 8) (c := 8) (by decide)) (by decide)
          have bv_1168 : (18 : Int) ≤ v_1168.toInt ∧ v_1168.toInt ≤ 153 := bq_add qv_1168 bv_1167 (bkc (x := 8) (c := 8) (by decide)) _ _ (by decide)
          have qv_1168 : v_1168.toInt = v_1167.toInt + (8) := qv_1168
          refine lv_dup2_11 hx hb dX10_readKnow_99 rfl rfl ?_
          refine va_iald hx hb hK.1 hP 2 1 rfl rfl (vi bv_1168 (by decide)) dX10_readKnow_100 ?_
          refine lv_topi (fun v_1169 ev_1169 => ?_)
          have bv_1169 : (0 : Int) ≤ v_1169.toInt ∧ v_1169.toInt ≤ 65535 := rdw ev_1169 (df_1165).1.1 pl_5 (by omega) (bv_1141)
          refine lv_iconst (v := 1) hx hb dX10_readKnow_101 (by decide) ?_
          refine lv_iload_n hx hb dX10_readKnow_102 rfl (lv_at hl 1 rfl) ?_
          refine lv_ishl hx hb dX10_readKnow_103 ?_
          refine lv_topi (fun v_1170 ev_1170 => ?_)
          have bv_1170 : (1 : Int) ≤ v_1170.toInt ∧ v_1170.toInt ≤ 32768 := ba_shl 0 15 ev_1170 nc_1095.2.1 (by decide)
          refine lv_ior hx hb dX10_readKnow_104 ?_
          refine lv_topi (fun v_1171 ev_1171 => ?_)
          have bv_1171 : (0 : Int) ≤ v_1171.toInt ∧ v_1171.toInt ≤ 65535 := ba_or 16 ev_1171 bv_1169 bv_1170 (by decide)
          refine va_iast hx hb hK.1 hP hD hS 2 1 rfl rfl (vi bv_1168 (by decide)) dX10_readKnow_105 (fun H locs hP hD hS => ?_)
          generalize hf_1172 : (upd f_1165 (v_1168 : Int32).toNatClampNeg v_1171) = f_1172 at hP hD
          have zf_1172_0 : (f_1172 0).toInt = (f_1165 0).toInt := hf_1172 ▸ pin_ne (ix_not bv_1168 (by decide))
          have zf_1172_1 : (f_1172 1).toInt = (f_1165 1).toInt := hf_1172 ▸ pin_ne (ix_not bv_1168 (by decide))
          have zf_1172_2 : (f_1172 2).toInt = (f_1165 2).toInt := hf_1172 ▸ pin_ne (ix_not bv_1168 (by decide))
          have zf_1172_3 : (f_1172 3).toInt = (f_1165 3).toInt := hf_1172 ▸ pin_ne (ix_not bv_1168 (by decide))
          have bf_1172 : RBw f_1172 := hf_1172 ▸ upw (df_1165).1.1 pl_94 (by omega) (bv_1141) bv_1171
          have cf_1172 : RVw f_1172 := hf_1172 ▸ RV_up (df_1165).1 (hf_1172 ▸ bf_1172) (ix_out bv_1168 (by decide))
          have df_1172 : RWw f_1172 := ⟨cf_1172, hf_1172 ▸ WQ_up (df_1165).1.1 (df_1165).2 (qf_ix bv_1168 (by decide))⟩
          obtain ⟨hP, hD⟩ : vPD G A H [(ce_X10 ob ob_thrown ob_world ob_images ob_hasImage ob_tape ob_taped ob_five ob_size v_1142 v_1143 v_1144 v_1145 v_1146 v_1147 ob_fresh ob_parts ob_houses ob_houseMany ob_worthOf ob_byCall ob_over ob_bestSet ob_bestOver ob_bestWorth ob_row ob_tenDebts ob_tenMany ob_fewestBy ob_covered ob_queue ob_cameBy ob_parent ob_met ob_calls ob_callMany ob_calledOn ob_saved ob_many ob_width ob_numbers ob_moving), (ce_b1400 y ob_tape fob_tape), (ce_i9080 y ob_fresh f_1172)] := ⟨hP, hD⟩
          exact W.vret hx hb hr (fun t ht hW => ⟨⟨_, rfl, ⟨v_1142, v_1143, v_1144, v_1145, v_1146, v_1147, f_1172, bv_1142, bv_1143, bv_1144, bv_1145, (bw (0) (3) h_1158 (by decide)), df_1172, (by rw [h_1148, E_1137, h_1012, h_1011, qv_1002, yv_1001]; rfl), (by assumption), by omega, by omega, by omega, by omega, by omega, by omega, by omega, rfl⟩, by rw [ht]; exact hP, hD⟩, hS.F ht⟩) hS.2.2 dX10_readKnow_106

set_option maxHeartbeats 4000000 in
set_option maxRecDepth 100000 in
theorem sX10_readPart (l : Launch) (G : va_G) (y : Nat → ClassId) (aK aV : Nat → Nat) (sz : Nat) (ob : Nat) (a1 : Int32) (ob_thrown : Int32) (ob_world : Nat) (ob_images : Nat) (ob_hasImage : Nat) (ob_tape : Nat) (ob_taped : Int32) (ob_five : Nat) (ob_size : Int32) (ob_at : Int32) (ob_from : Int32) (ob_token : Int32) (ob_value : Int32) (ob_faultKind : Int32) (ob_faultPlace : Int32) (ob_fresh : Nat) (ob_parts : Nat) (ob_houses : Nat) (ob_houseMany : Int32) (ob_worthOf : Nat) (ob_byCall : Nat) (ob_over : Nat) (ob_bestSet : Int32) (ob_bestOver : Int32) (ob_bestWorth : Int32) (ob_row : Nat) (ob_tenDebts : Nat) (ob_tenMany : Int32) (ob_fewestBy : Nat) (ob_covered : Nat) (ob_queue : Nat) (ob_cameBy : Nat) (ob_parent : Nat) (ob_met : Nat) (ob_calls : Nat) (ob_callMany : Int32) (ob_calledOn : Nat) (ob_saved : Nat) (ob_many : Nat) (ob_width : Nat) (ob_numbers : Nat) (ob_moving : Nat) (fob_tape : Nat → Int32) (fob_fresh : Nat → Int32) (p_fob_tape : ∀ i, (-128 : Int) ≤ (fob_tape i).toInt ∧ (fob_tape i).toInt ≤ 127) (p_ob_taped : (0 : Int) ≤ ob_taped.toInt ∧ ob_taped.toInt ≤ 1400) (p_ob_size : (0 : Int) ≤ ob_size.toInt ∧ ob_size.toInt ≤ 1400) (p_ob_at : (0 : Int) ≤ ob_at.toInt ∧ ob_at.toInt ≤ 1400) (p_ob_from : (0 : Int) ≤ ob_from.toInt ∧ ob_from.toInt ≤ 1400) (p_ob_token : (0 : Int) ≤ ob_token.toInt ∧ ob_token.toInt ≤ 4) (p_ob_value : (0 : Int) ≤ ob_value.toInt ∧ ob_value.toInt ≤ 9999) (p_ob_faultKind : (0 : Int) ≤ ob_faultKind.toInt ∧ ob_faultKind.toInt ≤ 3) (p_fob_fresh : RWw fob_fresh) (p_ob_houseMany : (0 : Int) ≤ ob_houseMany.toInt ∧ ob_houseMany.toInt ≤ 10) (p_ob_bestSet : (0 : Int) ≤ ob_bestSet.toInt ∧ ob_bestSet.toInt ≤ 1023) (p_ob_bestOver : (-1 : Int) ≤ ob_bestOver.toInt ∧ ob_bestOver.toInt ≤ 180) (p_ob_tenMany : (0 : Int) ≤ ob_tenMany.toInt ∧ ob_tenMany.toInt ≤ 10) (p_ob_callMany : (0 : Int) ≤ ob_callMany.toInt ∧ ob_callMany.toInt ≤ 16) (p_a1 : (0 : Int) ≤ a1.toInt ∧ a1.toInt ≤ 4) (hq0 : ob_from.toInt ≤ ob_at.toInt) (hq1 : ob_token.toInt = 0 ∨ ob_from.toInt < ob_at.toInt) (hq2 : qTok fob_tape ob_size.toInt 9999 ob_token.toInt ob_from.toInt ob_at.toInt ob_value.toInt) (hq3 : 4 * (fob_fresh 3).toInt ≤ ob_from.toInt) (hq4 : 2 * (fob_fresh 2).toInt ≤ (fob_fresh 3).toInt) : Met l yX10_readPart (Cond.code yX10_readPart cX10_readPart 5 none :: wAll) ({ frames := 5, cells := 0, slots := 0, locals := 108 }) (va_Pc [.ref ob, .int a1] (kps G y aK aV sz [(ce_X10 ob ob_thrown ob_world ob_images ob_hasImage ob_tape ob_taped ob_five ob_size ob_at ob_from ob_token ob_value ob_faultKind ob_faultPlace ob_fresh ob_parts ob_houses ob_houseMany ob_worthOf ob_byCall ob_over ob_bestSet ob_bestOver ob_bestWorth ob_row ob_tenDebts ob_tenMany ob_fewestBy ob_covered ob_queue ob_cameBy ob_parent ob_met ob_calls ob_callMany ob_calledOn ob_saved ob_many ob_width ob_numbers ob_moving), (ce_b1400 y ob_tape fob_tape), (ce_i9080 y ob_fresh fob_fresh)])) (va_Qv (fun (w : va_W) => (∃ (v_315 : Int32) (v_316 : Int32) (v_317 : Int32) (v_318 : Int32) (v_319 : Int32) (v_320 : Int32) (f_321 : Nat → Int32), ((0 : Int) ≤ v_315.toInt ∧ v_315.toInt ≤ 1400) ∧ ((0 : Int) ≤ v_316.toInt ∧ v_316.toInt ≤ 1400) ∧ ((0 : Int) ≤ v_317.toInt ∧ v_317.toInt ≤ 4) ∧ ((0 : Int) ≤ v_318.toInt ∧ v_318.toInt ≤ 9999) ∧ ((0 : Int) ≤ v_319.toInt ∧ v_319.toInt ≤ 3) ∧ (RWw f_321) ∧ (((v_319.toInt, v_320.toInt, v_316.toInt) : Int × Int × Int) = r_pa fob_tape ob_size.toInt ((ob_faultKind.toInt, ob_faultPlace.toInt, ob_from.toInt) : Int × Int × Int)) ∧ (qTok fob_tape ob_size.toInt 9999 v_317.toInt v_316.toInt v_315.toInt v_318.toInt) ∧ (v_316.toInt ≤ v_315.toInt) ∧ (v_317.toInt = 0 ∨ v_316.toInt < v_315.toInt) ∧ (ob_from.toInt ≤ v_316.toInt) ∧ (ob_faultKind.toInt = 0 ∨ ¬ v_319.toInt = 0) ∧ (4 * (f_321 3).toInt ≤ v_316.toInt + 3) ∧ (2 * (f_321 2).toInt ≤ (f_321 3).toInt) ∧ ((f_321 0).toInt = (fob_fresh 0).toInt) ∧ ((f_321 1).toInt = (fob_fresh 1).toInt) ∧ ((f_321 2).toInt = (fob_fresh 2).toInt) ∧ ((fob_fresh 3).toInt ≤ (f_321 3).toInt) ∧ (¬ v_319.toInt = 0 ∨ (ob_faultKind.toInt = 0 ∧ (f_321 3).toInt = (fob_fresh 3).toInt + 1 ∧ ob_from.toInt + 1 ≤ v_316.toInt)) ∧ (frm 274 fob_fresh f_321) ∧ w = [(ce_X10 ob ob_thrown ob_world ob_images ob_hasImage ob_tape ob_taped ob_five ob_size v_315 v_316 v_317 v_318 v_319 v_320 ob_fresh ob_parts ob_houses ob_houseMany ob_worthOf ob_byCall ob_over ob_bestSet ob_bestOver ob_bestWorth ob_row ob_tenDebts ob_tenMany ob_fewestBy ob_covered ob_queue ob_cameBy ob_parent ob_met ob_calls ob_callMany ob_calledOn ob_saved ob_many ob_width ob_numbers ob_moving), (ce_b1400 y ob_tape fob_tape), (ce_i9080 y ob_fresh f_321)])) (kq G (va_A [(ce_X10 ob ob_thrown ob_world ob_images ob_hasImage ob_tape ob_taped ob_five ob_size ob_at ob_from ob_token ob_value ob_faultKind ob_faultPlace ob_fresh ob_parts ob_houses ob_houseMany ob_worthOf ob_byCall ob_over ob_bestSet ob_bestOver ob_bestWorth ob_row ob_tenDebts ob_tenMany ob_fewestBy ob_covered ob_queue ob_cameBy ob_parent ob_met ob_calls ob_callMany ob_calledOn ob_saved ob_many ob_width ob_numbers ob_moving), (ce_b1400 y ob_tape fob_tape), (ce_i9080 y ob_fresh fob_fresh)] sz)) (va_A [(ce_X10 ob ob_thrown ob_world ob_images ob_hasImage ob_tape ob_taped ob_five ob_size ob_at ob_from ob_token ob_value ob_faultKind ob_faultPlace ob_fresh ob_parts ob_houses ob_houseMany ob_worthOf ob_byCall ob_over ob_bestSet ob_bestOver ob_bestWorth ob_row ob_tenDebts ob_tenMany ob_fewestBy ob_covered ob_queue ob_cameBy ob_parent ob_met ob_calls ob_callMany ob_calledOn ob_saved ob_many ob_width ob_numbers ob_moving), (ce_b1400 y ob_tape fob_tape), (ce_i9080 y ob_fresh fob_fresh)] sz)) 0 0 (va_A [(ce_X10 ob ob_thrown ob_world ob_images ob_hasImage ob_tape ob_taped ob_five ob_size ob_at ob_from ob_token ob_value ob_faultKind ob_faultPlace ob_fresh ob_parts ob_houses ob_houseMany ob_worthOf ob_byCall ob_over ob_bestSet ob_bestOver ob_bestWorth ob_row ob_tenDebts ob_tenMany ob_fewestBy ob_covered ob_queue ob_cameBy ob_parent ob_met ob_calls ob_callMany ob_calledOn ob_saved ob_many ob_width ob_numbers ob_moving), (ce_b1400 y ob_tape fob_tape), (ce_i9080 y ob_fresh fob_fresh)] sz) := by
  refine Met.ofW (cc := cX10_readPart) (maxL := 5) (ret := none) (by decide) rfl ?_
  intro p e s m args below meth c s₁ B hml hv
  obtain ⟨rfl, ⟨hsz, hP, hK, hD0⟩, hE⟩ := hv
  have hx := B.exec
  have hb := B.bytes
  have hr := B.returns
  have hw0 : ∀ w ∈ wAll, w.before _ s = true := fun w h => atoms_spec (ws := Cond.code yX10_readPart cX10_readPart 5 none :: wAll) B.pre w (List.mem_cons_of_mem _ h)
  have hown : s.vm.findClass RX10 = some m.cls := findClass_of_methodNamed B.named
  subst hsz
  have hD := hD0.self (sz := s.heap.size)
  generalize hAe : va_A [(ce_X10 ob ob_thrown ob_world ob_images ob_hasImage ob_tape ob_taped ob_five ob_size ob_at ob_from ob_token ob_value ob_faultKind ob_faultPlace ob_fresh ob_parts ob_houses ob_houseMany ob_worthOf ob_byCall ob_over ob_bestSet ob_bestOver ob_bestWorth ob_row ob_tenDebts ob_tenMany ob_fewestBy ob_covered ob_queue ob_cameBy ob_parent ob_met ob_calls ob_callMany ob_calledOn ob_saved ob_many ob_width ob_numbers ob_moving), (ce_b1400 y ob_tape fob_tape), (ce_i9080 y ob_fresh fob_fresh)] s.heap.size = A at hD hE ⊢
  have hA : ∀ q : Nat, s.heap.size ≤ q → A q := fun q h => by rw [← hAe]; exact Or.inr h
  have hS : va_S A s.heap s.heap [] := va_S.rf
  have hP : va_P G vwCl [(ce_X10 ob ob_thrown ob_world ob_images ob_hasImage ob_tape ob_taped ob_five ob_size ob_at ob_from ob_token ob_value ob_faultKind ob_faultPlace ob_fresh ob_parts ob_houses ob_houseMany ob_worthOf ob_byCall ob_over ob_bestSet ob_bestOver ob_bestWorth ob_row ob_tenDebts ob_tenMany ob_fewestBy ob_covered ob_queue ob_cameBy ob_parent ob_met ob_calls ob_callMany ob_calledOn ob_saved ob_many ob_width ob_numbers ob_moving), (ce_b1400 y ob_tape fob_tape), (ce_i9080 y ob_fresh fob_fresh)] s.heap := hP
  have hl := lv_entry ([.ref ob, .int a1]) (n := 5) (Nat.le_of_ble_eq_true rfl)
  rw [lg_entry_eq]
  generalize (lg_sl ([.ref ob, .int a1]) ++ List.replicate (5 - (lg_sl ([.ref ob, .int a1])).length) Slot.unset).toArray = ls at hl ⊢
  have hl : lv_has ls 5 [(0, .ref ob), (1, .int a1)] := hl
  refine lv_aload_n hx hb dX10_readPart_0 rfl (lv_at hl 0 rfl) ?_
  refine va_ldcS (own := RX10) (tx := "mine") (q := aK 24) hx hb hown (hE.2.1 ("CardBowlModel", 224, "mine", 24) sl_CardBowlModel_224) dX10_readPart_1 ?_
  refine cViSm (As := [.ref (aK 24)]) (rest := []) ⟨hx, hb, hml, hown, hw0⟩ hA hK hP hD hS hE [true, true] (sX10_is l G y aK aV _ ob 24 ob_thrown ob_world ob_images ob_hasImage ob_tape ob_taped ob_five ob_size ob_at ob_from ob_token ob_value ob_faultKind ob_faultPlace ob_fresh ob_parts ob_houses ob_houseMany ob_worthOf ob_byCall ob_over ob_bestSet ob_bestOver ob_bestWorth ob_row ob_tenDebts ob_tenMany ob_fewestBy ob_covered ob_queue ob_cameBy ob_parent ob_met ob_calls ob_callMany ob_calledOn ob_saved ob_many ob_width ob_numbers ob_moving fob_tape p_fob_tape p_ob_taped p_ob_size p_ob_at p_ob_from p_ob_token p_ob_value p_ob_faultKind p_ob_houseMany p_ob_bestSet p_ob_bestOver p_ob_tenMany p_ob_callMany (by decide) (by assumption) (by decide +kernel)) rfl ⟨(callB_of 1 hw0 (gA m_530) rfl rfl rfl (hw0 _ m_41) (hw0 _ m_414) cb_X10_is ⟨Nat.le_of_ble_eq_true rfl, Nat.le_of_ble_eq_true rfl⟩), (hw0 _ m_415), (hw0 _ m_416)⟩ (ci := 10) (q := (RX10, TX10, 41)) rfl rfl rfl hl.1 (Nat.le_of_ble_eq_true rfl) dX10_readPart_3 ⟨Nat.le_of_ble_eq_true rfl, Nat.le_of_ble_eq_true rfl⟩ (fun r_1001 w_1001 H locs hw_1001 hP hD hS => ?_)
  obtain ⟨v_1002, bv_1002, h_1003, h_1004, er_1001, rfl⟩ := hw_1001
  subst r_1001
  have hLh_1005 : ((lenS.getD 24 0 : Nat) : Int) = 4 := by decide
  obtain ⟨hP, hD⟩ : vPD G A H [(ce_X10 ob ob_thrown ob_world ob_images ob_hasImage ob_tape ob_taped ob_five ob_size ob_at ob_from ob_token ob_value ob_faultKind ob_faultPlace ob_fresh ob_parts ob_houses ob_houseMany ob_worthOf ob_byCall ob_over ob_bestSet ob_bestOver ob_bestWorth ob_row ob_tenDebts ob_tenMany ob_fewestBy ob_covered ob_queue ob_cameBy ob_parent ob_met ob_calls ob_callMany ob_calledOn ob_saved ob_many ob_width ob_numbers ob_moving), (ce_b1400 y ob_tape fob_tape), (ce_i9080 y ob_fresh fob_fresh)] := ⟨hP, hD⟩
  refine cutW 66 (fun H locs ls st => ∃ (v_1036 : Int32), ((0 : Int) ≤ v_1036.toInt ∧ v_1036.toInt ≤ 5) ∧ ((v_1036.toInt = 5 ∧ (ob_faultKind.toInt ≠ 0 ∨ qam fob_tape ob_size.toInt ob_from.toInt 5 < 0)) ∨ (v_1036.toInt ≠ 5 ∧ ob_faultKind.toInt = 0 ∧ 0 ≤ qam fob_tape ob_size.toInt ob_from.toInt 5)) ∧ (v_1036.toInt = 5 ∨ (ob_faultKind.toInt = 0 ∧ ob_token.toInt = 1)) ∧ st = [.int v_1036] ∧ vPD G A H [(ce_X10 ob ob_thrown ob_world ob_images ob_hasImage ob_tape ob_taped ob_five ob_size ob_at ob_from ob_token ob_value ob_faultKind ob_faultPlace ob_fresh ob_parts ob_houses ob_houseMany ob_worthOf ob_byCall ob_over ob_bestSet ob_bestOver ob_bestWorth ob_row ob_tenDebts ob_tenMany ob_fewestBy ob_covered ob_queue ob_cameBy ob_parent ob_met ob_calls ob_callMany ob_calledOn ob_saved ob_many ob_width ob_numbers ob_moving), (ce_b1400 y ob_tape fob_tape), (ce_i9080 y ob_fresh fob_fresh)] ∧ va_S A s.heap H locs ∧ lv_has ls 5 [(0, .ref ob), (1, .int a1)]) ?_ (fun J_66_1036 => ?_)
  · rintro H locs ls st ⟨v_1036, bv_1036, rl1036_0, rl1036_1, rfl, ⟨hP, hD⟩, hS, hl⟩
    refine lv_istore_n (lv' := [(2, .int v_1036), (0, .ref ob), (1, .int a1)]) hx hb dX10_readPart_66 rfl hl (by decide) rfl (fun ls hl => ?_)
    refine lv_aload_n hx hb dX10_readPart_67 rfl (lv_at hl 1 rfl) ?_
    refine cutW 83 (fun H locs ls st => ∃ (v_1052 : Int32) (v_1053 : Int32) (v_1054 : Int32) (v_1055 : Int32), ((0 : Int) ≤ v_1052.toInt ∧ v_1052.toInt ≤ 1400) ∧ ((0 : Int) ≤ v_1053.toInt ∧ v_1053.toInt ≤ 1400) ∧ ((0 : Int) ≤ v_1054.toInt ∧ v_1054.toInt ≤ 4) ∧ ((0 : Int) ≤ v_1055.toInt ∧ v_1055.toInt ≤ 9999) ∧ (((v_1036.toInt = 5 ∨ ob_faultKind.toInt ≠ 0) ∧ ((ob_faultKind.toInt, ob_faultPlace.toInt, v_1053.toInt) : Int × Int × Int) = ((ob_faultKind.toInt, ob_faultPlace.toInt, ob_from.toInt) : Int × Int × Int)) ∨ (v_1036.toInt ≠ 5 ∧ ob_faultKind.toInt = 0 ∧ ((ob_faultKind.toInt, ob_faultPlace.toInt, v_1053.toInt) : Int × Int × Int) = r_ad fob_tape ob_size.toInt ((ob_faultKind.toInt, ob_faultPlace.toInt, ob_from.toInt) : Int × Int × Int))) ∧ (qTok fob_tape ob_size.toInt 9999 v_1054.toInt v_1053.toInt v_1052.toInt v_1055.toInt) ∧ (v_1053.toInt ≤ v_1052.toInt) ∧ (v_1054.toInt = 0 ∨ v_1053.toInt < v_1052.toInt) ∧ (ob_from.toInt ≤ v_1053.toInt) ∧ (ob_faultKind.toInt = 0 ∨ ¬ ob_faultKind.toInt = 0) ∧ (¬ ob_faultKind.toInt = 0 ∨ (v_1036.toInt = 5 ∧ v_1053.toInt = ob_from.toInt ∧ v_1052.toInt = ob_at.toInt ∧ v_1054.toInt = ob_token.toInt ∧ ob_faultKind.toInt = 0) ∨ (¬ v_1036.toInt = 5 ∧ ob_from.toInt + 1 ≤ v_1053.toInt ∧ ob_from.toInt ≤ 1399 ∧ ob_faultKind.toInt = 0)) ∧ st = [] ∧ vPD G A H [(ce_X10 ob ob_thrown ob_world ob_images ob_hasImage ob_tape ob_taped ob_five ob_size v_1052 v_1053 v_1054 v_1055 ob_faultKind ob_faultPlace ob_fresh ob_parts ob_houses ob_houseMany ob_worthOf ob_byCall ob_over ob_bestSet ob_bestOver ob_bestWorth ob_row ob_tenDebts ob_tenMany ob_fewestBy ob_covered ob_queue ob_cameBy ob_parent ob_met ob_calls ob_callMany ob_calledOn ob_saved ob_many ob_width ob_numbers ob_moving), (ce_b1400 y ob_tape fob_tape), (ce_i9080 y ob_fresh fob_fresh)] ∧ va_S A s.heap H locs ∧ lv_has ls 5 [(2, .int v_1036), (0, .ref ob), (1, .int a1)]) ?_ (fun J_83_1055 => ?_)
    · rintro H locs ls st ⟨v_1052, v_1053, v_1054, v_1055, bv_1052, bv_1053, bv_1054, bv_1055, rl1055_0, rl1055_1, rl1055_2, rl1055_3, rl1055_4, rl1055_5, rl1055_6, rfl, ⟨hP, hD⟩, hS, hl⟩
      refine lv_iload_n hx hb dX10_readPart_83 rfl (lv_at hl 0 rfl) ?_
      refine lv_iconst (v := 5) hx hb dX10_readPart_84 (by decide) ?_
      refine cutW 100 (fun H locs ls st => ∃ (v_1073 : Int32) (v_1074 : Int32) (v_1075 : Int32) (v_1076 : Int32) (v_1077 : Int32) (v_1078 : Int32) (v_1079 : Int32), ((0 : Int) ≤ v_1073.toInt ∧ v_1073.toInt ≤ 999) ∧ ((0 : Int) ≤ v_1074.toInt ∧ v_1074.toInt ≤ 1400) ∧ ((0 : Int) ≤ v_1075.toInt ∧ v_1075.toInt ≤ 1400) ∧ ((0 : Int) ≤ v_1076.toInt ∧ v_1076.toInt ≤ 4) ∧ ((0 : Int) ≤ v_1077.toInt ∧ v_1077.toInt ≤ 9999) ∧ ((0 : Int) ≤ v_1078.toInt ∧ v_1078.toInt ≤ 3) ∧ (((v_1078.toInt, v_1079.toInt, v_1075.toInt) : Int × Int × Int) = r_pa fob_tape ob_size.toInt ((ob_faultKind.toInt, ob_faultPlace.toInt, ob_from.toInt) : Int × Int × Int)) ∧ (qTok fob_tape ob_size.toInt 9999 v_1076.toInt v_1075.toInt v_1074.toInt v_1077.toInt) ∧ (v_1075.toInt ≤ v_1074.toInt) ∧ (v_1076.toInt = 0 ∨ v_1075.toInt < v_1074.toInt) ∧ (ob_from.toInt ≤ v_1075.toInt) ∧ (ob_faultKind.toInt = 0 ∨ ¬ v_1078.toInt = 0) ∧ (¬ v_1078.toInt = 0 ∨ (ob_from.toInt + 1 ≤ v_1075.toInt ∧ ob_from.toInt ≤ 1399 ∧ ob_faultKind.toInt = 0)) ∧ st = [.int v_1073] ∧ vPD G A H [(ce_X10 ob ob_thrown ob_world ob_images ob_hasImage ob_tape ob_taped ob_five ob_size v_1074 v_1075 v_1076 v_1077 v_1078 v_1079 ob_fresh ob_parts ob_houses ob_houseMany ob_worthOf ob_byCall ob_over ob_bestSet ob_bestOver ob_bestWorth ob_row ob_tenDebts ob_tenMany ob_fewestBy ob_covered ob_queue ob_cameBy ob_parent ob_met ob_calls ob_callMany ob_calledOn ob_saved ob_many ob_width ob_numbers ob_moving), (ce_b1400 y ob_tape fob_tape), (ce_i9080 y ob_fresh fob_fresh)] ∧ va_S A s.heap H locs ∧ lv_has ls 5 [(2, .int v_1036), (0, .ref ob), (1, .int a1)]) ?_ (fun J_100_1079 => ?_)
      · rintro H locs ls st ⟨v_1073, v_1074, v_1075, v_1076, v_1077, v_1078, v_1079, bv_1073, bv_1074, bv_1075, bv_1076, bv_1077, bv_1078, rl1079_0, rl1079_1, rl1079_2, rl1079_3, rl1079_4, rl1079_5, rl1079_6, rfl, ⟨hP, hD⟩, hS, hl⟩
        refine lv_istore_n (lv' := [(3, .int v_1073), (2, .int v_1036), (0, .ref ob), (1, .int a1)]) hx hb dX10_readPart_100 rfl hl (by decide) rfl (fun ls hl => ?_)
        refine lv_aload_n hx hb dX10_readPart_101 rfl (lv_at hl 2 rfl) ?_
        refine cVim (As := []) (rest := []) ⟨hx, hb, hml, hown, hw0⟩ hA hK hP hD hS [true] (sX10_good l G y _ ob ob_thrown ob_world ob_images ob_hasImage ob_tape ob_taped ob_five ob_size v_1074 v_1075 v_1076 v_1077 v_1078 v_1079 ob_fresh ob_parts ob_houses ob_houseMany ob_worthOf ob_byCall ob_over ob_bestSet ob_bestOver ob_bestWorth ob_row ob_tenDebts ob_tenMany ob_fewestBy ob_covered ob_queue ob_cameBy ob_parent ob_met ob_calls ob_callMany ob_calledOn ob_saved ob_many ob_width ob_numbers ob_moving p_ob_taped p_ob_size bv_1074 bv_1075 bv_1076 bv_1077 bv_1078 p_ob_houseMany p_ob_bestSet p_ob_bestOver p_ob_tenMany p_ob_callMany) rfl ⟨(callB_of 0 hw0 (gA m_510) rfl rfl rfl (hw0 _ m_41) (hw0 _ m_453) cb_X10_good ⟨Nat.le_of_ble_eq_true rfl, Nat.le_of_ble_eq_true rfl⟩), (hw0 _ m_454), (hw0 _ m_455)⟩ (ci := 10) (q := (RX10, TX10, 41)) rfl rfl rfl hl.1 (Nat.le_of_ble_eq_true rfl) dX10_readPart_102 ⟨Nat.le_of_ble_eq_true rfl, Nat.le_of_ble_eq_true rfl⟩ (fun r_1080 w_1080 H locs hw_1080 hP hD hS => ?_)
        rcases hw_1080 with ⟨h_1081, rfl, rfl⟩ | ⟨h_1082, rfl, rfl⟩
        · skip
          obtain ⟨hP, hD⟩ : vPD G A H [(ce_X10 ob ob_thrown ob_world ob_images ob_hasImage ob_tape ob_taped ob_five ob_size v_1074 v_1075 v_1076 v_1077 v_1078 v_1079 ob_fresh ob_parts ob_houses ob_houseMany ob_worthOf ob_byCall ob_over ob_bestSet ob_bestOver ob_bestWorth ob_row ob_tenDebts ob_tenMany ob_fewestBy ob_covered ob_queue ob_cameBy ob_parent ob_met ob_calls ob_callMany ob_calledOn ob_saved ob_many ob_width ob_numbers ob_moving), (ce_b1400 y ob_tape fob_tape), (ce_i9080 y ob_fresh fob_fresh)] := ⟨hP, hD⟩
          refine lv_if_ne (tgt := 109) hx hb dX10_readPart_105 (by decide) (fun c9 => absurd (by decide) c9) (fun _ => ?_)
          exact W.vret hx hb hr (fun t ht hW => ⟨⟨_, rfl, ⟨v_1074, v_1075, v_1076, v_1077, v_1078, v_1079, fob_fresh, bv_1074, bv_1075, bv_1076, bv_1077, (bw (0) (3) h_1081 (by decide)), p_fob_fresh, rl1079_0, (by assumption), by omega, by omega, by omega, by omega, by omega, by omega, by omega, by omega, by omega, by omega, by omega, frm_r, rfl⟩, by rw [ht]; exact hP, hD⟩, hS.F ht⟩) hS.2.2 dX10_readPart_108
        · skip
          obtain ⟨hP, hD⟩ : vPD G A H [(ce_X10 ob ob_thrown ob_world ob_images ob_hasImage ob_tape ob_taped ob_five ob_size v_1074 v_1075 v_1076 v_1077 v_1078 v_1079 ob_fresh ob_parts ob_houses ob_houseMany ob_worthOf ob_byCall ob_over ob_bestSet ob_bestOver ob_bestWorth ob_row ob_tenDebts ob_tenMany ob_fewestBy ob_covered ob_queue ob_cameBy ob_parent ob_met ob_calls ob_callMany ob_calledOn ob_saved ob_many ob_width ob_numbers ob_moving), (ce_b1400 y ob_tape fob_tape), (ce_i9080 y ob_fresh fob_fresh)] := ⟨hP, hD⟩
          refine lv_if_ne (tgt := 109) hx hb dX10_readPart_105 (by decide) (fun _ => ?_) (fun c9 => absurd c9 (by decide))
          refine lv_sipush (v := 814) hx hb dX10_readPart_109 (by decide) ?_
          refine lv_iconst (v := 3) hx hb dX10_readPart_112 (by decide) ?_
          refine lv_aload_n hx hb dX10_readPart_113 rfl (lv_at hl 2 rfl) ?_
          refine va_get (D := G) (ci := 10) (v := .ref ob_fresh) (C := RX10) (T := TX10) (N := 41) hx hb hw0 inA_wsX100 hown hK.1 hP 0 rfl rfl 14 (by decide) (hw0 _ m_521) (fun _ h9 => h9) rfl dX10_readPart_114 ?_
          refine lv_iconst (v := 3) hx hb dX10_readPart_117 (by decide) ?_
          refine va_iald hx hb hK.1 hP 2 1 rfl rfl (vi (bkc (x := 3) (c := 3) (by decide)) (by decide)) dX10_readPart_118 ?_
          refine lv_topi (fun v_1083 ev_1083 => ?_)
          have bv_1083 : (0 : Int) ≤ v_1083.toInt ∧ v_1083.toInt ≤ 350 := rdk ev_1083 (p_fob_fresh).1.1 (by decide)
          have yv_1083 : v_1083.toInt = (fob_fresh 3).toInt := congrArg Int32.toInt ev_1083
          have h_1084 : (0 : Int) ≤ v_1083.toInt ∧ v_1083.toInt ≤ 349 := by omega
          refine lv_imul hx hb dX10_readPart_119 ?_
          refine lv_topi (fun v_1085 ev_1085 => ?_)
          have qv_1085 := ba_mul 3 (ev_1085.trans (Int32.mul_comm _ _)) h_1084 (by decide) (by decide) (by decide)
          have bv_1085 : (0 : Int) ≤ v_1085.toInt ∧ v_1085.toInt ≤ 1047 := qv_1085.2
          refine lv_iadd hx hb dX10_readPart_120 ?_
          refine lv_topi (fun v_1086 ev_1086 => ?_)
          have qv_1086 := ba_add ev_1086 (bkc (x := 814) (c := 814) (by decide)) bv_1085 (by decide)
          have bv_1086 : (814 : Int) ≤ v_1086.toInt ∧ v_1086.toInt ≤ 1861 := bq_add qv_1086 (bkc (x := 814) (c := 814) (by decide)) bv_1085 _ _ (by decide)
          have qv_1086 : v_1086.toInt = (814) + v_1085.toInt := qv_1086
          refine lv_istore (lv' := [(4, .int v_1086), (3, .int v_1073), (2, .int v_1036), (0, .ref ob), (1, .int a1)]) hx hb dX10_readPart_121 hl (by decide) rfl (fun ls hl => ?_)
          refine lv_aload_n hx hb dX10_readPart_123 rfl (lv_at hl 3 rfl) ?_
          refine va_get (D := G) (ci := 10) (v := .ref ob_fresh) (C := RX10) (T := TX10) (N := 41) hx hb hw0 inA_wsX100 hown hK.1 hP 0 rfl rfl 14 (by decide) (hw0 _ m_521) (fun _ h9 => h9) rfl dX10_readPart_124 ?_
          refine lv_iload hx hb dX10_readPart_127 (lv_at hl 0 rfl) ?_
          refine lv_iload_n hx hb dX10_readPart_129 rfl (lv_at hl 4 rfl) ?_
          refine va_iast hx hb hK.1 hP hD hS 2 1 rfl rfl (vi bv_1086 (by decide)) dX10_readPart_130 (fun H locs hP hD hS => ?_)
          generalize hf_1087 : (upd fob_fresh (v_1086 : Int32).toNatClampNeg a1) = f_1087 at hP hD
          have zf_1087_0 : (f_1087 0).toInt = (fob_fresh 0).toInt := hf_1087 ▸ pin_ne (ix_not bv_1086 (by decide))
          have zf_1087_1 : (f_1087 1).toInt = (fob_fresh 1).toInt := hf_1087 ▸ pin_ne (ix_not bv_1086 (by decide))
          have zf_1087_2 : (f_1087 2).toInt = (fob_fresh 2).toInt := hf_1087 ▸ pin_ne (ix_not bv_1086 (by decide))
          have zf_1087_3 : (f_1087 3).toInt = (fob_fresh 3).toInt := hf_1087 ▸ pin_ne (ix_not bv_1086 (by decide))
          have bf_1087 : RBw f_1087 := hf_1087 ▸ upw (p_fob_fresh).1.1 pl_95 (by omega) (h_1084) p_a1
          have cf_1087 : RVw f_1087 := hf_1087 ▸ RV_up (p_fob_fresh).1 (hf_1087 ▸ bf_1087) (ix_out bv_1086 (by decide))
          have df_1087 : RWw f_1087 := ⟨cf_1087, hf_1087 ▸ WQ_up (p_fob_fresh).1.1 (p_fob_fresh).2 (qf_ix bv_1086 (by decide))⟩
          obtain ⟨hP, hD⟩ : vPD G A H [(ce_X10 ob ob_thrown ob_world ob_images ob_hasImage ob_tape ob_taped ob_five ob_size v_1074 v_1075 v_1076 v_1077 v_1078 v_1079 ob_fresh ob_parts ob_houses ob_houseMany ob_worthOf ob_byCall ob_over ob_bestSet ob_bestOver ob_bestWorth ob_row ob_tenDebts ob_tenMany ob_fewestBy ob_covered ob_queue ob_cameBy ob_parent ob_met ob_calls ob_callMany ob_calledOn ob_saved ob_many ob_width ob_numbers ob_moving), (ce_b1400 y ob_tape fob_tape), (ce_i9080 y ob_fresh f_1087)] := ⟨hP, hD⟩
          refine lv_aload_n hx hb dX10_readPart_131 rfl (lv_at hl 3 rfl) ?_
          refine va_get (D := G) (ci := 10) (v := .ref ob_fresh) (C := RX10) (T := TX10) (N := 41) hx hb hw0 inA_wsX100 hown hK.1 hP 0 rfl rfl 14 (by decide) (hw0 _ m_521) (fun _ h9 => h9) rfl dX10_readPart_132 ?_
          refine lv_iload hx hb dX10_readPart_135 (lv_at hl 0 rfl) ?_
          refine lv_iconst (v := 1) hx hb dX10_readPart_137 (by decide) ?_
          refine lv_iadd hx hb dX10_readPart_138 ?_
          refine lv_topi (fun v_1088 ev_1088 => ?_)
          have qv_1088 := ba_add ev_1088 bv_1086 (bkc (x := 1) (c := 1) (by decide)) (by decide)
          have bv_1088 : (815 : Int) ≤ v_1088.toInt ∧ v_1088.toInt ≤ 1862 := bq_add qv_1088 bv_1086 (bkc (x := 1) (c := 1) (by decide)) _ _ (by decide)
          have qv_1088 : v_1088.toInt = v_1086.toInt + (1) := qv_1088
          refine lv_iload_n hx hb dX10_readPart_139 rfl (lv_at hl 2 rfl) ?_
          refine va_iast hx hb hK.1 hP hD hS 2 1 rfl rfl (vi bv_1088 (by decide)) dX10_readPart_140 (fun H locs hP hD hS => ?_)
          generalize hf_1089 : (upd f_1087 (v_1088 : Int32).toNatClampNeg v_1036) = f_1089 at hP hD
          have zf_1089_0 : (f_1089 0).toInt = (f_1087 0).toInt := hf_1089 ▸ pin_ne (ix_not bv_1088 (by decide))
          have zf_1089_1 : (f_1089 1).toInt = (f_1087 1).toInt := hf_1089 ▸ pin_ne (ix_not bv_1088 (by decide))
          have zf_1089_2 : (f_1089 2).toInt = (f_1087 2).toInt := hf_1089 ▸ pin_ne (ix_not bv_1088 (by decide))
          have zf_1089_3 : (f_1089 3).toInt = (f_1087 3).toInt := hf_1089 ▸ pin_ne (ix_not bv_1088 (by decide))
          have bf_1089 : RBw f_1089 := hf_1089 ▸ upw (df_1087).1.1 pl_96 (by omega) (h_1084) bv_1036
          have cf_1089 : RVw f_1089 := hf_1089 ▸ RV_up (df_1087).1 (hf_1089 ▸ bf_1089) (ix_out bv_1088 (by decide))
          have df_1089 : RWw f_1089 := ⟨cf_1089, hf_1089 ▸ WQ_up (df_1087).1.1 (df_1087).2 (qf_ix bv_1088 (by decide))⟩
          obtain ⟨hP, hD⟩ : vPD G A H [(ce_X10 ob ob_thrown ob_world ob_images ob_hasImage ob_tape ob_taped ob_five ob_size v_1074 v_1075 v_1076 v_1077 v_1078 v_1079 ob_fresh ob_parts ob_houses ob_houseMany ob_worthOf ob_byCall ob_over ob_bestSet ob_bestOver ob_bestWorth ob_row ob_tenDebts ob_tenMany ob_fewestBy ob_covered ob_queue ob_cameBy ob_parent ob_met ob_calls ob_callMany ob_calledOn ob_saved ob_many ob_width ob_numbers ob_moving), (ce_b1400 y ob_tape fob_tape), (ce_i9080 y ob_fresh f_1089)] := ⟨hP, hD⟩
          refine lv_aload_n hx hb dX10_readPart_141 rfl (lv_at hl 3 rfl) ?_
          refine va_get (D := G) (ci := 10) (v := .ref ob_fresh) (C := RX10) (T := TX10) (N := 41) hx hb hw0 inA_wsX100 hown hK.1 hP 0 rfl rfl 14 (by decide) (hw0 _ m_521) (fun _ h9 => h9) rfl dX10_readPart_142 ?_
          refine lv_iload hx hb dX10_readPart_145 (lv_at hl 0 rfl) ?_
          refine lv_iconst (v := 2) hx hb dX10_readPart_147 (by decide) ?_
          refine lv_iadd hx hb dX10_readPart_148 ?_
          refine lv_topi (fun v_1090 ev_1090 => ?_)
          have qv_1090 := ba_add ev_1090 bv_1086 (bkc (x := 2) (c := 2) (by decide)) (by decide)
          have bv_1090 : (816 : Int) ≤ v_1090.toInt ∧ v_1090.toInt ≤ 1863 := bq_add qv_1090 bv_1086 (bkc (x := 2) (c := 2) (by decide)) _ _ (by decide)
          have qv_1090 : v_1090.toInt = v_1086.toInt + (2) := qv_1090
          refine lv_iload_n hx hb dX10_readPart_149 rfl (lv_at hl 1 rfl) ?_
          refine va_iast hx hb hK.1 hP hD hS 2 1 rfl rfl (vi bv_1090 (by decide)) dX10_readPart_150 (fun H locs hP hD hS => ?_)
          generalize hf_1091 : (upd f_1089 (v_1090 : Int32).toNatClampNeg v_1073) = f_1091 at hP hD
          have zf_1091_0 : (f_1091 0).toInt = (f_1089 0).toInt := hf_1091 ▸ pin_ne (ix_not bv_1090 (by decide))
          have zf_1091_1 : (f_1091 1).toInt = (f_1089 1).toInt := hf_1091 ▸ pin_ne (ix_not bv_1090 (by decide))
          have zf_1091_2 : (f_1091 2).toInt = (f_1089 2).toInt := hf_1091 ▸ pin_ne (ix_not bv_1090 (by decide))
          have zf_1091_3 : (f_1091 3).toInt = (f_1089 3).toInt := hf_1091 ▸ pin_ne (ix_not bv_1090 (by decide))
          have bf_1091 : RBw f_1091 := hf_1091 ▸ upw (df_1089).1.1 pl_97 (by omega) (h_1084) bv_1073
          have cf_1091 : RVw f_1091 := hf_1091 ▸ RV_up (df_1089).1 (hf_1091 ▸ bf_1091) (ix_out bv_1090 (by decide))
          have df_1091 : RWw f_1091 := ⟨cf_1091, hf_1091 ▸ WQ_up (df_1089).1.1 (df_1089).2 (qf_ix bv_1090 (by decide))⟩
          obtain ⟨hP, hD⟩ : vPD G A H [(ce_X10 ob ob_thrown ob_world ob_images ob_hasImage ob_tape ob_taped ob_five ob_size v_1074 v_1075 v_1076 v_1077 v_1078 v_1079 ob_fresh ob_parts ob_houses ob_houseMany ob_worthOf ob_byCall ob_over ob_bestSet ob_bestOver ob_bestWorth ob_row ob_tenDebts ob_tenMany ob_fewestBy ob_covered ob_queue ob_cameBy ob_parent ob_met ob_calls ob_callMany ob_calledOn ob_saved ob_many ob_width ob_numbers ob_moving), (ce_b1400 y ob_tape fob_tape), (ce_i9080 y ob_fresh f_1091)] := ⟨hP, hD⟩
          refine lv_aload_n hx hb dX10_readPart_151 rfl (lv_at hl 3 rfl) ?_
          refine va_get (D := G) (ci := 10) (v := .ref ob_fresh) (C := RX10) (T := TX10) (N := 41) hx hb hw0 inA_wsX100 hown hK.1 hP 0 rfl rfl 14 (by decide) (hw0 _ m_521) (fun _ h9 => h9) rfl dX10_readPart_152 ?_
          refine lv_iconst (v := 3) hx hb dX10_readPart_155 (by decide) ?_
          refine lv_dup2_11 hx hb dX10_readPart_156 rfl rfl ?_
          refine va_iald hx hb hK.1 hP 2 1 rfl rfl (vi (bkc (x := 3) (c := 3) (by decide)) (by decide)) dX10_readPart_157 ?_
          refine lv_topi (fun v_1092 ev_1092 => ?_)
          have bv_1092 : (0 : Int) ≤ v_1092.toInt ∧ v_1092.toInt ≤ 350 := rdk ev_1092 (df_1091).1.1 (by decide)
          have yv_1092 : v_1092.toInt = (f_1091 3).toInt := congrArg Int32.toInt ev_1092
          refine lv_iconst (v := 1) hx hb dX10_readPart_158 (by decide) ?_
          refine lv_iadd hx hb dX10_readPart_159 ?_
          refine lv_topi (fun v_1093 ev_1093 => ?_)
          have qv_1093 := ba_add ev_1093 bv_1092 (bkc (x := 1) (c := 1) (by decide)) (by decide)
          have bv_1093 : (1 : Int) ≤ v_1093.toInt ∧ v_1093.toInt ≤ 351 := bq_add qv_1093 bv_1092 (bkc (x := 1) (c := 1) (by decide)) _ _ (by decide)
          have qv_1093 : v_1093.toInt = v_1092.toInt + (1) := qv_1093
          have h_1094 : (0 : Int) ≤ v_1093.toInt ∧ v_1093.toInt ≤ 350 := by omega
          refine va_iast hx hb hK.1 hP hD hS 2 1 rfl rfl (vi (bkc (x := 3) (c := 3) (by decide)) (by decide)) dX10_readPart_160 (fun H locs hP hD hS => ?_)
          generalize hf_1095 : (upd f_1091 (3 : Int32).toNatClampNeg v_1093) = f_1095 at hP hD
          have zf_1095_0 : (f_1095 0).toInt = (f_1091 0).toInt := hf_1095 ▸ pin_ne (ix_not (bkc (x := 3) (c := 3) (by decide)) (by decide))
          have zf_1095_1 : (f_1095 1).toInt = (f_1091 1).toInt := hf_1095 ▸ pin_ne (ix_not (bkc (x := 3) (c := 3) (by decide)) (by decide))
          have zf_1095_2 : (f_1095 2).toInt = (f_1091 2).toInt := hf_1095 ▸ pin_ne (ix_not (bkc (x := 3) (c := 3) (by decide)) (by decide))
          have zf_1095_3 : (f_1095 3).toInt = (v_1093 : Int32).toInt := hf_1095 ▸ pin_eq (by decide)
          have bf_1095 : RBw f_1095 := hf_1095 ▸ upk (df_1091).1.1 h_1094 (by decide)
          have cf_1095 : RVw f_1095 := hf_1095 ▸ RV_up (df_1091).1 (hf_1095 ▸ bf_1095) (ix_out (bkc (x := 3) (c := 3) (by decide)) (by decide))
          have df_1095 : RWw f_1095 := ⟨cf_1095, hf_1095 ▸ WQ_s3 (by decide) (df_1091).1.1 (df_1091).2 (by omega)⟩
          obtain ⟨hP, hD⟩ : vPD G A H [(ce_X10 ob ob_thrown ob_world ob_images ob_hasImage ob_tape ob_taped ob_five ob_size v_1074 v_1075 v_1076 v_1077 v_1078 v_1079 ob_fresh ob_parts ob_houses ob_houseMany ob_worthOf ob_byCall ob_over ob_bestSet ob_bestOver ob_bestWorth ob_row ob_tenDebts ob_tenMany ob_fewestBy ob_covered ob_queue ob_cameBy ob_parent ob_met ob_calls ob_callMany ob_calledOn ob_saved ob_many ob_width ob_numbers ob_moving), (ce_b1400 y ob_tape fob_tape), (ce_i9080 y ob_fresh f_1095)] := ⟨hP, hD⟩
          exact W.vret hx hb hr (fun t ht hW => ⟨⟨_, rfl, ⟨v_1074, v_1075, v_1076, v_1077, v_1078, v_1079, f_1095, bv_1074, bv_1075, bv_1076, bv_1077, (bw (0) (3) h_1082 (by decide)), df_1095, rl1079_0, (by assumption), by omega, by omega, by omega, by omega, by omega, by omega, by omega, by omega, by omega, by omega, by omega, (frm_u (frm_u (frm_u (frm_u frm_r hf_1087 (ix_frm bv_1086 (by decide))) hf_1089 (ix_frm bv_1088 (by decide))) hf_1091 (ix_frm bv_1090 (by decide))) hf_1095 (ix_frm (bkc (x := 3) (c := 3) (by decide)) (by decide))), rfl⟩, by rw [ht]; exact hP, hD⟩, hS.F ht⟩) hS.2.2 dX10_readPart_161
      · skip
        refine lv_icmp_ne (tgt := 99) hx hb dX10_readPart_85 (by decide) (fun c_1096 => ?_) (fun c_1096 => ?_)
        · skip
          have nc_1096 := nb_ne (0) (4) c_1096 bv_1036 (k := 5) (by decide) (by decide)
          refine lv_iconst (v := 0) hx hb dX10_readPart_99 (by decide) ?_
          exact J_100_1079 _ _ _ _ ⟨0, v_1052, v_1053, v_1054, v_1055, ob_faultKind, ob_faultPlace, (bw (0) (999) (bkc (x := 0) (c := 0) (by decide)) (by decide)), bv_1052, bv_1053, bv_1054, bv_1055, p_ob_faultKind, (by have lm1 : Int32.toInt (-1) = -1 := (by decide); have l91 : Int32.toInt 1 = 1 := (by decide); have l92 : Int32.toInt 2 = 2 := (by decide); have l93 : Int32.toInt 3 = 3 := (by decide); have h90 : Int32.toInt 0 = 0 := (by decide); rcases rl1055_0 with ⟨h1, h2⟩ | ⟨h1, h2, h3⟩ <;> first | (exfalso; omega) | exact pa_am (by omega) h3 (by omega) | (refine pa_nm (by omega) ?_; rw [← h2]; exact rfl)), (by assumption), (by have h90 : Int32.toInt 0 = 0 := (by decide); omega), (by have h90 : Int32.toInt 0 = 0 := (by decide); omega), (by have h90 : Int32.toInt 0 = 0 := (by decide); omega), (by have h90 : Int32.toInt 0 = 0 := (by decide); omega), (by have h90 : Int32.toInt 0 = 0 := (by decide); omega), rfl, ⟨hP, hD⟩, hS, lv_sub hl [0, 1, 2] rfl⟩
        · skip
          have nc_1096 := nb_eq (5) (5) c_1096 bv_1036 (bkc (x := 5) (c := 5) (by decide)) (by decide)
          refine lv_aload_n hx hb dX10_readPart_88 rfl (lv_at hl 1 rfl) ?_
          refine lv_iconst (v := 0) hx hb dX10_readPart_89 (by decide) ?_
          refine lv_sipush (v := 999) hx hb dX10_readPart_90 (by decide) ?_
          refine cVim (As := [.int 0, .int 999]) (rest := []) ⟨hx, hb, hml, hown, hw0⟩ hA hK hP hD hS [true, true] (snr0_999 l G y _ ob ob_thrown ob_world ob_images ob_hasImage ob_tape ob_taped ob_five ob_size v_1052 v_1053 v_1054 v_1055 ob_faultKind ob_faultPlace ob_fresh ob_parts ob_houses ob_houseMany ob_worthOf ob_byCall ob_over ob_bestSet ob_bestOver ob_bestWorth ob_row ob_tenDebts ob_tenMany ob_fewestBy ob_covered ob_queue ob_cameBy ob_parent ob_met ob_calls ob_callMany ob_calledOn ob_saved ob_many ob_width ob_numbers ob_moving fob_tape p_fob_tape p_ob_taped p_ob_size bv_1052 bv_1053 bv_1054 bv_1055 p_ob_faultKind p_ob_houseMany p_ob_bestSet p_ob_bestOver p_ob_tenMany p_ob_callMany (by omega) (by omega) (by assumption)) rfl ⟨(callB_of 2 hw0 (gA m_572) rfl rfl rfl (hw0 _ m_41) (hw0 _ m_605) cb_X10_number ⟨Nat.le_of_ble_eq_true rfl, Nat.le_of_ble_eq_true rfl⟩), (hw0 _ m_606), (hw0 _ m_607)⟩ (ci := 10) (q := (RX10, TX10, 41)) rfl rfl rfl hl.1 (Nat.le_of_ble_eq_true rfl) dX10_readPart_93 ⟨Nat.le_of_ble_eq_true rfl, Nat.le_of_ble_eq_true rfl⟩ (fun r_1097 w_1097 H locs hw_1097 hP hD hS => ?_)
          obtain ⟨v_1098, v_1099, v_1100, v_1101, v_1102, v_1103, v_1104, bv_1098, bv_1099, bv_1100, bv_1101, bv_1102, bv_1103, h_1105, h_1106, h_1107, h_1108, h_1109, h_1110, h_1111, h_1112, er_1097, rfl⟩ := hw_1097
          subst r_1097
          obtain ⟨hP, hD⟩ : vPD G A H [(ce_X10 ob ob_thrown ob_world ob_images ob_hasImage ob_tape ob_taped ob_five ob_size v_1099 v_1100 v_1101 v_1102 v_1103 v_1104 ob_fresh ob_parts ob_houses ob_houseMany ob_worthOf ob_byCall ob_over ob_bestSet ob_bestOver ob_bestWorth ob_row ob_tenDebts ob_tenMany ob_fewestBy ob_covered ob_queue ob_cameBy ob_parent ob_met ob_calls ob_callMany ob_calledOn ob_saved ob_many ob_width ob_numbers ob_moving), (ce_b1400 y ob_tape fob_tape), (ce_i9080 y ob_fresh fob_fresh)] := ⟨hP, hD⟩
          refine lv_goto (tgt := 100) hx hb dX10_readPart_96 (by decide) ?_
          exact J_100_1079 _ _ _ _ ⟨v_1098, v_1099, v_1100, v_1101, v_1102, v_1103, v_1104, bv_1098, bv_1099, bv_1100, bv_1101, bv_1102, bv_1103, (by have lm1 : Int32.toInt (-1) = -1 := (by decide); have l91 : Int32.toInt 1 = 1 := (by decide); have l92 : Int32.toInt 2 = 2 := (by decide); have l93 : Int32.toInt 3 = 3 := (by decide); rcases rl1055_0 with ⟨h1, h2⟩ | ⟨h1, h2, h3⟩ <;> first | (exfalso; omega) | exact pa_am (by omega) h3 (by omega) | (refine pa_nm (by omega) ?_; rw [← h2]; exact h_1105)), (by assumption), (by omega), (by omega), (by omega), (by omega), (by omega), rfl, ⟨hP, hD⟩, hS, lv_sub hl [0, 1, 2] rfl⟩
    · skip
      refine cVim (As := []) (rest := []) ⟨hx, hb, hml, hown, hw0⟩ hA hK hP hD hS [true] (sX10_good l G y _ ob ob_thrown ob_world ob_images ob_hasImage ob_tape ob_taped ob_five ob_size ob_at ob_from ob_token ob_value ob_faultKind ob_faultPlace ob_fresh ob_parts ob_houses ob_houseMany ob_worthOf ob_byCall ob_over ob_bestSet ob_bestOver ob_bestWorth ob_row ob_tenDebts ob_tenMany ob_fewestBy ob_covered ob_queue ob_cameBy ob_parent ob_met ob_calls ob_callMany ob_calledOn ob_saved ob_many ob_width ob_numbers ob_moving p_ob_taped p_ob_size p_ob_at p_ob_from p_ob_token p_ob_value p_ob_faultKind p_ob_houseMany p_ob_bestSet p_ob_bestOver p_ob_tenMany p_ob_callMany) rfl ⟨(callB_of 0 hw0 (gA m_510) rfl rfl rfl (hw0 _ m_41) (hw0 _ m_453) cb_X10_good ⟨Nat.le_of_ble_eq_true rfl, Nat.le_of_ble_eq_true rfl⟩), (hw0 _ m_454), (hw0 _ m_455)⟩ (ci := 10) (q := (RX10, TX10, 41)) rfl rfl rfl hl.1 (Nat.le_of_ble_eq_true rfl) dX10_readPart_68 ⟨Nat.le_of_ble_eq_true rfl, Nat.le_of_ble_eq_true rfl⟩ (fun r_1113 w_1113 H locs hw_1113 hP hD hS => ?_)
      rcases hw_1113 with ⟨h_1114, rfl, rfl⟩ | ⟨h_1115, rfl, rfl⟩
      · skip
        obtain ⟨hP, hD⟩ : vPD G A H [(ce_X10 ob ob_thrown ob_world ob_images ob_hasImage ob_tape ob_taped ob_five ob_size ob_at ob_from ob_token ob_value ob_faultKind ob_faultPlace ob_fresh ob_parts ob_houses ob_houseMany ob_worthOf ob_byCall ob_over ob_bestSet ob_bestOver ob_bestWorth ob_row ob_tenDebts ob_tenMany ob_fewestBy ob_covered ob_queue ob_cameBy ob_parent ob_met ob_calls ob_callMany ob_calledOn ob_saved ob_many ob_width ob_numbers ob_moving), (ce_b1400 y ob_tape fob_tape), (ce_i9080 y ob_fresh fob_fresh)] := ⟨hP, hD⟩
        refine lv_if_eq (tgt := 83) hx hb dX10_readPart_71 (by decide) (fun _ => ?_) (fun c9 => absurd (by decide) c9)
        exact J_83_1055 _ _ _ _ ⟨ob_at, ob_from, ob_token, ob_value, p_ob_at, p_ob_from, p_ob_token, p_ob_value, (by have lm1 : Int32.toInt (-1) = -1 := (by decide); have l91 : Int32.toInt 1 = 1 := (by decide); have l92 : Int32.toInt 2 = 2 := (by decide); have l93 : Int32.toInt 3 = 3 := (by decide); first | exact Or.inl ⟨by omega, rfl⟩ | exact Or.inr ⟨by omega, by omega, rfl⟩), (by assumption), (by omega), (by omega), (by omega), (by omega), (by omega), rfl, ⟨hP, hD⟩, hS, lv_sub hl [0, 1, 2] rfl⟩
      · skip
        obtain ⟨hP, hD⟩ : vPD G A H [(ce_X10 ob ob_thrown ob_world ob_images ob_hasImage ob_tape ob_taped ob_five ob_size ob_at ob_from ob_token ob_value ob_faultKind ob_faultPlace ob_fresh ob_parts ob_houses ob_houseMany ob_worthOf ob_byCall ob_over ob_bestSet ob_bestOver ob_bestWorth ob_row ob_tenDebts ob_tenMany ob_fewestBy ob_covered ob_queue ob_cameBy ob_parent ob_met ob_calls ob_callMany ob_calledOn ob_saved ob_many ob_width ob_numbers ob_moving), (ce_b1400 y ob_tape fob_tape), (ce_i9080 y ob_fresh fob_fresh)] := ⟨hP, hD⟩
        refine lv_if_eq (tgt := 83) hx hb dX10_readPart_71 (by decide) (fun c9 => absurd c9 (by decide)) (fun _ => ?_)
        refine lv_iload_n hx hb dX10_readPart_74 rfl (lv_at hl 0 rfl) ?_
        refine lv_iconst (v := 5) hx hb dX10_readPart_75 (by decide) ?_
        refine lv_icmp_eq (tgt := 83) hx hb dX10_readPart_76 (by decide) (fun c_1116 => ?_) (fun c_1116 => ?_)
        · skip
          have nc_1116 := nb_eq (5) (5) c_1116 bv_1036 (bkc (x := 5) (c := 5) (by decide)) (by decide)
          exact J_83_1055 _ _ _ _ ⟨ob_at, ob_from, ob_token, ob_value, p_ob_at, p_ob_from, p_ob_token, p_ob_value, (by have lm1 : Int32.toInt (-1) = -1 := (by decide); have l91 : Int32.toInt 1 = 1 := (by decide); have l92 : Int32.toInt 2 = 2 := (by decide); have l93 : Int32.toInt 3 = 3 := (by decide); first | exact Or.inl ⟨by omega, rfl⟩ | exact Or.inr ⟨by omega, by omega, rfl⟩), (by assumption), (by omega), (by omega), (by omega), (by omega), (by omega), rfl, ⟨hP, hD⟩, hS, lv_sub hl [0, 1, 2] rfl⟩
        · skip
          have nc_1116 := nb_ne (0) (4) c_1116 bv_1036 (k := 5) (by decide) (by decide)
          refine lv_aload_n hx hb dX10_readPart_79 rfl (lv_at hl 1 rfl) ?_
          refine cVvm (As := []) (rest := []) ⟨hx, hb, hml, hown, hw0⟩ hA hK hP hD hS [true, true] (sX10_advance l G y _ ob ob_thrown ob_world ob_images ob_hasImage ob_tape ob_taped ob_five ob_size ob_at ob_from ob_token ob_value ob_faultKind ob_faultPlace ob_fresh ob_parts ob_houses ob_houseMany ob_worthOf ob_byCall ob_over ob_bestSet ob_bestOver ob_bestWorth ob_row ob_tenDebts ob_tenMany ob_fewestBy ob_covered ob_queue ob_cameBy ob_parent ob_met ob_calls ob_callMany ob_calledOn ob_saved ob_many ob_width ob_numbers ob_moving fob_tape p_fob_tape p_ob_taped p_ob_size p_ob_at p_ob_from p_ob_token p_ob_value (bw (0) (3) h_1115 (by decide)) p_ob_houseMany p_ob_bestSet p_ob_bestOver p_ob_tenMany p_ob_callMany (by first | omega | exact (tok_le (by assumption)).2)) rfl ⟨(callB_of 0 hw0 (gA m_336) rfl rfl rfl (hw0 _ m_41) (hw0 _ m_573) cb_X10_advance ⟨Nat.le_of_ble_eq_true rfl, Nat.le_of_ble_eq_true rfl⟩), (hw0 _ m_574), (hw0 _ m_575)⟩ (ci := 10) (q := (RX10, TX10, 41)) rfl rfl rfl hl.1 (Nat.le_of_ble_eq_true rfl) dX10_readPart_80 ⟨Nat.le_of_ble_eq_true rfl, Nat.le_of_ble_eq_true rfl⟩ (fun w_1117 H locs hw_1117 hP hD hS => ?_)
          obtain ⟨v_1118, v_1119, v_1120, v_1121, bv_1118, bv_1119, bv_1120, bv_1121, h_1122, h_1123, h_1124, h_1125, h_1126, rfl⟩ := hw_1117
          obtain ⟨hP, hD⟩ : vPD G A H [(ce_X10 ob ob_thrown ob_world ob_images ob_hasImage ob_tape ob_taped ob_five ob_size v_1118 v_1119 v_1120 v_1121 ob_faultKind ob_faultPlace ob_fresh ob_parts ob_houses ob_houseMany ob_worthOf ob_byCall ob_over ob_bestSet ob_bestOver ob_bestWorth ob_row ob_tenDebts ob_tenMany ob_fewestBy ob_covered ob_queue ob_cameBy ob_parent ob_met ob_calls ob_callMany ob_calledOn ob_saved ob_many ob_width ob_numbers ob_moving), (ce_b1400 y ob_tape fob_tape), (ce_i9080 y ob_fresh fob_fresh)] := ⟨hP, hD⟩
          have E_1127 : ((ob_faultKind.toInt, ob_faultPlace.toInt, v_1119.toInt) : Int × Int × Int) = r_ad fob_tape ob_size.toInt ((ob_faultKind.toInt, ob_faultPlace.toInt, ob_from.toInt) : Int × Int × Int) := ad_i (by assumption) h_1123 rfl rfl
          have tnE_1127 := (h_1122).2.2.2.2
          exact J_83_1055 _ _ _ _ ⟨v_1118, v_1119, v_1120, v_1121, bv_1118, bv_1119, bv_1120, bv_1121, (by have lm1 : Int32.toInt (-1) = -1 := (by decide); have l91 : Int32.toInt 1 = 1 := (by decide); have l92 : Int32.toInt 2 = 2 := (by decide); have l93 : Int32.toInt 3 = 3 := (by decide); first | exact Or.inl ⟨by omega, rfl⟩ | exact Or.inr ⟨by omega, by omega, E_1127⟩), (by assumption), (by omega), (by omega), (by omega), (by omega), (by omega), rfl, ⟨hP, hD⟩, hS, lv_sub hl [0, 1, 2] rfl⟩
  · skip
    rcases b01 bv_1002 with h9 | h9
    · obtain rfl : 0 = v_1002 := h9.symm
      have hlh_1128 : Int32.toInt 0 = 0 := by decide
      refine lv_if_eq (tgt := 13) hx hb dX10_readPart_6 (by decide) (fun _ => ?_) (fun c9 => absurd (by decide) c9)
      refine lv_aload_n hx hb dX10_readPart_13 rfl (lv_at hl 0 rfl) ?_
      refine va_ldcS (own := RX10) (tx := "theirs") (q := aK 25) hx hb hown (hE.2.1 ("CardBowlModel", 226, "theirs", 25) sl_CardBowlModel_226) dX10_readPart_14 ?_
      refine cViSm (As := [.ref (aK 25)]) (rest := []) ⟨hx, hb, hml, hown, hw0⟩ hA hK hP hD hS hE [true, true] (sX10_is l G y aK aV _ ob 25 ob_thrown ob_world ob_images ob_hasImage ob_tape ob_taped ob_five ob_size ob_at ob_from ob_token ob_value ob_faultKind ob_faultPlace ob_fresh ob_parts ob_houses ob_houseMany ob_worthOf ob_byCall ob_over ob_bestSet ob_bestOver ob_bestWorth ob_row ob_tenDebts ob_tenMany ob_fewestBy ob_covered ob_queue ob_cameBy ob_parent ob_met ob_calls ob_callMany ob_calledOn ob_saved ob_many ob_width ob_numbers ob_moving fob_tape p_fob_tape p_ob_taped p_ob_size p_ob_at p_ob_from p_ob_token p_ob_value p_ob_faultKind p_ob_houseMany p_ob_bestSet p_ob_bestOver p_ob_tenMany p_ob_callMany (by decide) (by assumption) (by decide +kernel)) rfl ⟨(callB_of 1 hw0 (gA m_530) rfl rfl rfl (hw0 _ m_41) (hw0 _ m_414) cb_X10_is ⟨Nat.le_of_ble_eq_true rfl, Nat.le_of_ble_eq_true rfl⟩), (hw0 _ m_415), (hw0 _ m_416)⟩ (ci := 10) (q := (RX10, TX10, 41)) rfl rfl rfl hl.1 (Nat.le_of_ble_eq_true rfl) dX10_readPart_16 ⟨Nat.le_of_ble_eq_true rfl, Nat.le_of_ble_eq_true rfl⟩ (fun r_1129 w_1129 H locs hw_1129 hP hD hS => ?_)
      obtain ⟨v_1130, bv_1130, h_1131, h_1132, er_1129, rfl⟩ := hw_1129
      subst r_1129
      have hLh_1133 : ((lenS.getD 25 0 : Nat) : Int) = 6 := by decide
      obtain ⟨hP, hD⟩ : vPD G A H [(ce_X10 ob ob_thrown ob_world ob_images ob_hasImage ob_tape ob_taped ob_five ob_size ob_at ob_from ob_token ob_value ob_faultKind ob_faultPlace ob_fresh ob_parts ob_houses ob_houseMany ob_worthOf ob_byCall ob_over ob_bestSet ob_bestOver ob_bestWorth ob_row ob_tenDebts ob_tenMany ob_fewestBy ob_covered ob_queue ob_cameBy ob_parent ob_met ob_calls ob_callMany ob_calledOn ob_saved ob_many ob_width ob_numbers ob_moving), (ce_b1400 y ob_tape fob_tape), (ce_i9080 y ob_fresh fob_fresh)] := ⟨hP, hD⟩
      rcases b01 bv_1130 with h9 | h9
      · obtain rfl : 0 = v_1130 := h9.symm
        have hlh_1134 : Int32.toInt 0 = 0 := by decide
        refine lv_if_eq (tgt := 26) hx hb dX10_readPart_19 (by decide) (fun _ => ?_) (fun c9 => absurd (by decide) c9)
        refine lv_aload_n hx hb dX10_readPart_26 rfl (lv_at hl 0 rfl) ?_
        refine va_ldcS (own := RX10) (tx := "debts") (q := aK 26) hx hb hown (hE.2.1 ("CardBowlModel", 228, "debts", 26) sl_CardBowlModel_228) dX10_readPart_27 ?_
        refine cViSm (As := [.ref (aK 26)]) (rest := []) ⟨hx, hb, hml, hown, hw0⟩ hA hK hP hD hS hE [true, true] (sX10_is l G y aK aV _ ob 26 ob_thrown ob_world ob_images ob_hasImage ob_tape ob_taped ob_five ob_size ob_at ob_from ob_token ob_value ob_faultKind ob_faultPlace ob_fresh ob_parts ob_houses ob_houseMany ob_worthOf ob_byCall ob_over ob_bestSet ob_bestOver ob_bestWorth ob_row ob_tenDebts ob_tenMany ob_fewestBy ob_covered ob_queue ob_cameBy ob_parent ob_met ob_calls ob_callMany ob_calledOn ob_saved ob_many ob_width ob_numbers ob_moving fob_tape p_fob_tape p_ob_taped p_ob_size p_ob_at p_ob_from p_ob_token p_ob_value p_ob_faultKind p_ob_houseMany p_ob_bestSet p_ob_bestOver p_ob_tenMany p_ob_callMany (by decide) (by assumption) (by decide +kernel)) rfl ⟨(callB_of 1 hw0 (gA m_530) rfl rfl rfl (hw0 _ m_41) (hw0 _ m_414) cb_X10_is ⟨Nat.le_of_ble_eq_true rfl, Nat.le_of_ble_eq_true rfl⟩), (hw0 _ m_415), (hw0 _ m_416)⟩ (ci := 10) (q := (RX10, TX10, 41)) rfl rfl rfl hl.1 (Nat.le_of_ble_eq_true rfl) dX10_readPart_29 ⟨Nat.le_of_ble_eq_true rfl, Nat.le_of_ble_eq_true rfl⟩ (fun r_1135 w_1135 H locs hw_1135 hP hD hS => ?_)
        obtain ⟨v_1136, bv_1136, h_1137, h_1138, er_1135, rfl⟩ := hw_1135
        subst r_1135
        have hLh_1139 : ((lenS.getD 26 0 : Nat) : Int) = 5 := by decide
        obtain ⟨hP, hD⟩ : vPD G A H [(ce_X10 ob ob_thrown ob_world ob_images ob_hasImage ob_tape ob_taped ob_five ob_size ob_at ob_from ob_token ob_value ob_faultKind ob_faultPlace ob_fresh ob_parts ob_houses ob_houseMany ob_worthOf ob_byCall ob_over ob_bestSet ob_bestOver ob_bestWorth ob_row ob_tenDebts ob_tenMany ob_fewestBy ob_covered ob_queue ob_cameBy ob_parent ob_met ob_calls ob_callMany ob_calledOn ob_saved ob_many ob_width ob_numbers ob_moving), (ce_b1400 y ob_tape fob_tape), (ce_i9080 y ob_fresh fob_fresh)] := ⟨hP, hD⟩
        rcases b01 bv_1136 with h9 | h9
        · obtain rfl : 0 = v_1136 := h9.symm
          have hlh_1140 : Int32.toInt 0 = 0 := by decide
          refine lv_if_eq (tgt := 39) hx hb dX10_readPart_32 (by decide) (fun _ => ?_) (fun c9 => absurd (by decide) c9)
          refine lv_aload_n hx hb dX10_readPart_39 rfl (lv_at hl 0 rfl) ?_
          refine va_ldcS (own := RX10) (tx := "day") (q := aK 27) hx hb hown (hE.2.1 ("CardBowlModel", 230, "day", 27) sl_CardBowlModel_230) dX10_readPart_40 ?_
          refine cViSm (As := [.ref (aK 27)]) (rest := []) ⟨hx, hb, hml, hown, hw0⟩ hA hK hP hD hS hE [true, true] (sX10_is l G y aK aV _ ob 27 ob_thrown ob_world ob_images ob_hasImage ob_tape ob_taped ob_five ob_size ob_at ob_from ob_token ob_value ob_faultKind ob_faultPlace ob_fresh ob_parts ob_houses ob_houseMany ob_worthOf ob_byCall ob_over ob_bestSet ob_bestOver ob_bestWorth ob_row ob_tenDebts ob_tenMany ob_fewestBy ob_covered ob_queue ob_cameBy ob_parent ob_met ob_calls ob_callMany ob_calledOn ob_saved ob_many ob_width ob_numbers ob_moving fob_tape p_fob_tape p_ob_taped p_ob_size p_ob_at p_ob_from p_ob_token p_ob_value p_ob_faultKind p_ob_houseMany p_ob_bestSet p_ob_bestOver p_ob_tenMany p_ob_callMany (by decide) (by assumption) (by decide +kernel)) rfl ⟨(callB_of 1 hw0 (gA m_530) rfl rfl rfl (hw0 _ m_41) (hw0 _ m_414) cb_X10_is ⟨Nat.le_of_ble_eq_true rfl, Nat.le_of_ble_eq_true rfl⟩), (hw0 _ m_415), (hw0 _ m_416)⟩ (ci := 10) (q := (RX10, TX10, 41)) rfl rfl rfl hl.1 (Nat.le_of_ble_eq_true rfl) dX10_readPart_42 ⟨Nat.le_of_ble_eq_true rfl, Nat.le_of_ble_eq_true rfl⟩ (fun r_1141 w_1141 H locs hw_1141 hP hD hS => ?_)
          obtain ⟨v_1142, bv_1142, h_1143, h_1144, er_1141, rfl⟩ := hw_1141
          subst r_1141
          have hLh_1145 : ((lenS.getD 27 0 : Nat) : Int) = 3 := by decide
          obtain ⟨hP, hD⟩ : vPD G A H [(ce_X10 ob ob_thrown ob_world ob_images ob_hasImage ob_tape ob_taped ob_five ob_size ob_at ob_from ob_token ob_value ob_faultKind ob_faultPlace ob_fresh ob_parts ob_houses ob_houseMany ob_worthOf ob_byCall ob_over ob_bestSet ob_bestOver ob_bestWorth ob_row ob_tenDebts ob_tenMany ob_fewestBy ob_covered ob_queue ob_cameBy ob_parent ob_met ob_calls ob_callMany ob_calledOn ob_saved ob_many ob_width ob_numbers ob_moving), (ce_b1400 y ob_tape fob_tape), (ce_i9080 y ob_fresh fob_fresh)] := ⟨hP, hD⟩
          rcases b01 bv_1142 with h9 | h9
          · obtain rfl : 0 = v_1142 := h9.symm
            have hlh_1146 : Int32.toInt 0 = 0 := by decide
            refine lv_if_eq (tgt := 52) hx hb dX10_readPart_45 (by decide) (fun _ => ?_) (fun c9 => absurd (by decide) c9)
            refine lv_aload_n hx hb dX10_readPart_52 rfl (lv_at hl 0 rfl) ?_
            refine va_ldcS (own := RX10) (tx := "known") (q := aK 28) hx hb hown (hE.2.1 ("CardBowlModel", 232, "known", 28) sl_CardBowlModel_232) dX10_readPart_53 ?_
            refine cViSm (As := [.ref (aK 28)]) (rest := []) ⟨hx, hb, hml, hown, hw0⟩ hA hK hP hD hS hE [true, true] (sX10_is l G y aK aV _ ob 28 ob_thrown ob_world ob_images ob_hasImage ob_tape ob_taped ob_five ob_size ob_at ob_from ob_token ob_value ob_faultKind ob_faultPlace ob_fresh ob_parts ob_houses ob_houseMany ob_worthOf ob_byCall ob_over ob_bestSet ob_bestOver ob_bestWorth ob_row ob_tenDebts ob_tenMany ob_fewestBy ob_covered ob_queue ob_cameBy ob_parent ob_met ob_calls ob_callMany ob_calledOn ob_saved ob_many ob_width ob_numbers ob_moving fob_tape p_fob_tape p_ob_taped p_ob_size p_ob_at p_ob_from p_ob_token p_ob_value p_ob_faultKind p_ob_houseMany p_ob_bestSet p_ob_bestOver p_ob_tenMany p_ob_callMany (by decide) (by assumption) (by decide +kernel)) rfl ⟨(callB_of 1 hw0 (gA m_530) rfl rfl rfl (hw0 _ m_41) (hw0 _ m_414) cb_X10_is ⟨Nat.le_of_ble_eq_true rfl, Nat.le_of_ble_eq_true rfl⟩), (hw0 _ m_415), (hw0 _ m_416)⟩ (ci := 10) (q := (RX10, TX10, 41)) rfl rfl rfl hl.1 (Nat.le_of_ble_eq_true rfl) dX10_readPart_55 ⟨Nat.le_of_ble_eq_true rfl, Nat.le_of_ble_eq_true rfl⟩ (fun r_1147 w_1147 H locs hw_1147 hP hD hS => ?_)
            obtain ⟨v_1148, bv_1148, h_1149, h_1150, er_1147, rfl⟩ := hw_1147
            subst r_1147
            have hLh_1151 : ((lenS.getD 28 0 : Nat) : Int) = 5 := by decide
            obtain ⟨hP, hD⟩ : vPD G A H [(ce_X10 ob ob_thrown ob_world ob_images ob_hasImage ob_tape ob_taped ob_five ob_size ob_at ob_from ob_token ob_value ob_faultKind ob_faultPlace ob_fresh ob_parts ob_houses ob_houseMany ob_worthOf ob_byCall ob_over ob_bestSet ob_bestOver ob_bestWorth ob_row ob_tenDebts ob_tenMany ob_fewestBy ob_covered ob_queue ob_cameBy ob_parent ob_met ob_calls ob_callMany ob_calledOn ob_saved ob_many ob_width ob_numbers ob_moving), (ce_b1400 y ob_tape fob_tape), (ce_i9080 y ob_fresh fob_fresh)] := ⟨hP, hD⟩
            rcases b01 bv_1148 with h9 | h9
            · obtain rfl : 0 = v_1148 := h9.symm
              have hlh_1152 : Int32.toInt 0 = 0 := by decide
              refine lv_if_eq (tgt := 65) hx hb dX10_readPart_58 (by decide) (fun _ => ?_) (fun c9 => absurd (by decide) c9)
              refine lv_iconst (v := 5) hx hb dX10_readPart_65 (by decide) ?_
              exact J_66_1036 _ _ _ _ ⟨5, (bw (0) (5) (bkc (x := 5) (c := 5) (by decide)) (by decide)), (by have lm1 : Int32.toInt (-1) = -1 := (by decide); have l91 : Int32.toInt 1 = 1 := (by decide); have l92 : Int32.toInt 2 = 2 := (by decide); have l93 : Int32.toInt 3 = 3 := (by decide); have h90 : Int32.toInt 5 = 5 := (by decide); rw [am_w5]; omega), (by have h90 : Int32.toInt 5 = 5 := (by decide); omega), rfl, ⟨hP, hD⟩, hS, lv_sub hl [0, 1] rfl⟩
            · obtain rfl : 1 = v_1148 := h9.symm
              have hlh_1153 : Int32.toInt 1 = 1 := by decide
              refine lv_if_eq (tgt := 65) hx hb dX10_readPart_58 (by decide) (fun c9 => absurd c9 (by decide)) (fun _ => ?_)
              refine lv_iconst (v := 4) hx hb dX10_readPart_61 (by decide) ?_
              refine lv_goto (tgt := 66) hx hb dX10_readPart_62 (by decide) ?_
              exact J_66_1036 _ _ _ _ ⟨4, (bw (0) (5) (bkc (x := 4) (c := 4) (by decide)) (by decide)), (by have lm1 : Int32.toInt (-1) = -1 := (by decide); have l91 : Int32.toInt 1 = 1 := (by decide); have l92 : Int32.toInt 2 = 2 := (by decide); have l93 : Int32.toInt 3 = 3 := (by decide); have h90 : Int32.toInt 4 = 4 := (by decide); rw [am_w5]; omega), (by have h90 : Int32.toInt 4 = 4 := (by decide); omega), rfl, ⟨hP, hD⟩, hS, lv_sub hl [0, 1] rfl⟩
          · obtain rfl : 1 = v_1142 := h9.symm
            have hlh_1154 : Int32.toInt 1 = 1 := by decide
            refine lv_if_eq (tgt := 52) hx hb dX10_readPart_45 (by decide) (fun c9 => absurd c9 (by decide)) (fun _ => ?_)
            refine lv_iconst (v := 3) hx hb dX10_readPart_48 (by decide) ?_
            refine lv_goto (tgt := 66) hx hb dX10_readPart_49 (by decide) ?_
            exact J_66_1036 _ _ _ _ ⟨3, (bw (0) (5) (bkc (x := 3) (c := 3) (by decide)) (by decide)), (by have lm1 : Int32.toInt (-1) = -1 := (by decide); have l91 : Int32.toInt 1 = 1 := (by decide); have l92 : Int32.toInt 2 = 2 := (by decide); have l93 : Int32.toInt 3 = 3 := (by decide); have h90 : Int32.toInt 3 = 3 := (by decide); rw [am_w5]; omega), (by have h90 : Int32.toInt 3 = 3 := (by decide); omega), rfl, ⟨hP, hD⟩, hS, lv_sub hl [0, 1] rfl⟩
        · obtain rfl : 1 = v_1136 := h9.symm
          have hlh_1155 : Int32.toInt 1 = 1 := by decide
          refine lv_if_eq (tgt := 39) hx hb dX10_readPart_32 (by decide) (fun c9 => absurd c9 (by decide)) (fun _ => ?_)
          refine lv_iconst (v := 2) hx hb dX10_readPart_35 (by decide) ?_
          refine lv_goto (tgt := 66) hx hb dX10_readPart_36 (by decide) ?_
          exact J_66_1036 _ _ _ _ ⟨2, (bw (0) (5) (bkc (x := 2) (c := 2) (by decide)) (by decide)), (by have lm1 : Int32.toInt (-1) = -1 := (by decide); have l91 : Int32.toInt 1 = 1 := (by decide); have l92 : Int32.toInt 2 = 2 := (by decide); have l93 : Int32.toInt 3 = 3 := (by decide); have h90 : Int32.toInt 2 = 2 := (by decide); rw [am_w5]; omega), (by have h90 : Int32.toInt 2 = 2 := (by decide); omega), rfl, ⟨hP, hD⟩, hS, lv_sub hl [0, 1] rfl⟩
      · obtain rfl : 1 = v_1130 := h9.symm
        have hlh_1156 : Int32.toInt 1 = 1 := by decide
        refine lv_if_eq (tgt := 26) hx hb dX10_readPart_19 (by decide) (fun c9 => absurd c9 (by decide)) (fun _ => ?_)
        refine lv_iconst (v := 1) hx hb dX10_readPart_22 (by decide) ?_
        refine lv_goto (tgt := 66) hx hb dX10_readPart_23 (by decide) ?_
        exact J_66_1036 _ _ _ _ ⟨1, (bw (0) (5) (bkc (x := 1) (c := 1) (by decide)) (by decide)), (by have lm1 : Int32.toInt (-1) = -1 := (by decide); have l91 : Int32.toInt 1 = 1 := (by decide); have l92 : Int32.toInt 2 = 2 := (by decide); have l93 : Int32.toInt 3 = 3 := (by decide); have h90 : Int32.toInt 1 = 1 := (by decide); rw [am_w5]; omega), (by have h90 : Int32.toInt 1 = 1 := (by decide); omega), rfl, ⟨hP, hD⟩, hS, lv_sub hl [0, 1] rfl⟩
    · obtain rfl : 1 = v_1002 := h9.symm
      have hlh_1157 : Int32.toInt 1 = 1 := by decide
      refine lv_if_eq (tgt := 13) hx hb dX10_readPart_6 (by decide) (fun c9 => absurd c9 (by decide)) (fun _ => ?_)
      refine lv_iconst (v := 0) hx hb dX10_readPart_9 (by decide) ?_
      refine lv_goto (tgt := 66) hx hb dX10_readPart_10 (by decide) ?_
      exact J_66_1036 _ _ _ _ ⟨0, (bw (0) (5) (bkc (x := 0) (c := 0) (by decide)) (by decide)), (by have lm1 : Int32.toInt (-1) = -1 := (by decide); have l91 : Int32.toInt 1 = 1 := (by decide); have l92 : Int32.toInt 2 = 2 := (by decide); have l93 : Int32.toInt 3 = 3 := (by decide); have h90 : Int32.toInt 0 = 0 := (by decide); rw [am_w5]; omega), (by have h90 : Int32.toInt 0 = 0 := (by decide); omega), rfl, ⟨hP, hD⟩, hS, lv_sub hl [0, 1] rfl⟩

set_option maxHeartbeats 4000000 in
set_option maxRecDepth 100000 in
theorem sX10_readSum (l : Launch) (G : va_G) (y : Nat → ClassId) (aK aV : Nat → Nat) (sz : Nat) (ob : Nat) (a1 : Int32) (ob_thrown : Int32) (ob_world : Nat) (ob_images : Nat) (ob_hasImage : Nat) (ob_tape : Nat) (ob_taped : Int32) (ob_five : Nat) (ob_size : Int32) (ob_at : Int32) (ob_from : Int32) (ob_token : Int32) (ob_value : Int32) (ob_faultKind : Int32) (ob_faultPlace : Int32) (ob_fresh : Nat) (ob_parts : Nat) (ob_houses : Nat) (ob_houseMany : Int32) (ob_worthOf : Nat) (ob_byCall : Nat) (ob_over : Nat) (ob_bestSet : Int32) (ob_bestOver : Int32) (ob_bestWorth : Int32) (ob_row : Nat) (ob_tenDebts : Nat) (ob_tenMany : Int32) (ob_fewestBy : Nat) (ob_covered : Nat) (ob_queue : Nat) (ob_cameBy : Nat) (ob_parent : Nat) (ob_met : Nat) (ob_calls : Nat) (ob_callMany : Int32) (ob_calledOn : Nat) (ob_saved : Nat) (ob_many : Nat) (ob_width : Nat) (ob_numbers : Nat) (ob_moving : Nat) (fob_tape : Nat → Int32) (fob_fresh : Nat → Int32) (p_fob_tape : ∀ i, (-128 : Int) ≤ (fob_tape i).toInt ∧ (fob_tape i).toInt ≤ 127) (p_ob_taped : (0 : Int) ≤ ob_taped.toInt ∧ ob_taped.toInt ≤ 1400) (p_ob_size : (0 : Int) ≤ ob_size.toInt ∧ ob_size.toInt ≤ 1400) (p_ob_at : (0 : Int) ≤ ob_at.toInt ∧ ob_at.toInt ≤ 1400) (p_ob_from : (0 : Int) ≤ ob_from.toInt ∧ ob_from.toInt ≤ 1400) (p_ob_token : (0 : Int) ≤ ob_token.toInt ∧ ob_token.toInt ≤ 4) (p_ob_value : (0 : Int) ≤ ob_value.toInt ∧ ob_value.toInt ≤ 9999) (p_ob_faultKind : (0 : Int) ≤ ob_faultKind.toInt ∧ ob_faultKind.toInt ≤ 3) (p_fob_fresh : RWw fob_fresh) (p_ob_houseMany : (0 : Int) ≤ ob_houseMany.toInt ∧ ob_houseMany.toInt ≤ 10) (p_ob_bestSet : (0 : Int) ≤ ob_bestSet.toInt ∧ ob_bestSet.toInt ≤ 1023) (p_ob_bestOver : (-1 : Int) ≤ ob_bestOver.toInt ∧ ob_bestOver.toInt ≤ 180) (p_ob_tenMany : (0 : Int) ≤ ob_tenMany.toInt ∧ ob_tenMany.toInt ≤ 10) (p_ob_callMany : (0 : Int) ≤ ob_callMany.toInt ∧ ob_callMany.toInt ≤ 16) (p_a1 : (0 : Int) ≤ a1.toInt ∧ a1.toInt ≤ 4) (hq0 : ob_from.toInt ≤ ob_at.toInt) (hq1 : ob_token.toInt = 0 ∨ ob_from.toInt < ob_at.toInt) (hq2 : qTok fob_tape ob_size.toInt 9999 ob_token.toInt ob_from.toInt ob_at.toInt ob_value.toInt) (hq3 : 4 * (fob_fresh 3).toInt ≤ ob_from.toInt) (hq4 : 2 * (fob_fresh 2).toInt ≤ (fob_fresh 3).toInt) : Met l yX10_readSum (Cond.code yX10_readSum cX10_readSum 3 none :: wAll) ({ frames := 6, cells := 0, slots := 0, locals := 132 }) (va_Pc [.ref ob, .int a1] (kps G y aK aV sz [(ce_X10 ob ob_thrown ob_world ob_images ob_hasImage ob_tape ob_taped ob_five ob_size ob_at ob_from ob_token ob_value ob_faultKind ob_faultPlace ob_fresh ob_parts ob_houses ob_houseMany ob_worthOf ob_byCall ob_over ob_bestSet ob_bestOver ob_bestWorth ob_row ob_tenDebts ob_tenMany ob_fewestBy ob_covered ob_queue ob_cameBy ob_parent ob_met ob_calls ob_callMany ob_calledOn ob_saved ob_many ob_width ob_numbers ob_moving), (ce_b1400 y ob_tape fob_tape), (ce_i9080 y ob_fresh fob_fresh)])) (va_Qv (fun (w : va_W) => (∃ (v_1027 : Int32) (v_1028 : Int32) (v_1029 : Int32) (v_1030 : Int32) (v_1031 : Int32) (v_1032 : Int32) (f_1033 : Nat → Int32), ((0 : Int) ≤ v_1027.toInt ∧ v_1027.toInt ≤ 1400) ∧ ((0 : Int) ≤ v_1028.toInt ∧ v_1028.toInt ≤ 1400) ∧ ((0 : Int) ≤ v_1029.toInt ∧ v_1029.toInt ≤ 4) ∧ ((0 : Int) ≤ v_1030.toInt ∧ v_1030.toInt ≤ 9999) ∧ ((0 : Int) ≤ v_1031.toInt ∧ v_1031.toInt ≤ 3) ∧ (RWw f_1033) ∧ (∀ c : Bool, r_tp fob_tape ob_size.toInt (qT fob_tape ob_size.toInt) c (r_pa fob_tape ob_size.toInt ((ob_faultKind.toInt, ob_faultPlace.toInt, ob_from.toInt) : Int × Int × Int)) = r_tp fob_tape ob_size.toInt (qT fob_tape ob_size.toInt) c ((v_1031.toInt, v_1032.toInt, v_1028.toInt) : Int × Int × Int)) ∧ (qTok fob_tape ob_size.toInt 9999 v_1029.toInt v_1028.toInt v_1027.toInt v_1030.toInt) ∧ (v_1031.toInt ≠ 0 ∨ qam fob_tape ob_size.toInt v_1028.toInt 6 < 0 ∨ 2 < qam fob_tape ob_size.toInt v_1028.toInt 6) ∧ (v_1028.toInt ≤ v_1027.toInt) ∧ (v_1029.toInt = 0 ∨ v_1028.toInt < v_1027.toInt) ∧ (ob_from.toInt ≤ v_1028.toInt) ∧ (ob_faultKind.toInt = 0 ∨ ¬ v_1031.toInt = 0) ∧ (4 * (f_1033 3).toInt ≤ v_1028.toInt + 3) ∧ (2 * (f_1033 2).toInt ≤ (f_1033 3).toInt) ∧ ((f_1033 0).toInt = (fob_fresh 0).toInt) ∧ ((f_1033 1).toInt = (fob_fresh 1).toInt) ∧ ((f_1033 2).toInt = (fob_fresh 2).toInt) ∧ ((fob_fresh 3).toInt ≤ (f_1033 3).toInt) ∧ (¬ v_1031.toInt = 0 ∨ (ob_faultKind.toInt = 0 ∧ (fob_fresh 3).toInt + 1 ≤ (f_1033 3).toInt ∧ ob_from.toInt + 1 ≤ v_1028.toInt)) ∧ (frm 274 fob_fresh f_1033) ∧ w = [(ce_X10 ob ob_thrown ob_world ob_images ob_hasImage ob_tape ob_taped ob_five ob_size v_1027 v_1028 v_1029 v_1030 v_1031 v_1032 ob_fresh ob_parts ob_houses ob_houseMany ob_worthOf ob_byCall ob_over ob_bestSet ob_bestOver ob_bestWorth ob_row ob_tenDebts ob_tenMany ob_fewestBy ob_covered ob_queue ob_cameBy ob_parent ob_met ob_calls ob_callMany ob_calledOn ob_saved ob_many ob_width ob_numbers ob_moving), (ce_b1400 y ob_tape fob_tape), (ce_i9080 y ob_fresh f_1033)])) (kq G (va_A [(ce_X10 ob ob_thrown ob_world ob_images ob_hasImage ob_tape ob_taped ob_five ob_size ob_at ob_from ob_token ob_value ob_faultKind ob_faultPlace ob_fresh ob_parts ob_houses ob_houseMany ob_worthOf ob_byCall ob_over ob_bestSet ob_bestOver ob_bestWorth ob_row ob_tenDebts ob_tenMany ob_fewestBy ob_covered ob_queue ob_cameBy ob_parent ob_met ob_calls ob_callMany ob_calledOn ob_saved ob_many ob_width ob_numbers ob_moving), (ce_b1400 y ob_tape fob_tape), (ce_i9080 y ob_fresh fob_fresh)] sz)) (va_A [(ce_X10 ob ob_thrown ob_world ob_images ob_hasImage ob_tape ob_taped ob_five ob_size ob_at ob_from ob_token ob_value ob_faultKind ob_faultPlace ob_fresh ob_parts ob_houses ob_houseMany ob_worthOf ob_byCall ob_over ob_bestSet ob_bestOver ob_bestWorth ob_row ob_tenDebts ob_tenMany ob_fewestBy ob_covered ob_queue ob_cameBy ob_parent ob_met ob_calls ob_callMany ob_calledOn ob_saved ob_many ob_width ob_numbers ob_moving), (ce_b1400 y ob_tape fob_tape), (ce_i9080 y ob_fresh fob_fresh)] sz)) 0 0 (va_A [(ce_X10 ob ob_thrown ob_world ob_images ob_hasImage ob_tape ob_taped ob_five ob_size ob_at ob_from ob_token ob_value ob_faultKind ob_faultPlace ob_fresh ob_parts ob_houses ob_houseMany ob_worthOf ob_byCall ob_over ob_bestSet ob_bestOver ob_bestWorth ob_row ob_tenDebts ob_tenMany ob_fewestBy ob_covered ob_queue ob_cameBy ob_parent ob_met ob_calls ob_callMany ob_calledOn ob_saved ob_many ob_width ob_numbers ob_moving), (ce_b1400 y ob_tape fob_tape), (ce_i9080 y ob_fresh fob_fresh)] sz) := by
  refine Met.ofW (cc := cX10_readSum) (maxL := 3) (ret := none) (by decide) rfl ?_
  intro p e s m args below meth c s₁ B hml hv
  obtain ⟨rfl, ⟨hsz, hP, hK, hD0⟩, hE⟩ := hv
  have hx := B.exec
  have hb := B.bytes
  have hr := B.returns
  have hw0 : ∀ w ∈ wAll, w.before _ s = true := fun w h => atoms_spec (ws := Cond.code yX10_readSum cX10_readSum 3 none :: wAll) B.pre w (List.mem_cons_of_mem _ h)
  have hown : s.vm.findClass RX10 = some m.cls := findClass_of_methodNamed B.named
  subst hsz
  have hD := hD0.self (sz := s.heap.size)
  generalize hAe : va_A [(ce_X10 ob ob_thrown ob_world ob_images ob_hasImage ob_tape ob_taped ob_five ob_size ob_at ob_from ob_token ob_value ob_faultKind ob_faultPlace ob_fresh ob_parts ob_houses ob_houseMany ob_worthOf ob_byCall ob_over ob_bestSet ob_bestOver ob_bestWorth ob_row ob_tenDebts ob_tenMany ob_fewestBy ob_covered ob_queue ob_cameBy ob_parent ob_met ob_calls ob_callMany ob_calledOn ob_saved ob_many ob_width ob_numbers ob_moving), (ce_b1400 y ob_tape fob_tape), (ce_i9080 y ob_fresh fob_fresh)] s.heap.size = A at hD hE ⊢
  have hA : ∀ q : Nat, s.heap.size ≤ q → A q := fun q h => by rw [← hAe]; exact Or.inr h
  have hS : va_S A s.heap s.heap [] := va_S.rf
  have hP : va_P G vwCl [(ce_X10 ob ob_thrown ob_world ob_images ob_hasImage ob_tape ob_taped ob_five ob_size ob_at ob_from ob_token ob_value ob_faultKind ob_faultPlace ob_fresh ob_parts ob_houses ob_houseMany ob_worthOf ob_byCall ob_over ob_bestSet ob_bestOver ob_bestWorth ob_row ob_tenDebts ob_tenMany ob_fewestBy ob_covered ob_queue ob_cameBy ob_parent ob_met ob_calls ob_callMany ob_calledOn ob_saved ob_many ob_width ob_numbers ob_moving), (ce_b1400 y ob_tape fob_tape), (ce_i9080 y ob_fresh fob_fresh)] s.heap := hP
  have hl := lv_entry ([.ref ob, .int a1]) (n := 3) (Nat.le_of_ble_eq_true rfl)
  rw [lg_entry_eq]
  generalize (lg_sl ([.ref ob, .int a1]) ++ List.replicate (3 - (lg_sl ([.ref ob, .int a1])).length) Slot.unset).toArray = ls at hl ⊢
  have hl : lv_has ls 3 [(0, .ref ob), (1, .int a1)] := hl
  refine lv_aload_n hx hb dX10_readSum_0 rfl (lv_at hl 0 rfl) ?_
  refine lv_iload_n hx hb dX10_readSum_1 rfl (lv_at hl 1 rfl) ?_
  refine cVvSm (As := [.int a1]) (rest := []) ⟨hx, hb, hml, hown, hw0⟩ hA hK hP hD hS hE [true, true, true] (sX10_readPart l G y aK aV _ ob a1 ob_thrown ob_world ob_images ob_hasImage ob_tape ob_taped ob_five ob_size ob_at ob_from ob_token ob_value ob_faultKind ob_faultPlace ob_fresh ob_parts ob_houses ob_houseMany ob_worthOf ob_byCall ob_over ob_bestSet ob_bestOver ob_bestWorth ob_row ob_tenDebts ob_tenMany ob_fewestBy ob_covered ob_queue ob_cameBy ob_parent ob_met ob_calls ob_callMany ob_calledOn ob_saved ob_many ob_width ob_numbers ob_moving fob_tape fob_fresh p_fob_tape p_ob_taped p_ob_size p_ob_at p_ob_from p_ob_token p_ob_value p_ob_faultKind p_fob_fresh p_ob_houseMany p_ob_bestSet p_ob_bestOver p_ob_tenMany p_ob_callMany p_a1 (by omega) (by omega) (by assumption) (by omega) (by omega)) rfl ⟨(callB_of 1 hw0 (gA m_635) rfl rfl rfl (hw0 _ m_41) (hw0 _ m_637) cb_X10_readPart ⟨Nat.le_of_ble_eq_true rfl, Nat.le_of_ble_eq_true rfl⟩), (hw0 _ m_638), (hw0 _ m_639)⟩ (ci := 10) (q := (RX10, TX10, 41)) rfl rfl rfl hl.1 (Nat.le_of_ble_eq_true rfl) dX10_readSum_2 ⟨Nat.le_of_ble_eq_true rfl, Nat.le_of_ble_eq_true rfl⟩ (fun w_1001 H locs hw_1001 hP hD hS => ?_)
  obtain ⟨v_1002, v_1003, v_1004, v_1005, v_1006, v_1007, f_1008, bv_1002, bv_1003, bv_1004, bv_1005, bv_1006, bf_1008, h_1009, h_1010, h_1011, h_1012, h_1013, h_1014, h_1015, h_1016, h_1017, h_1018, h_1019, h_1020, h_1021, h_1022, rfl⟩ := hw_1001
  obtain ⟨hP, hD⟩ : vPD G A H [(ce_X10 ob ob_thrown ob_world ob_images ob_hasImage ob_tape ob_taped ob_five ob_size v_1002 v_1003 v_1004 v_1005 v_1006 v_1007 ob_fresh ob_parts ob_houses ob_houseMany ob_worthOf ob_byCall ob_over ob_bestSet ob_bestOver ob_bestWorth ob_row ob_tenDebts ob_tenMany ob_fewestBy ob_covered ob_queue ob_cameBy ob_parent ob_met ob_calls ob_callMany ob_calledOn ob_saved ob_many ob_width ob_numbers ob_moving), (ce_b1400 y ob_tape fob_tape), (ce_i9080 y ob_fresh f_1008)] := ⟨hP, hD⟩
  refine loopX (fun n H locs ls st => ∃ (v_1319 : Int32) (v_1320 : Int32) (v_1321 : Int32) (v_1322 : Int32) (v_1323 : Int32) (v_1324 : Int32) (f_1325 : Nat → Int32), (1400 - v_1320.toInt).toNat = n ∧ ((0 : Int) ≤ v_1319.toInt ∧ v_1319.toInt ≤ 1400) ∧ ((0 : Int) ≤ v_1320.toInt ∧ v_1320.toInt ≤ 1400) ∧ ((0 : Int) ≤ v_1321.toInt ∧ v_1321.toInt ≤ 4) ∧ ((0 : Int) ≤ v_1322.toInt ∧ v_1322.toInt ≤ 9999) ∧ ((0 : Int) ≤ v_1323.toInt ∧ v_1323.toInt ≤ 3) ∧ (RWw f_1325) ∧ (∀ c : Bool, r_tp fob_tape ob_size.toInt (qT fob_tape ob_size.toInt) c (r_pa fob_tape ob_size.toInt ((ob_faultKind.toInt, ob_faultPlace.toInt, ob_from.toInt) : Int × Int × Int)) = r_tp fob_tape ob_size.toInt (qT fob_tape ob_size.toInt) c ((v_1323.toInt, v_1324.toInt, v_1320.toInt) : Int × Int × Int)) ∧ (qTok fob_tape ob_size.toInt 9999 v_1321.toInt v_1320.toInt v_1319.toInt v_1322.toInt) ∧ (v_1320.toInt ≤ v_1319.toInt) ∧ (v_1321.toInt = 0 ∨ v_1320.toInt < v_1319.toInt) ∧ (ob_from.toInt ≤ v_1320.toInt) ∧ (ob_faultKind.toInt = 0 ∨ ¬ v_1323.toInt = 0) ∧ (4 * (f_1325 3).toInt ≤ v_1320.toInt + 3) ∧ (2 * (f_1325 2).toInt ≤ (f_1325 3).toInt) ∧ ((f_1325 0).toInt = (fob_fresh 0).toInt) ∧ ((f_1325 1).toInt = (fob_fresh 1).toInt) ∧ ((f_1325 2).toInt = (fob_fresh 2).toInt) ∧ ((fob_fresh 3).toInt ≤ (f_1325 3).toInt) ∧ (¬ v_1323.toInt = 0 ∨ (ob_faultKind.toInt = 0 ∧ (fob_fresh 3).toInt + 1 ≤ (f_1325 3).toInt ∧ ob_from.toInt + 1 ≤ v_1320.toInt)) ∧ (frm 274 fob_fresh f_1325) ∧ st = [] ∧ vPD G A H [(ce_X10 ob ob_thrown ob_world ob_images ob_hasImage ob_tape ob_taped ob_five ob_size v_1319 v_1320 v_1321 v_1322 v_1323 v_1324 ob_fresh ob_parts ob_houses ob_houseMany ob_worthOf ob_byCall ob_over ob_bestSet ob_bestOver ob_bestWorth ob_row ob_tenDebts ob_tenMany ob_fewestBy ob_covered ob_queue ob_cameBy ob_parent ob_met ob_calls ob_callMany ob_calledOn ob_saved ob_many ob_width ob_numbers ob_moving), (ce_b1400 y ob_tape fob_tape), (ce_i9080 y ob_fresh f_1325)] ∧ va_S A s.heap H locs ∧ lv_has ls 3 [(0, .ref ob)]) ?_ (n := (1400 - v_1003.toInt).toNat) ⟨v_1002, v_1003, v_1004, v_1005, v_1006, v_1007, f_1008, rfl, bv_1002, bv_1003, bv_1004, bv_1005, bv_1006, bf_1008, (fun c => by rw [h_1009]), (by assumption), (by omega), (by omega), (by omega), (by omega), (by omega), (by omega), (by omega), (by omega), (by omega), (by omega), (by omega), h_1022, rfl, ⟨hP, hD⟩, hS, lv_sub hl [0] rfl⟩
  rintro n ih_1419 H locs ls st ⟨v_1319, v_1320, v_1321, v_1322, v_1323, v_1324, f_1325, hn_1419, bv_1319, bv_1320, bv_1321, bv_1322, bv_1323, bf_1325, rl1325_0, rl1325_1, rl1325_2, rl1325_3, rl1325_4, rl1325_5, rl1325_6, rl1325_7, rl1325_8, rl1325_9, rl1325_10, rl1325_11, rl1325_12, rl1325_13, rfl, ⟨hP, hD⟩, hS, hl⟩
  refine lv_aload_n hx hb dX10_readSum_5 rfl (lv_at hl 0 rfl) ?_
  refine va_ldcS (own := RX10) (tx := "plus") (q := aK 29) hx hb hown (hE.2.1 ("CardBowlModel", 237, "plus", 29) sl_CardBowlModel_237) dX10_readSum_6 ?_
  refine cViSm (As := [.ref (aK 29)]) (rest := []) ⟨hx, hb, hml, hown, hw0⟩ hA hK hP hD hS hE [true, true] (sX10_is l G y aK aV _ ob 29 ob_thrown ob_world ob_images ob_hasImage ob_tape ob_taped ob_five ob_size v_1319 v_1320 v_1321 v_1322 v_1323 v_1324 ob_fresh ob_parts ob_houses ob_houseMany ob_worthOf ob_byCall ob_over ob_bestSet ob_bestOver ob_bestWorth ob_row ob_tenDebts ob_tenMany ob_fewestBy ob_covered ob_queue ob_cameBy ob_parent ob_met ob_calls ob_callMany ob_calledOn ob_saved ob_many ob_width ob_numbers ob_moving fob_tape p_fob_tape p_ob_taped p_ob_size bv_1319 bv_1320 bv_1321 bv_1322 bv_1323 p_ob_houseMany p_ob_bestSet p_ob_bestOver p_ob_tenMany p_ob_callMany (by decide) (by assumption) (by decide +kernel)) rfl ⟨(callB_of 1 hw0 (gA m_530) rfl rfl rfl (hw0 _ m_41) (hw0 _ m_414) cb_X10_is ⟨Nat.le_of_ble_eq_true rfl, Nat.le_of_ble_eq_true rfl⟩), (hw0 _ m_415), (hw0 _ m_416)⟩ (ci := 10) (q := (RX10, TX10, 41)) rfl rfl rfl hl.1 (Nat.le_of_ble_eq_true rfl) dX10_readSum_8 ⟨Nat.le_of_ble_eq_true rfl, Nat.le_of_ble_eq_true rfl⟩ (fun r_1420 w_1420 H locs hw_1420 hP hD hS => ?_)
  obtain ⟨v_1421, bv_1421, h_1422, h_1423, er_1420, rfl⟩ := hw_1420
  subst r_1420
  have hLh_1424 : ((lenS.getD 29 0 : Nat) : Int) = 4 := by decide
  obtain ⟨hP, hD⟩ : vPD G A H [(ce_X10 ob ob_thrown ob_world ob_images ob_hasImage ob_tape ob_taped ob_five ob_size v_1319 v_1320 v_1321 v_1322 v_1323 v_1324 ob_fresh ob_parts ob_houses ob_houseMany ob_worthOf ob_byCall ob_over ob_bestSet ob_bestOver ob_bestWorth ob_row ob_tenDebts ob_tenMany ob_fewestBy ob_covered ob_queue ob_cameBy ob_parent ob_met ob_calls ob_callMany ob_calledOn ob_saved ob_many ob_width ob_numbers ob_moving), (ce_b1400 y ob_tape fob_tape), (ce_i9080 y ob_fresh f_1325)] := ⟨hP, hD⟩
  refine cutW 32 (fun H locs ls st => (v_1323.toInt = 0 ∧ v_1321.toInt = 1 ∧ 4 ≤ v_1319.toInt - v_1320.toInt) ∧ (0 ≤ qam fob_tape ob_size.toInt v_1320.toInt 6 ∧ qam fob_tape ob_size.toInt v_1320.toInt 6 ≤ 2) ∧ st = [] ∧ vPD G A H [(ce_X10 ob ob_thrown ob_world ob_images ob_hasImage ob_tape ob_taped ob_five ob_size v_1319 v_1320 v_1321 v_1322 v_1323 v_1324 ob_fresh ob_parts ob_houses ob_houseMany ob_worthOf ob_byCall ob_over ob_bestSet ob_bestOver ob_bestWorth ob_row ob_tenDebts ob_tenMany ob_fewestBy ob_covered ob_queue ob_cameBy ob_parent ob_met ob_calls ob_callMany ob_calledOn ob_saved ob_many ob_width ob_numbers ob_moving), (ce_b1400 y ob_tape fob_tape), (ce_i9080 y ob_fresh f_1325)] ∧ va_S A s.heap H locs ∧ lv_has ls 3 [(0, .ref ob)]) ?_ (fun J_32_1440 => ?_)
  · rintro H locs ls st ⟨rl1440_0, rl1440_1, rfl, ⟨hP, hD⟩, hS, hl⟩
    refine lv_aload_n hx hb dX10_readSum_32 rfl (lv_at hl 0 rfl) ?_
    refine va_ldcS (own := RX10) (tx := "plus") (q := aK 29) hx hb hown (hE.2.1 ("CardBowlModel", 237, "plus", 29) sl_CardBowlModel_237) dX10_readSum_33 ?_
    refine cViSm (As := [.ref (aK 29)]) (rest := []) ⟨hx, hb, hml, hown, hw0⟩ hA hK hP hD hS hE [true, true] (sX10_is l G y aK aV _ ob 29 ob_thrown ob_world ob_images ob_hasImage ob_tape ob_taped ob_five ob_size v_1319 v_1320 v_1321 v_1322 v_1323 v_1324 ob_fresh ob_parts ob_houses ob_houseMany ob_worthOf ob_byCall ob_over ob_bestSet ob_bestOver ob_bestWorth ob_row ob_tenDebts ob_tenMany ob_fewestBy ob_covered ob_queue ob_cameBy ob_parent ob_met ob_calls ob_callMany ob_calledOn ob_saved ob_many ob_width ob_numbers ob_moving fob_tape p_fob_tape p_ob_taped p_ob_size bv_1319 bv_1320 bv_1321 bv_1322 bv_1323 p_ob_houseMany p_ob_bestSet p_ob_bestOver p_ob_tenMany p_ob_callMany (by decide) (by assumption) (by decide +kernel)) rfl ⟨(callB_of 1 hw0 (gA m_530) rfl rfl rfl (hw0 _ m_41) (hw0 _ m_414) cb_X10_is ⟨Nat.le_of_ble_eq_true rfl, Nat.le_of_ble_eq_true rfl⟩), (hw0 _ m_415), (hw0 _ m_416)⟩ (ci := 10) (q := (RX10, TX10, 41)) rfl rfl rfl hl.1 (Nat.le_of_ble_eq_true rfl) dX10_readSum_35 ⟨Nat.le_of_ble_eq_true rfl, Nat.le_of_ble_eq_true rfl⟩ (fun r_1441 w_1441 H locs hw_1441 hP hD hS => ?_)
    obtain ⟨v_1442, bv_1442, h_1443, h_1444, er_1441, rfl⟩ := hw_1441
    subst r_1441
    have hLh_1445 : ((lenS.getD 29 0 : Nat) : Int) = 4 := by decide
    obtain ⟨hP, hD⟩ : vPD G A H [(ce_X10 ob ob_thrown ob_world ob_images ob_hasImage ob_tape ob_taped ob_five ob_size v_1319 v_1320 v_1321 v_1322 v_1323 v_1324 ob_fresh ob_parts ob_houses ob_houseMany ob_worthOf ob_byCall ob_over ob_bestSet ob_bestOver ob_bestWorth ob_row ob_tenDebts ob_tenMany ob_fewestBy ob_covered ob_queue ob_cameBy ob_parent ob_met ob_calls ob_callMany ob_calledOn ob_saved ob_many ob_width ob_numbers ob_moving), (ce_b1400 y ob_tape fob_tape), (ce_i9080 y ob_fresh f_1325)] := ⟨hP, hD⟩
    refine cutW 59 (fun H locs ls st => ∃ (v_1455 : Int32), ((1 : Int) ≤ v_1455.toInt ∧ v_1455.toInt ≤ 3) ∧ (v_1323.toInt = 0 ∧ v_1321.toInt = 1 ∧ 4 ≤ v_1319.toInt - v_1320.toInt) ∧ (0 ≤ qam fob_tape ob_size.toInt v_1320.toInt 6 ∧ qam fob_tape ob_size.toInt v_1320.toInt 6 ≤ 2) ∧ st = [.int v_1455] ∧ vPD G A H [(ce_X10 ob ob_thrown ob_world ob_images ob_hasImage ob_tape ob_taped ob_five ob_size v_1319 v_1320 v_1321 v_1322 v_1323 v_1324 ob_fresh ob_parts ob_houses ob_houseMany ob_worthOf ob_byCall ob_over ob_bestSet ob_bestOver ob_bestWorth ob_row ob_tenDebts ob_tenMany ob_fewestBy ob_covered ob_queue ob_cameBy ob_parent ob_met ob_calls ob_callMany ob_calledOn ob_saved ob_many ob_width ob_numbers ob_moving), (ce_b1400 y ob_tape fob_tape), (ce_i9080 y ob_fresh f_1325)] ∧ va_S A s.heap H locs ∧ lv_has ls 3 [(0, .ref ob)]) ?_ (fun J_59_1455 => ?_)
    · rintro H locs ls st ⟨v_1455, bv_1455, rl1455_0, rl1455_1, rfl, ⟨hP, hD⟩, hS, hl⟩
      refine lv_istore_n (lv' := [(2, .int v_1455), (0, .ref ob)]) hx hb dX10_readSum_59 rfl hl (by decide) rfl (fun ls hl => ?_)
      refine lv_aload_n hx hb dX10_readSum_60 rfl (lv_at hl 1 rfl) ?_
      refine cVvm (As := []) (rest := []) ⟨hx, hb, hml, hown, hw0⟩ hA hK hP hD hS [true, true] (sX10_advance l G y _ ob ob_thrown ob_world ob_images ob_hasImage ob_tape ob_taped ob_five ob_size v_1319 v_1320 v_1321 v_1322 v_1323 v_1324 ob_fresh ob_parts ob_houses ob_houseMany ob_worthOf ob_byCall ob_over ob_bestSet ob_bestOver ob_bestWorth ob_row ob_tenDebts ob_tenMany ob_fewestBy ob_covered ob_queue ob_cameBy ob_parent ob_met ob_calls ob_callMany ob_calledOn ob_saved ob_many ob_width ob_numbers ob_moving fob_tape p_fob_tape p_ob_taped p_ob_size bv_1319 bv_1320 bv_1321 bv_1322 bv_1323 p_ob_houseMany p_ob_bestSet p_ob_bestOver p_ob_tenMany p_ob_callMany (by first | omega | exact (tok_le (by assumption)).2)) rfl ⟨(callB_of 0 hw0 (gA m_336) rfl rfl rfl (hw0 _ m_41) (hw0 _ m_573) cb_X10_advance ⟨Nat.le_of_ble_eq_true rfl, Nat.le_of_ble_eq_true rfl⟩), (hw0 _ m_574), (hw0 _ m_575)⟩ (ci := 10) (q := (RX10, TX10, 41)) rfl rfl rfl hl.1 (Nat.le_of_ble_eq_true rfl) dX10_readSum_61 ⟨Nat.le_of_ble_eq_true rfl, Nat.le_of_ble_eq_true rfl⟩ (fun w_1456 H locs hw_1456 hP hD hS => ?_)
      obtain ⟨v_1457, v_1458, v_1459, v_1460, bv_1457, bv_1458, bv_1459, bv_1460, h_1461, h_1462, h_1463, h_1464, h_1465, rfl⟩ := hw_1456
      obtain ⟨hP, hD⟩ : vPD G A H [(ce_X10 ob ob_thrown ob_world ob_images ob_hasImage ob_tape ob_taped ob_five ob_size v_1457 v_1458 v_1459 v_1460 v_1323 v_1324 ob_fresh ob_parts ob_houses ob_houseMany ob_worthOf ob_byCall ob_over ob_bestSet ob_bestOver ob_bestWorth ob_row ob_tenDebts ob_tenMany ob_fewestBy ob_covered ob_queue ob_cameBy ob_parent ob_met ob_calls ob_callMany ob_calledOn ob_saved ob_many ob_width ob_numbers ob_moving), (ce_b1400 y ob_tape fob_tape), (ce_i9080 y ob_fresh f_1325)] := ⟨hP, hD⟩
      have E_1466 : ((v_1323.toInt, v_1324.toInt, v_1458.toInt) : Int × Int × Int) = r_ad fob_tape ob_size.toInt ((v_1323.toInt, v_1324.toInt, v_1320.toInt) : Int × Int × Int) := ad_i (by assumption) h_1462 rfl rfl
      have tnE_1466 := (h_1461).2.2.2.2
      refine lv_aload_n hx hb dX10_readSum_64 rfl (lv_at hl 1 rfl) ?_
      refine lv_iload_n hx hb dX10_readSum_65 rfl (lv_at hl 0 rfl) ?_
      refine cVvSm (As := [.int v_1455]) (rest := []) ⟨hx, hb, hml, hown, hw0⟩ hA hK hP hD hS hE [true, true, true] (sX10_readPart l G y aK aV _ ob v_1455 ob_thrown ob_world ob_images ob_hasImage ob_tape ob_taped ob_five ob_size v_1457 v_1458 v_1459 v_1460 v_1323 v_1324 ob_fresh ob_parts ob_houses ob_houseMany ob_worthOf ob_byCall ob_over ob_bestSet ob_bestOver ob_bestWorth ob_row ob_tenDebts ob_tenMany ob_fewestBy ob_covered ob_queue ob_cameBy ob_parent ob_met ob_calls ob_callMany ob_calledOn ob_saved ob_many ob_width ob_numbers ob_moving fob_tape f_1325 p_fob_tape p_ob_taped p_ob_size bv_1457 bv_1458 bv_1459 bv_1460 bv_1323 bf_1325 p_ob_houseMany p_ob_bestSet p_ob_bestOver p_ob_tenMany p_ob_callMany (bw (0) (4) bv_1455 (by decide)) (by omega) (by omega) (by assumption) (by omega) (by omega)) rfl ⟨(callB_of 1 hw0 (gA m_635) rfl rfl rfl (hw0 _ m_41) (hw0 _ m_637) cb_X10_readPart ⟨Nat.le_of_ble_eq_true rfl, Nat.le_of_ble_eq_true rfl⟩), (hw0 _ m_638), (hw0 _ m_639)⟩ (ci := 10) (q := (RX10, TX10, 41)) rfl rfl rfl hl.1 (Nat.le_of_ble_eq_true rfl) dX10_readSum_66 ⟨Nat.le_of_ble_eq_true rfl, Nat.le_of_ble_eq_true rfl⟩ (fun w_1467 H locs hw_1467 hP hD hS => ?_)
      obtain ⟨v_1468, v_1469, v_1470, v_1471, v_1472, v_1473, f_1474, bv_1468, bv_1469, bv_1470, bv_1471, bv_1472, bf_1474, h_1475, h_1476, h_1477, h_1478, h_1479, h_1480, h_1481, h_1482, h_1483, h_1484, h_1485, h_1486, h_1487, h_1488, rfl⟩ := hw_1467
      obtain ⟨hP, hD⟩ : vPD G A H [(ce_X10 ob ob_thrown ob_world ob_images ob_hasImage ob_tape ob_taped ob_five ob_size v_1468 v_1469 v_1470 v_1471 v_1472 v_1473 ob_fresh ob_parts ob_houses ob_houseMany ob_worthOf ob_byCall ob_over ob_bestSet ob_bestOver ob_bestWorth ob_row ob_tenDebts ob_tenMany ob_fewestBy ob_covered ob_queue ob_cameBy ob_parent ob_met ob_calls ob_callMany ob_calledOn ob_saved ob_many ob_width ob_numbers ob_moving), (ce_b1400 y ob_tape fob_tape), (ce_i9080 y ob_fresh f_1474)] := ⟨hP, hD⟩
      refine lv_goto (tgt := 5) hx hb dX10_readSum_69 (by decide) ?_
      exact ih_1419 _ (by omega) _ _ _ _ ⟨v_1468, v_1469, v_1470, v_1471, v_1472, v_1473, f_1474, rfl, bv_1468, bv_1469, bv_1470, bv_1471, bv_1472, bf_1474, (by have lm1 : Int32.toInt (-1) = -1 := (by decide); have l91 : Int32.toInt 1 = 1 := (by decide); have l92 : Int32.toInt 2 = 2 := (by decide); have l93 : Int32.toInt 3 = 3 := (by decide); intro c; exact (rl1325_0 c).trans (tp_go (by omega) ⟨by omega, by omega⟩ E_1466 (by omega) h_1475)), (by assumption), (by omega), (by omega), (by omega), (by omega), (by omega), (by omega), (by omega), (by omega), (by omega), (by omega), (by omega), (frm_t rl1325_13 h_1488), rfl, ⟨hP, hD⟩, hS, lv_sub hl [1] rfl⟩
    · skip
      rcases b01 bv_1442 with h9 | h9
      · obtain rfl : 0 = v_1442 := h9.symm
        have hlh_1489 : Int32.toInt 0 = 0 := by decide
        refine lv_if_eq (tgt := 45) hx hb dX10_readSum_38 (by decide) (fun _ => ?_) (fun c9 => absurd (by decide) c9)
        refine lv_aload_n hx hb dX10_readSum_45 rfl (lv_at hl 0 rfl) ?_
        refine va_ldcS (own := RX10) (tx := "minus") (q := aK 30) hx hb hown (hE.2.1 ("CardBowlModel", 239, "minus", 30) sl_CardBowlModel_239) dX10_readSum_46 ?_
        refine cViSm (As := [.ref (aK 30)]) (rest := []) ⟨hx, hb, hml, hown, hw0⟩ hA hK hP hD hS hE [true, true] (sX10_is l G y aK aV _ ob 30 ob_thrown ob_world ob_images ob_hasImage ob_tape ob_taped ob_five ob_size v_1319 v_1320 v_1321 v_1322 v_1323 v_1324 ob_fresh ob_parts ob_houses ob_houseMany ob_worthOf ob_byCall ob_over ob_bestSet ob_bestOver ob_bestWorth ob_row ob_tenDebts ob_tenMany ob_fewestBy ob_covered ob_queue ob_cameBy ob_parent ob_met ob_calls ob_callMany ob_calledOn ob_saved ob_many ob_width ob_numbers ob_moving fob_tape p_fob_tape p_ob_taped p_ob_size bv_1319 bv_1320 bv_1321 bv_1322 bv_1323 p_ob_houseMany p_ob_bestSet p_ob_bestOver p_ob_tenMany p_ob_callMany (by decide) (by assumption) (by decide +kernel)) rfl ⟨(callB_of 1 hw0 (gA m_530) rfl rfl rfl (hw0 _ m_41) (hw0 _ m_414) cb_X10_is ⟨Nat.le_of_ble_eq_true rfl, Nat.le_of_ble_eq_true rfl⟩), (hw0 _ m_415), (hw0 _ m_416)⟩ (ci := 10) (q := (RX10, TX10, 41)) rfl rfl rfl hl.1 (Nat.le_of_ble_eq_true rfl) dX10_readSum_48 ⟨Nat.le_of_ble_eq_true rfl, Nat.le_of_ble_eq_true rfl⟩ (fun r_1490 w_1490 H locs hw_1490 hP hD hS => ?_)
        obtain ⟨v_1491, bv_1491, h_1492, h_1493, er_1490, rfl⟩ := hw_1490
        subst r_1490
        have hLh_1494 : ((lenS.getD 30 0 : Nat) : Int) = 5 := by decide
        obtain ⟨hP, hD⟩ : vPD G A H [(ce_X10 ob ob_thrown ob_world ob_images ob_hasImage ob_tape ob_taped ob_five ob_size v_1319 v_1320 v_1321 v_1322 v_1323 v_1324 ob_fresh ob_parts ob_houses ob_houseMany ob_worthOf ob_byCall ob_over ob_bestSet ob_bestOver ob_bestWorth ob_row ob_tenDebts ob_tenMany ob_fewestBy ob_covered ob_queue ob_cameBy ob_parent ob_met ob_calls ob_callMany ob_calledOn ob_saved ob_many ob_width ob_numbers ob_moving), (ce_b1400 y ob_tape fob_tape), (ce_i9080 y ob_fresh f_1325)] := ⟨hP, hD⟩
        rcases b01 bv_1491 with h9 | h9
        · obtain rfl : 0 = v_1491 := h9.symm
          have hlh_1495 : Int32.toInt 0 = 0 := by decide
          refine lv_if_eq (tgt := 58) hx hb dX10_readSum_51 (by decide) (fun _ => ?_) (fun c9 => absurd (by decide) c9)
          refine lv_iconst (v := 3) hx hb dX10_readSum_58 (by decide) ?_
          exact J_59_1455 _ _ _ _ ⟨3, (bw (1) (3) (bkc (x := 3) (c := 3) (by decide)) (by decide)), (by have h90 : Int32.toInt 3 = 3 := (by decide); omega), (by have lm1 : Int32.toInt (-1) = -1 := (by decide); have l91 : Int32.toInt 1 = 1 := (by decide); have l92 : Int32.toInt 2 = 2 := (by decide); have l93 : Int32.toInt 3 = 3 := (by decide); have h90 : Int32.toInt 3 = 3 := (by decide); first | assumption | (rw [am_w6]; omega)), rfl, ⟨hP, hD⟩, hS, lv_sub hl [0] rfl⟩
        · obtain rfl : 1 = v_1491 := h9.symm
          have hlh_1496 : Int32.toInt 1 = 1 := by decide
          refine lv_if_eq (tgt := 58) hx hb dX10_readSum_51 (by decide) (fun c9 => absurd c9 (by decide)) (fun _ => ?_)
          refine lv_iconst (v := 2) hx hb dX10_readSum_54 (by decide) ?_
          refine lv_goto (tgt := 59) hx hb dX10_readSum_55 (by decide) ?_
          exact J_59_1455 _ _ _ _ ⟨2, (bw (1) (3) (bkc (x := 2) (c := 2) (by decide)) (by decide)), (by have h90 : Int32.toInt 2 = 2 := (by decide); omega), (by have lm1 : Int32.toInt (-1) = -1 := (by decide); have l91 : Int32.toInt 1 = 1 := (by decide); have l92 : Int32.toInt 2 = 2 := (by decide); have l93 : Int32.toInt 3 = 3 := (by decide); have h90 : Int32.toInt 2 = 2 := (by decide); first | assumption | (rw [am_w6]; omega)), rfl, ⟨hP, hD⟩, hS, lv_sub hl [0] rfl⟩
      · obtain rfl : 1 = v_1442 := h9.symm
        have hlh_1497 : Int32.toInt 1 = 1 := by decide
        refine lv_if_eq (tgt := 45) hx hb dX10_readSum_38 (by decide) (fun c9 => absurd c9 (by decide)) (fun _ => ?_)
        refine lv_iconst (v := 1) hx hb dX10_readSum_41 (by decide) ?_
        refine lv_goto (tgt := 59) hx hb dX10_readSum_42 (by decide) ?_
        exact J_59_1455 _ _ _ _ ⟨1, (bw (1) (3) (bkc (x := 1) (c := 1) (by decide)) (by decide)), (by have h90 : Int32.toInt 1 = 1 := (by decide); omega), (by have lm1 : Int32.toInt (-1) = -1 := (by decide); have l91 : Int32.toInt 1 = 1 := (by decide); have l92 : Int32.toInt 2 = 2 := (by decide); have l93 : Int32.toInt 3 = 3 := (by decide); have h90 : Int32.toInt 1 = 1 := (by decide); first | assumption | (rw [am_w6]; omega)), rfl, ⟨hP, hD⟩, hS, lv_sub hl [0] rfl⟩
  · skip
    rcases b01 bv_1421 with h9 | h9
    · obtain rfl : 0 = v_1421 := h9.symm
      have hlh_1498 : Int32.toInt 0 = 0 := by decide
      refine lv_if_ne (tgt := 32) hx hb dX10_readSum_11 (by decide) (fun c9 => absurd (by decide) c9) (fun _ => ?_)
      refine lv_aload_n hx hb dX10_readSum_14 rfl (lv_at hl 0 rfl) ?_
      refine va_ldcS (own := RX10) (tx := "minus") (q := aK 30) hx hb hown (hE.2.1 ("CardBowlModel", 239, "minus", 30) sl_CardBowlModel_239) dX10_readSum_15 ?_
      refine cViSm (As := [.ref (aK 30)]) (rest := []) ⟨hx, hb, hml, hown, hw0⟩ hA hK hP hD hS hE [true, true] (sX10_is l G y aK aV _ ob 30 ob_thrown ob_world ob_images ob_hasImage ob_tape ob_taped ob_five ob_size v_1319 v_1320 v_1321 v_1322 v_1323 v_1324 ob_fresh ob_parts ob_houses ob_houseMany ob_worthOf ob_byCall ob_over ob_bestSet ob_bestOver ob_bestWorth ob_row ob_tenDebts ob_tenMany ob_fewestBy ob_covered ob_queue ob_cameBy ob_parent ob_met ob_calls ob_callMany ob_calledOn ob_saved ob_many ob_width ob_numbers ob_moving fob_tape p_fob_tape p_ob_taped p_ob_size bv_1319 bv_1320 bv_1321 bv_1322 bv_1323 p_ob_houseMany p_ob_bestSet p_ob_bestOver p_ob_tenMany p_ob_callMany (by decide) (by assumption) (by decide +kernel)) rfl ⟨(callB_of 1 hw0 (gA m_530) rfl rfl rfl (hw0 _ m_41) (hw0 _ m_414) cb_X10_is ⟨Nat.le_of_ble_eq_true rfl, Nat.le_of_ble_eq_true rfl⟩), (hw0 _ m_415), (hw0 _ m_416)⟩ (ci := 10) (q := (RX10, TX10, 41)) rfl rfl rfl hl.1 (Nat.le_of_ble_eq_true rfl) dX10_readSum_17 ⟨Nat.le_of_ble_eq_true rfl, Nat.le_of_ble_eq_true rfl⟩ (fun r_1499 w_1499 H locs hw_1499 hP hD hS => ?_)
      obtain ⟨v_1500, bv_1500, h_1501, h_1502, er_1499, rfl⟩ := hw_1499
      subst r_1499
      have hLh_1503 : ((lenS.getD 30 0 : Nat) : Int) = 5 := by decide
      obtain ⟨hP, hD⟩ : vPD G A H [(ce_X10 ob ob_thrown ob_world ob_images ob_hasImage ob_tape ob_taped ob_five ob_size v_1319 v_1320 v_1321 v_1322 v_1323 v_1324 ob_fresh ob_parts ob_houses ob_houseMany ob_worthOf ob_byCall ob_over ob_bestSet ob_bestOver ob_bestWorth ob_row ob_tenDebts ob_tenMany ob_fewestBy ob_covered ob_queue ob_cameBy ob_parent ob_met ob_calls ob_callMany ob_calledOn ob_saved ob_many ob_width ob_numbers ob_moving), (ce_b1400 y ob_tape fob_tape), (ce_i9080 y ob_fresh f_1325)] := ⟨hP, hD⟩
      rcases b01 bv_1500 with h9 | h9
      · obtain rfl : 0 = v_1500 := h9.symm
        have hlh_1504 : Int32.toInt 0 = 0 := by decide
        refine lv_if_ne (tgt := 32) hx hb dX10_readSum_20 (by decide) (fun c9 => absurd (by decide) c9) (fun _ => ?_)
        refine lv_aload_n hx hb dX10_readSum_23 rfl (lv_at hl 0 rfl) ?_
        refine va_ldcS (own := RX10) (tx := "times") (q := aK 31) hx hb hown (hE.2.1 ("CardBowlModel", 241, "times", 31) sl_CardBowlModel_241) dX10_readSum_24 ?_
        refine cViSm (As := [.ref (aK 31)]) (rest := []) ⟨hx, hb, hml, hown, hw0⟩ hA hK hP hD hS hE [true, true] (sX10_is l G y aK aV _ ob 31 ob_thrown ob_world ob_images ob_hasImage ob_tape ob_taped ob_five ob_size v_1319 v_1320 v_1321 v_1322 v_1323 v_1324 ob_fresh ob_parts ob_houses ob_houseMany ob_worthOf ob_byCall ob_over ob_bestSet ob_bestOver ob_bestWorth ob_row ob_tenDebts ob_tenMany ob_fewestBy ob_covered ob_queue ob_cameBy ob_parent ob_met ob_calls ob_callMany ob_calledOn ob_saved ob_many ob_width ob_numbers ob_moving fob_tape p_fob_tape p_ob_taped p_ob_size bv_1319 bv_1320 bv_1321 bv_1322 bv_1323 p_ob_houseMany p_ob_bestSet p_ob_bestOver p_ob_tenMany p_ob_callMany (by decide) (by assumption) (by decide +kernel)) rfl ⟨(callB_of 1 hw0 (gA m_530) rfl rfl rfl (hw0 _ m_41) (hw0 _ m_414) cb_X10_is ⟨Nat.le_of_ble_eq_true rfl, Nat.le_of_ble_eq_true rfl⟩), (hw0 _ m_415), (hw0 _ m_416)⟩ (ci := 10) (q := (RX10, TX10, 41)) rfl rfl rfl hl.1 (Nat.le_of_ble_eq_true rfl) dX10_readSum_26 ⟨Nat.le_of_ble_eq_true rfl, Nat.le_of_ble_eq_true rfl⟩ (fun r_1505 w_1505 H locs hw_1505 hP hD hS => ?_)
        obtain ⟨v_1506, bv_1506, h_1507, h_1508, er_1505, rfl⟩ := hw_1505
        subst r_1505
        have hLh_1509 : ((lenS.getD 31 0 : Nat) : Int) = 5 := by decide
        obtain ⟨hP, hD⟩ : vPD G A H [(ce_X10 ob ob_thrown ob_world ob_images ob_hasImage ob_tape ob_taped ob_five ob_size v_1319 v_1320 v_1321 v_1322 v_1323 v_1324 ob_fresh ob_parts ob_houses ob_houseMany ob_worthOf ob_byCall ob_over ob_bestSet ob_bestOver ob_bestWorth ob_row ob_tenDebts ob_tenMany ob_fewestBy ob_covered ob_queue ob_cameBy ob_parent ob_met ob_calls ob_callMany ob_calledOn ob_saved ob_many ob_width ob_numbers ob_moving), (ce_b1400 y ob_tape fob_tape), (ce_i9080 y ob_fresh f_1325)] := ⟨hP, hD⟩
        rcases b01 bv_1506 with h9 | h9
        · obtain rfl : 0 = v_1506 := h9.symm
          have hlh_1510 : Int32.toInt 0 = 0 := by decide
          refine lv_if_eq (tgt := 72) hx hb dX10_readSum_29 (by decide) (fun _ => ?_) (fun c9 => absurd (by decide) c9)
          exact W.vret hx hb hr (fun t ht hW => ⟨⟨_, rfl, ⟨v_1319, v_1320, v_1321, v_1322, v_1323, v_1324, f_1325, bv_1319, bv_1320, bv_1321, bv_1322, bv_1323, bf_1325, rl1325_0, (by assumption), (by have lm1 : Int32.toInt (-1) = -1 := (by decide); have l91 : Int32.toInt 1 = 1 := (by decide); have l92 : Int32.toInt 2 = 2 := (by decide); have l93 : Int32.toInt 3 = 3 := (by decide); rw [am_w6]; omega), by omega, by omega, by omega, by omega, by omega, by omega, by omega, by omega, by omega, by omega, by omega, rl1325_13, rfl⟩, by rw [ht]; exact hP, hD⟩, hS.F ht⟩) hS.2.2 dX10_readSum_72
        · obtain rfl : 1 = v_1506 := h9.symm
          have hlh_1511 : Int32.toInt 1 = 1 := by decide
          refine lv_if_eq (tgt := 72) hx hb dX10_readSum_29 (by decide) (fun c9 => absurd c9 (by decide)) (fun _ => ?_)
          exact J_32_1440 _ _ _ _ ⟨(by omega), (by have lm1 : Int32.toInt (-1) = -1 := (by decide); have l91 : Int32.toInt 1 = 1 := (by decide); have l92 : Int32.toInt 2 = 2 := (by decide); have l93 : Int32.toInt 3 = 3 := (by decide); first | assumption | (rw [am_w6]; omega)), rfl, ⟨hP, hD⟩, hS, lv_sub hl [0] rfl⟩
      · obtain rfl : 1 = v_1500 := h9.symm
        have hlh_1512 : Int32.toInt 1 = 1 := by decide
        refine lv_if_ne (tgt := 32) hx hb dX10_readSum_20 (by decide) (fun _ => ?_) (fun c9 => absurd c9 (by decide))
        exact J_32_1440 _ _ _ _ ⟨(by omega), (by have lm1 : Int32.toInt (-1) = -1 := (by decide); have l91 : Int32.toInt 1 = 1 := (by decide); have l92 : Int32.toInt 2 = 2 := (by decide); have l93 : Int32.toInt 3 = 3 := (by decide); first | assumption | (rw [am_w6]; omega)), rfl, ⟨hP, hD⟩, hS, lv_sub hl [0] rfl⟩
    · obtain rfl : 1 = v_1421 := h9.symm
      have hlh_1513 : Int32.toInt 1 = 1 := by decide
      refine lv_if_ne (tgt := 32) hx hb dX10_readSum_11 (by decide) (fun _ => ?_) (fun c9 => absurd c9 (by decide))
      exact J_32_1440 _ _ _ _ ⟨(by omega), (by have lm1 : Int32.toInt (-1) = -1 := (by decide); have l91 : Int32.toInt 1 = 1 := (by decide); have l92 : Int32.toInt 2 = 2 := (by decide); have l93 : Int32.toInt 3 = 3 := (by decide); first | assumption | (rw [am_w6]; omega)), rfl, ⟨hP, hD⟩, hS, lv_sub hl [0] rfl⟩

set_option maxHeartbeats 4000000 in
set_option maxRecDepth 100000 in
theorem sX10_readTest (l : Launch) (G : va_G) (y : Nat → ClassId) (aK aV : Nat → Nat) (sz : Nat) (ob : Nat) (ob_thrown : Int32) (ob_world : Nat) (ob_images : Nat) (ob_hasImage : Nat) (ob_tape : Nat) (ob_taped : Int32) (ob_five : Nat) (ob_size : Int32) (ob_at : Int32) (ob_from : Int32) (ob_token : Int32) (ob_value : Int32) (ob_faultKind : Int32) (ob_faultPlace : Int32) (ob_fresh : Nat) (ob_parts : Nat) (ob_houses : Nat) (ob_houseMany : Int32) (ob_worthOf : Nat) (ob_byCall : Nat) (ob_over : Nat) (ob_bestSet : Int32) (ob_bestOver : Int32) (ob_bestWorth : Int32) (ob_row : Nat) (ob_tenDebts : Nat) (ob_tenMany : Int32) (ob_fewestBy : Nat) (ob_covered : Nat) (ob_queue : Nat) (ob_cameBy : Nat) (ob_parent : Nat) (ob_met : Nat) (ob_calls : Nat) (ob_callMany : Int32) (ob_calledOn : Nat) (ob_saved : Nat) (ob_many : Nat) (ob_width : Nat) (ob_numbers : Nat) (ob_moving : Nat) (fob_tape : Nat → Int32) (fob_fresh : Nat → Int32) (p_fob_tape : ∀ i, (-128 : Int) ≤ (fob_tape i).toInt ∧ (fob_tape i).toInt ≤ 127) (p_ob_taped : (0 : Int) ≤ ob_taped.toInt ∧ ob_taped.toInt ≤ 1400) (p_ob_size : (0 : Int) ≤ ob_size.toInt ∧ ob_size.toInt ≤ 1400) (p_ob_at : (0 : Int) ≤ ob_at.toInt ∧ ob_at.toInt ≤ 1400) (p_ob_from : (0 : Int) ≤ ob_from.toInt ∧ ob_from.toInt ≤ 1400) (p_ob_token : (0 : Int) ≤ ob_token.toInt ∧ ob_token.toInt ≤ 4) (p_ob_value : (0 : Int) ≤ ob_value.toInt ∧ ob_value.toInt ≤ 9999) (p_ob_faultKind : (0 : Int) ≤ ob_faultKind.toInt ∧ ob_faultKind.toInt ≤ 3) (p_fob_fresh : RWw fob_fresh) (p_ob_houseMany : (0 : Int) ≤ ob_houseMany.toInt ∧ ob_houseMany.toInt ≤ 10) (p_ob_bestSet : (0 : Int) ≤ ob_bestSet.toInt ∧ ob_bestSet.toInt ≤ 1023) (p_ob_bestOver : (-1 : Int) ≤ ob_bestOver.toInt ∧ ob_bestOver.toInt ≤ 180) (p_ob_tenMany : (0 : Int) ≤ ob_tenMany.toInt ∧ ob_tenMany.toInt ≤ 10) (p_ob_callMany : (0 : Int) ≤ ob_callMany.toInt ∧ ob_callMany.toInt ≤ 16) (hq0 : ob_from.toInt ≤ ob_at.toInt) (hq1 : ob_token.toInt = 0 ∨ ob_from.toInt < ob_at.toInt) (hq2 : qTok fob_tape ob_size.toInt 9999 ob_token.toInt ob_from.toInt ob_at.toInt ob_value.toInt) (hq3 : 4 * (fob_fresh 3).toInt ≤ ob_from.toInt) (hq4 : 2 * (fob_fresh 2).toInt ≤ (fob_fresh 3).toInt) : Met l yX10_readTest (Cond.code yX10_readTest cX10_readTest 4 none :: wAll) ({ frames := 7, cells := 0, slots := 0, locals := 154 }) (va_Pc [.ref ob] (kps G y aK aV sz [(ce_X10 ob ob_thrown ob_world ob_images ob_hasImage ob_tape ob_taped ob_five ob_size ob_at ob_from ob_token ob_value ob_faultKind ob_faultPlace ob_fresh ob_parts ob_houses ob_houseMany ob_worthOf ob_byCall ob_over ob_bestSet ob_bestOver ob_bestWorth ob_row ob_tenDebts ob_tenMany ob_fewestBy ob_covered ob_queue ob_cameBy ob_parent ob_met ob_calls ob_callMany ob_calledOn ob_saved ob_many ob_width ob_numbers ob_moving), (ce_b1400 y ob_tape fob_tape), (ce_i9080 y ob_fresh fob_fresh)])) (va_Qv (fun (w : va_W) => (∃ (v_313 : Int32) (v_314 : Int32) (v_315 : Int32) (v_316 : Int32) (v_317 : Int32) (v_318 : Int32) (f_319 : Nat → Int32), ((0 : Int) ≤ v_313.toInt ∧ v_313.toInt ≤ 1400) ∧ ((0 : Int) ≤ v_314.toInt ∧ v_314.toInt ≤ 1400) ∧ ((0 : Int) ≤ v_315.toInt ∧ v_315.toInt ≤ 4) ∧ ((0 : Int) ≤ v_316.toInt ∧ v_316.toInt ≤ 9999) ∧ ((0 : Int) ≤ v_317.toInt ∧ v_317.toInt ≤ 3) ∧ (RWw f_319) ∧ ((v_317.toInt ≠ 0 ∧ qT fob_tape ob_size.toInt false ((ob_faultKind.toInt, ob_faultPlace.toInt, ob_from.toInt) : Int × Int × Int) = ((v_317.toInt, v_318.toInt, v_314.toInt) : Int × Int × Int)) ∨ (v_317.toInt = 0 ∧ qT fob_tape ob_size.toInt false ((ob_faultKind.toInt, ob_faultPlace.toInt, ob_from.toInt) : Int × Int × Int) = r_tp fob_tape ob_size.toInt (qT fob_tape ob_size.toInt) true ((v_317.toInt, v_318.toInt, v_314.toInt) : Int × Int × Int) ∧ (qam fob_tape ob_size.toInt v_314.toInt 6 < 0 ∨ 2 < qam fob_tape ob_size.toInt v_314.toInt 6))) ∧ (qTok fob_tape ob_size.toInt 9999 v_315.toInt v_314.toInt v_313.toInt v_316.toInt) ∧ (v_314.toInt ≤ v_313.toInt) ∧ (v_315.toInt = 0 ∨ v_314.toInt < v_313.toInt) ∧ (ob_from.toInt ≤ v_314.toInt) ∧ (ob_faultKind.toInt = 0 ∨ ¬ v_317.toInt = 0) ∧ (4 * (f_319 3).toInt ≤ v_314.toInt + 3) ∧ (2 * (f_319 2).toInt ≤ (f_319 3).toInt) ∧ ((f_319 0).toInt = (fob_fresh 0).toInt) ∧ ((f_319 1).toInt = (fob_fresh 1).toInt) ∧ ((fob_fresh 2).toInt ≤ (f_319 2).toInt) ∧ (¬ v_317.toInt = 0 ∨ (ob_faultKind.toInt = 0 ∧ ob_from.toInt + 1 ≤ v_314.toInt)) ∧ (frm 274 fob_fresh f_319) ∧ w = [(ce_X10 ob ob_thrown ob_world ob_images ob_hasImage ob_tape ob_taped ob_five ob_size v_313 v_314 v_315 v_316 v_317 v_318 ob_fresh ob_parts ob_houses ob_houseMany ob_worthOf ob_byCall ob_over ob_bestSet ob_bestOver ob_bestWorth ob_row ob_tenDebts ob_tenMany ob_fewestBy ob_covered ob_queue ob_cameBy ob_parent ob_met ob_calls ob_callMany ob_calledOn ob_saved ob_many ob_width ob_numbers ob_moving), (ce_b1400 y ob_tape fob_tape), (ce_i9080 y ob_fresh f_319)])) (kq G (va_A [(ce_X10 ob ob_thrown ob_world ob_images ob_hasImage ob_tape ob_taped ob_five ob_size ob_at ob_from ob_token ob_value ob_faultKind ob_faultPlace ob_fresh ob_parts ob_houses ob_houseMany ob_worthOf ob_byCall ob_over ob_bestSet ob_bestOver ob_bestWorth ob_row ob_tenDebts ob_tenMany ob_fewestBy ob_covered ob_queue ob_cameBy ob_parent ob_met ob_calls ob_callMany ob_calledOn ob_saved ob_many ob_width ob_numbers ob_moving), (ce_b1400 y ob_tape fob_tape), (ce_i9080 y ob_fresh fob_fresh)] sz)) (va_A [(ce_X10 ob ob_thrown ob_world ob_images ob_hasImage ob_tape ob_taped ob_five ob_size ob_at ob_from ob_token ob_value ob_faultKind ob_faultPlace ob_fresh ob_parts ob_houses ob_houseMany ob_worthOf ob_byCall ob_over ob_bestSet ob_bestOver ob_bestWorth ob_row ob_tenDebts ob_tenMany ob_fewestBy ob_covered ob_queue ob_cameBy ob_parent ob_met ob_calls ob_callMany ob_calledOn ob_saved ob_many ob_width ob_numbers ob_moving), (ce_b1400 y ob_tape fob_tape), (ce_i9080 y ob_fresh fob_fresh)] sz)) 0 0 (va_A [(ce_X10 ob ob_thrown ob_world ob_images ob_hasImage ob_tape ob_taped ob_five ob_size ob_at ob_from ob_token ob_value ob_faultKind ob_faultPlace ob_fresh ob_parts ob_houses ob_houseMany ob_worthOf ob_byCall ob_over ob_bestSet ob_bestOver ob_bestWorth ob_row ob_tenDebts ob_tenMany ob_fewestBy ob_covered ob_queue ob_cameBy ob_parent ob_met ob_calls ob_callMany ob_calledOn ob_saved ob_many ob_width ob_numbers ob_moving), (ce_b1400 y ob_tape fob_tape), (ce_i9080 y ob_fresh fob_fresh)] sz) := by
  refine Met.ofW (cc := cX10_readTest) (maxL := 4) (ret := none) (by decide) rfl ?_
  intro p e s m args below meth c s₁ B hml hv
  obtain ⟨rfl, ⟨hsz, hP, hK, hD0⟩, hE⟩ := hv
  have hx := B.exec
  have hb := B.bytes
  have hr := B.returns
  have hw0 : ∀ w ∈ wAll, w.before _ s = true := fun w h => atoms_spec (ws := Cond.code yX10_readTest cX10_readTest 4 none :: wAll) B.pre w (List.mem_cons_of_mem _ h)
  have hown : s.vm.findClass RX10 = some m.cls := findClass_of_methodNamed B.named
  subst hsz
  have hD := hD0.self (sz := s.heap.size)
  generalize hAe : va_A [(ce_X10 ob ob_thrown ob_world ob_images ob_hasImage ob_tape ob_taped ob_five ob_size ob_at ob_from ob_token ob_value ob_faultKind ob_faultPlace ob_fresh ob_parts ob_houses ob_houseMany ob_worthOf ob_byCall ob_over ob_bestSet ob_bestOver ob_bestWorth ob_row ob_tenDebts ob_tenMany ob_fewestBy ob_covered ob_queue ob_cameBy ob_parent ob_met ob_calls ob_callMany ob_calledOn ob_saved ob_many ob_width ob_numbers ob_moving), (ce_b1400 y ob_tape fob_tape), (ce_i9080 y ob_fresh fob_fresh)] s.heap.size = A at hD hE ⊢
  have hA : ∀ q : Nat, s.heap.size ≤ q → A q := fun q h => by rw [← hAe]; exact Or.inr h
  have hS : va_S A s.heap s.heap [] := va_S.rf
  have hP : va_P G vwCl [(ce_X10 ob ob_thrown ob_world ob_images ob_hasImage ob_tape ob_taped ob_five ob_size ob_at ob_from ob_token ob_value ob_faultKind ob_faultPlace ob_fresh ob_parts ob_houses ob_houseMany ob_worthOf ob_byCall ob_over ob_bestSet ob_bestOver ob_bestWorth ob_row ob_tenDebts ob_tenMany ob_fewestBy ob_covered ob_queue ob_cameBy ob_parent ob_met ob_calls ob_callMany ob_calledOn ob_saved ob_many ob_width ob_numbers ob_moving), (ce_b1400 y ob_tape fob_tape), (ce_i9080 y ob_fresh fob_fresh)] s.heap := hP
  have hl := lv_entry ([.ref ob]) (n := 4) (Nat.le_of_ble_eq_true rfl)
  rw [lg_entry_eq]
  generalize (lg_sl ([.ref ob]) ++ List.replicate (4 - (lg_sl ([.ref ob])).length) Slot.unset).toArray = ls at hl ⊢
  have hl : lv_has ls 4 [(0, .ref ob)] := hl
  refine lv_aload_n hx hb dX10_readTest_0 rfl (lv_at hl 0 rfl) ?_
  refine va_get (D := G) (ci := 10) (v := .ref ob_fresh) (C := RX10) (T := TX10) (N := 41) hx hb hw0 inA_wsX100 hown hK.1 hP 0 rfl rfl 14 (by decide) (hw0 _ m_521) (fun _ h9 => h9) rfl dX10_readTest_1 ?_
  refine lv_iconst (v := 3) hx hb dX10_readTest_4 (by decide) ?_
  refine va_iald hx hb hK.1 hP 2 1 rfl rfl (vi (bkc (x := 3) (c := 3) (by decide)) (by decide)) dX10_readTest_5 ?_
  refine lv_topi (fun v_1001 ev_1001 => ?_)
  have bv_1001 : (0 : Int) ≤ v_1001.toInt ∧ v_1001.toInt ≤ 350 := rdk ev_1001 (p_fob_fresh).1.1 (by decide)
  have yv_1001 : v_1001.toInt = (fob_fresh 3).toInt := congrArg Int32.toInt ev_1001
  refine lv_istore_n (lv' := [(1, .int v_1001), (0, .ref ob)]) hx hb dX10_readTest_6 rfl hl (by decide) rfl (fun ls hl => ?_)
  refine lv_aload_n hx hb dX10_readTest_7 rfl (lv_at hl 1 rfl) ?_
  refine lv_iconst (v := 0) hx hb dX10_readTest_8 (by decide) ?_
  refine cVvSm (As := [.int 0]) (rest := []) ⟨hx, hb, hml, hown, hw0⟩ hA hK hP hD hS hE [true, true, true] (sX10_readSum l G y aK aV _ ob 0 ob_thrown ob_world ob_images ob_hasImage ob_tape ob_taped ob_five ob_size ob_at ob_from ob_token ob_value ob_faultKind ob_faultPlace ob_fresh ob_parts ob_houses ob_houseMany ob_worthOf ob_byCall ob_over ob_bestSet ob_bestOver ob_bestWorth ob_row ob_tenDebts ob_tenMany ob_fewestBy ob_covered ob_queue ob_cameBy ob_parent ob_met ob_calls ob_callMany ob_calledOn ob_saved ob_many ob_width ob_numbers ob_moving fob_tape fob_fresh p_fob_tape p_ob_taped p_ob_size p_ob_at p_ob_from p_ob_token p_ob_value p_ob_faultKind p_fob_fresh p_ob_houseMany p_ob_bestSet p_ob_bestOver p_ob_tenMany p_ob_callMany (bw (0) (4) (bkc (x := 0) (c := 0) (by decide)) (by decide)) (by have h90 : Int32.toInt 0 = 0 := (by decide); omega) (by have h90 : Int32.toInt 0 = 0 := (by decide); omega) (by assumption) (by have h90 : Int32.toInt 0 = 0 := (by decide); omega) (by have h90 : Int32.toInt 0 = 0 := (by decide); omega)) rfl ⟨(callB_of 1 hw0 (gA m_636) rfl rfl rfl (hw0 _ m_41) (hw0 _ m_641) cb_X10_readSum ⟨Nat.le_of_ble_eq_true rfl, Nat.le_of_ble_eq_true rfl⟩), (hw0 _ m_642), (hw0 _ m_643)⟩ (ci := 10) (q := (RX10, TX10, 41)) rfl rfl rfl hl.1 (Nat.le_of_ble_eq_true rfl) dX10_readTest_9 ⟨Nat.le_of_ble_eq_true rfl, Nat.le_of_ble_eq_true rfl⟩ (fun w_1002 H locs hw_1002 hP hD hS => ?_)
  obtain ⟨v_1003, v_1004, v_1005, v_1006, v_1007, v_1008, f_1009, bv_1003, bv_1004, bv_1005, bv_1006, bv_1007, bf_1009, h_1010, h_1011, h_1012, h_1013, h_1014, h_1015, h_1016, h_1017, h_1018, h_1019, h_1020, h_1021, h_1022, h_1023, h_1024, rfl⟩ := hw_1002
  obtain ⟨hP, hD⟩ : vPD G A H [(ce_X10 ob ob_thrown ob_world ob_images ob_hasImage ob_tape ob_taped ob_five ob_size v_1003 v_1004 v_1005 v_1006 v_1007 v_1008 ob_fresh ob_parts ob_houses ob_houseMany ob_worthOf ob_byCall ob_over ob_bestSet ob_bestOver ob_bestWorth ob_row ob_tenDebts ob_tenMany ob_fewestBy ob_covered ob_queue ob_cameBy ob_parent ob_met ob_calls ob_callMany ob_calledOn ob_saved ob_many ob_width ob_numbers ob_moving), (ce_b1400 y ob_tape fob_tape), (ce_i9080 y ob_fresh f_1009)] := ⟨hP, hD⟩
  refine lv_aload_n hx hb dX10_readTest_12 rfl (lv_at hl 1 rfl) ?_
  refine lv_aload_n hx hb dX10_readTest_13 rfl (lv_at hl 1 rfl) ?_
  refine va_ldcS (own := RX10) (tx := "more") (q := aK 32) hx hb hown (hE.2.1 ("CardBowlModel", 246, "more", 32) sl_CardBowlModel_246) dX10_readTest_14 ?_
  refine cViSm (As := [.ref (aK 32)]) (rest := [.ref ob]) ⟨hx, hb, hml, hown, hw0⟩ hA hK hP hD hS hE [true, true] (sX10_is l G y aK aV _ ob 32 ob_thrown ob_world ob_images ob_hasImage ob_tape ob_taped ob_five ob_size v_1003 v_1004 v_1005 v_1006 v_1007 v_1008 ob_fresh ob_parts ob_houses ob_houseMany ob_worthOf ob_byCall ob_over ob_bestSet ob_bestOver ob_bestWorth ob_row ob_tenDebts ob_tenMany ob_fewestBy ob_covered ob_queue ob_cameBy ob_parent ob_met ob_calls ob_callMany ob_calledOn ob_saved ob_many ob_width ob_numbers ob_moving fob_tape p_fob_tape p_ob_taped p_ob_size bv_1003 bv_1004 bv_1005 bv_1006 bv_1007 p_ob_houseMany p_ob_bestSet p_ob_bestOver p_ob_tenMany p_ob_callMany (by decide) (by assumption) (by decide +kernel)) rfl ⟨(callB_of 1 hw0 (gA m_530) rfl rfl rfl (hw0 _ m_41) (hw0 _ m_414) cb_X10_is ⟨Nat.le_of_ble_eq_true rfl, Nat.le_of_ble_eq_true rfl⟩), (hw0 _ m_415), (hw0 _ m_416)⟩ (ci := 10) (q := (RX10, TX10, 41)) rfl rfl rfl hl.1 (Nat.le_of_ble_eq_true rfl) dX10_readTest_16 ⟨Nat.le_of_ble_eq_true rfl, Nat.le_of_ble_eq_true rfl⟩ (fun r_1025 w_1025 H locs hw_1025 hP hD hS => ?_)
  obtain ⟨v_1026, bv_1026, h_1027, h_1028, er_1025, rfl⟩ := hw_1025
  subst r_1025
  have hLh_1029 : ((lenS.getD 32 0 : Nat) : Int) = 4 := by decide
  obtain ⟨hP, hD⟩ : vPD G A H [(ce_X10 ob ob_thrown ob_world ob_images ob_hasImage ob_tape ob_taped ob_five ob_size v_1003 v_1004 v_1005 v_1006 v_1007 v_1008 ob_fresh ob_parts ob_houses ob_houseMany ob_worthOf ob_byCall ob_over ob_bestSet ob_bestOver ob_bestWorth ob_row ob_tenDebts ob_tenMany ob_fewestBy ob_covered ob_queue ob_cameBy ob_parent ob_met ob_calls ob_callMany ob_calledOn ob_saved ob_many ob_width ob_numbers ob_moving), (ce_b1400 y ob_tape fob_tape), (ce_i9080 y ob_fresh f_1009)] := ⟨hP, hD⟩
  refine cutW 53 (fun H locs ls st => ∃ (v_1046 : Int32), ((-1 : Int) ≤ v_1046.toInt ∧ v_1046.toInt ≤ 2) ∧ (v_1046.toInt = -1 ∨ (v_1007.toInt = 0 ∧ v_1005.toInt = 1 ∧ 4 ≤ v_1003.toInt - v_1004.toInt)) ∧ (v_1007.toInt ≠ 0 ∨ (v_1046.toInt = -1 ∧ (qam fob_tape ob_size.toInt v_1004.toInt 6 < 3 ∨ 5 < qam fob_tape ob_size.toInt v_1004.toInt 6)) ∨ (0 ≤ v_1046.toInt ∧ 3 ≤ qam fob_tape ob_size.toInt v_1004.toInt 6 ∧ qam fob_tape ob_size.toInt v_1004.toInt 6 ≤ 5)) ∧ st = [.int v_1046, .ref ob] ∧ vPD G A H [(ce_X10 ob ob_thrown ob_world ob_images ob_hasImage ob_tape ob_taped ob_five ob_size v_1003 v_1004 v_1005 v_1006 v_1007 v_1008 ob_fresh ob_parts ob_houses ob_houseMany ob_worthOf ob_byCall ob_over ob_bestSet ob_bestOver ob_bestWorth ob_row ob_tenDebts ob_tenMany ob_fewestBy ob_covered ob_queue ob_cameBy ob_parent ob_met ob_calls ob_callMany ob_calledOn ob_saved ob_many ob_width ob_numbers ob_moving), (ce_b1400 y ob_tape fob_tape), (ce_i9080 y ob_fresh f_1009)] ∧ va_S A s.heap H locs ∧ lv_has ls 4 [(1, .int v_1001), (0, .ref ob)]) ?_ (fun J_53_1046 => ?_)
  · rintro H locs ls st ⟨v_1046, bv_1046, rl1046_0, rl1046_1, rfl, ⟨hP, hD⟩, hS, hl⟩
    refine cVim (As := [.int v_1046]) (rest := []) ⟨hx, hb, hml, hown, hw0⟩ hA hK hP hD hS [true, true] (sX10_taken l G y _ ob v_1046 ob_thrown ob_world ob_images ob_hasImage ob_tape ob_taped ob_five ob_size v_1003 v_1004 v_1005 v_1006 v_1007 v_1008 ob_fresh ob_parts ob_houses ob_houseMany ob_worthOf ob_byCall ob_over ob_bestSet ob_bestOver ob_bestWorth ob_row ob_tenDebts ob_tenMany ob_fewestBy ob_covered ob_queue ob_cameBy ob_parent ob_met ob_calls ob_callMany ob_calledOn ob_saved ob_many ob_width ob_numbers ob_moving fob_tape p_fob_tape p_ob_taped p_ob_size bv_1003 bv_1004 bv_1005 bv_1006 bv_1007 p_ob_houseMany p_ob_bestSet p_ob_bestOver p_ob_tenMany p_ob_callMany (by omega) (by omega) (by assumption) (by omega)) rfl ⟨(callB_of 1 hw0 (gA m_680) rfl rfl rfl (hw0 _ m_41) (hw0 _ m_614) cb_X10_taken ⟨Nat.le_of_ble_eq_true rfl, Nat.le_of_ble_eq_true rfl⟩), (hw0 _ m_615), (hw0 _ m_616)⟩ (ci := 10) (q := (RX10, TX10, 41)) rfl rfl rfl hl.1 (Nat.le_of_ble_eq_true rfl) dX10_readTest_53 ⟨Nat.le_of_ble_eq_true rfl, Nat.le_of_ble_eq_true rfl⟩ (fun r_1047 w_1047 H locs hw_1047 hP hD hS => ?_)
    obtain ⟨v_1048, v_1049, v_1050, v_1051, v_1052, v_1053, bv_1048, bv_1049, bv_1050, bv_1051, bv_1052, h_1054, h_1055, h_1056, h_1057, h_1058, h_1059, h_1060, h_1061, er_1047, rfl⟩ := hw_1047
    subst r_1047
    obtain ⟨hP, hD⟩ : vPD G A H [(ce_X10 ob ob_thrown ob_world ob_images ob_hasImage ob_tape ob_taped ob_five ob_size v_1048 v_1049 v_1050 v_1051 v_1052 v_1053 ob_fresh ob_parts ob_houses ob_houseMany ob_worthOf ob_byCall ob_over ob_bestSet ob_bestOver ob_bestWorth ob_row ob_tenDebts ob_tenMany ob_fewestBy ob_covered ob_queue ob_cameBy ob_parent ob_met ob_calls ob_callMany ob_calledOn ob_saved ob_many ob_width ob_numbers ob_moving), (ce_b1400 y ob_tape fob_tape), (ce_i9080 y ob_fresh f_1009)] := ⟨hP, hD⟩
    have tnh_1062 := (h_1055).2.2.2.2
    refine lv_istore_n (lv' := [(2, .int v_1046), (1, .int v_1001), (0, .ref ob)]) hx hb dX10_readTest_56 rfl hl (by decide) rfl (fun ls hl => ?_)
    refine lv_aload_n hx hb dX10_readTest_57 rfl (lv_at hl 2 rfl) ?_
    refine cutW 69 (fun H locs ls st => ∃ (v_1089 : Int32) (v_1090 : Int32) (v_1091 : Int32) (v_1092 : Int32) (v_1093 : Int32) (v_1094 : Int32) (f_1095 : Nat → Int32), ((0 : Int) ≤ v_1089.toInt ∧ v_1089.toInt ≤ 1400) ∧ ((0 : Int) ≤ v_1090.toInt ∧ v_1090.toInt ≤ 1400) ∧ ((0 : Int) ≤ v_1091.toInt ∧ v_1091.toInt ≤ 4) ∧ ((0 : Int) ≤ v_1092.toInt ∧ v_1092.toInt ≤ 9999) ∧ ((0 : Int) ≤ v_1093.toInt ∧ v_1093.toInt ≤ 3) ∧ (RWw f_1095) ∧ ((v_1093.toInt ≠ 0 ∧ qT fob_tape ob_size.toInt false ((ob_faultKind.toInt, ob_faultPlace.toInt, ob_from.toInt) : Int × Int × Int) = ((v_1093.toInt, v_1094.toInt, v_1090.toInt) : Int × Int × Int)) ∨ (v_1093.toInt = 0 ∧ qT fob_tape ob_size.toInt false ((ob_faultKind.toInt, ob_faultPlace.toInt, ob_from.toInt) : Int × Int × Int) = r_tp fob_tape ob_size.toInt (qT fob_tape ob_size.toInt) true ((v_1093.toInt, v_1094.toInt, v_1090.toInt) : Int × Int × Int) ∧ (qam fob_tape ob_size.toInt v_1090.toInt 6 < 0 ∨ 2 < qam fob_tape ob_size.toInt v_1090.toInt 6))) ∧ (qTok fob_tape ob_size.toInt 9999 v_1091.toInt v_1090.toInt v_1089.toInt v_1092.toInt) ∧ (v_1090.toInt ≤ v_1089.toInt) ∧ (v_1091.toInt = 0 ∨ v_1090.toInt < v_1089.toInt) ∧ (ob_from.toInt ≤ v_1090.toInt) ∧ (ob_faultKind.toInt = 0 ∨ ¬ v_1093.toInt = 0) ∧ (4 * (f_1095 3).toInt ≤ v_1090.toInt + 3) ∧ (2 * (f_1095 2).toInt ≤ (f_1095 3).toInt) ∧ ((f_1095 0).toInt = (fob_fresh 0).toInt) ∧ ((f_1095 1).toInt = (fob_fresh 1).toInt) ∧ ((f_1095 2).toInt = (fob_fresh 2).toInt) ∧ ((fob_fresh 3).toInt ≤ (f_1095 3).toInt) ∧ (¬ v_1093.toInt = 0 ∨ (ob_faultKind.toInt = 0 ∧ (fob_fresh 3).toInt + 2 ≤ (f_1095 3).toInt ∧ ob_from.toInt + 1 ≤ v_1090.toInt)) ∧ (frm 274 fob_fresh f_1095) ∧ st = [] ∧ vPD G A H [(ce_X10 ob ob_thrown ob_world ob_images ob_hasImage ob_tape ob_taped ob_five ob_size v_1089 v_1090 v_1091 v_1092 v_1093 v_1094 ob_fresh ob_parts ob_houses ob_houseMany ob_worthOf ob_byCall ob_over ob_bestSet ob_bestOver ob_bestWorth ob_row ob_tenDebts ob_tenMany ob_fewestBy ob_covered ob_queue ob_cameBy ob_parent ob_met ob_calls ob_callMany ob_calledOn ob_saved ob_many ob_width ob_numbers ob_moving), (ce_b1400 y ob_tape fob_tape), (ce_i9080 y ob_fresh f_1095)] ∧ va_S A s.heap H locs ∧ lv_has ls 4 [(2, .int v_1046), (1, .int v_1001), (0, .ref ob)]) ?_ (fun J_69_1095 => ?_)
    · rintro H locs ls st ⟨v_1089, v_1090, v_1091, v_1092, v_1093, v_1094, f_1095, bv_1089, bv_1090, bv_1091, bv_1092, bv_1093, bf_1095, rl1095_0, rl1095_1, rl1095_2, rl1095_3, rl1095_4, rl1095_5, rl1095_6, rl1095_7, rl1095_8, rl1095_9, rl1095_10, rl1095_11, rl1095_12, rl1095_13, rfl, ⟨hP, hD⟩, hS, hl⟩
      refine lv_aload_n hx hb dX10_readTest_69 rfl (lv_at hl 2 rfl) ?_
      refine cVim (As := []) (rest := []) ⟨hx, hb, hml, hown, hw0⟩ hA hK hP hD hS [true] (sX10_good l G y _ ob ob_thrown ob_world ob_images ob_hasImage ob_tape ob_taped ob_five ob_size v_1089 v_1090 v_1091 v_1092 v_1093 v_1094 ob_fresh ob_parts ob_houses ob_houseMany ob_worthOf ob_byCall ob_over ob_bestSet ob_bestOver ob_bestWorth ob_row ob_tenDebts ob_tenMany ob_fewestBy ob_covered ob_queue ob_cameBy ob_parent ob_met ob_calls ob_callMany ob_calledOn ob_saved ob_many ob_width ob_numbers ob_moving p_ob_taped p_ob_size bv_1089 bv_1090 bv_1091 bv_1092 bv_1093 p_ob_houseMany p_ob_bestSet p_ob_bestOver p_ob_tenMany p_ob_callMany) rfl ⟨(callB_of 0 hw0 (gA m_510) rfl rfl rfl (hw0 _ m_41) (hw0 _ m_453) cb_X10_good ⟨Nat.le_of_ble_eq_true rfl, Nat.le_of_ble_eq_true rfl⟩), (hw0 _ m_454), (hw0 _ m_455)⟩ (ci := 10) (q := (RX10, TX10, 41)) rfl rfl rfl hl.1 (Nat.le_of_ble_eq_true rfl) dX10_readTest_70 ⟨Nat.le_of_ble_eq_true rfl, Nat.le_of_ble_eq_true rfl⟩ (fun r_1096 w_1096 H locs hw_1096 hP hD hS => ?_)
      rcases hw_1096 with ⟨h_1097, rfl, rfl⟩ | ⟨h_1098, rfl, rfl⟩
      · skip
        obtain ⟨hP, hD⟩ : vPD G A H [(ce_X10 ob ob_thrown ob_world ob_images ob_hasImage ob_tape ob_taped ob_five ob_size v_1089 v_1090 v_1091 v_1092 v_1093 v_1094 ob_fresh ob_parts ob_houses ob_houseMany ob_worthOf ob_byCall ob_over ob_bestSet ob_bestOver ob_bestWorth ob_row ob_tenDebts ob_tenMany ob_fewestBy ob_covered ob_queue ob_cameBy ob_parent ob_met ob_calls ob_callMany ob_calledOn ob_saved ob_many ob_width ob_numbers ob_moving), (ce_b1400 y ob_tape fob_tape), (ce_i9080 y ob_fresh f_1095)] := ⟨hP, hD⟩
        refine lv_if_ne (tgt := 77) hx hb dX10_readTest_73 (by decide) (fun c9 => absurd (by decide) c9) (fun _ => ?_)
        exact W.vret hx hb hr (fun t ht hW => ⟨⟨_, rfl, ⟨v_1089, v_1090, v_1091, v_1092, v_1093, v_1094, f_1095, bv_1089, bv_1090, bv_1091, bv_1092, (bw (0) (3) h_1097 (by decide)), bf_1095, rl1095_0, (by assumption), by omega, by omega, by omega, by omega, by omega, by omega, by omega, by omega, by omega, by omega, rl1095_13, rfl⟩, by rw [ht]; exact hP, hD⟩, hS.F ht⟩) hS.2.2 dX10_readTest_76
      · skip
        obtain ⟨hP, hD⟩ : vPD G A H [(ce_X10 ob ob_thrown ob_world ob_images ob_hasImage ob_tape ob_taped ob_five ob_size v_1089 v_1090 v_1091 v_1092 v_1093 v_1094 ob_fresh ob_parts ob_houses ob_houseMany ob_worthOf ob_byCall ob_over ob_bestSet ob_bestOver ob_bestWorth ob_row ob_tenDebts ob_tenMany ob_fewestBy ob_covered ob_queue ob_cameBy ob_parent ob_met ob_calls ob_callMany ob_calledOn ob_saved ob_many ob_width ob_numbers ob_moving), (ce_b1400 y ob_tape fob_tape), (ce_i9080 y ob_fresh f_1095)] := ⟨hP, hD⟩
        refine lv_if_ne (tgt := 77) hx hb dX10_readTest_73 (by decide) (fun _ => ?_) (fun c9 => absurd c9 (by decide))
        refine lv_sipush (v := 274) hx hb dX10_readTest_77 (by decide) ?_
        refine lv_iconst (v := 3) hx hb dX10_readTest_80 (by decide) ?_
        refine lv_aload_n hx hb dX10_readTest_81 rfl (lv_at hl 2 rfl) ?_
        refine va_get (D := G) (ci := 10) (v := .ref ob_fresh) (C := RX10) (T := TX10) (N := 41) hx hb hw0 inA_wsX100 hown hK.1 hP 0 rfl rfl 14 (by decide) (hw0 _ m_521) (fun _ h9 => h9) rfl dX10_readTest_82 ?_
        refine lv_iconst (v := 2) hx hb dX10_readTest_85 (by decide) ?_
        refine va_iald hx hb hK.1 hP 2 1 rfl rfl (vi (bkc (x := 2) (c := 2) (by decide)) (by decide)) dX10_readTest_86 ?_
        refine lv_topi (fun v_1099 ev_1099 => ?_)
        have bv_1099 : (0 : Int) ≤ v_1099.toInt ∧ v_1099.toInt ≤ 180 := rdk ev_1099 (bf_1095).1.1 (by decide)
        have yv_1099 : v_1099.toInt = (f_1095 2).toInt := congrArg Int32.toInt ev_1099
        have h_1100 : (0 : Int) ≤ v_1099.toInt ∧ v_1099.toInt ≤ 174 := by omega
        refine lv_imul hx hb dX10_readTest_87 ?_
        refine lv_topi (fun v_1101 ev_1101 => ?_)
        have qv_1101 := ba_mul 3 (ev_1101.trans (Int32.mul_comm _ _)) h_1100 (by decide) (by decide) (by decide)
        have bv_1101 : (0 : Int) ≤ v_1101.toInt ∧ v_1101.toInt ≤ 522 := qv_1101.2
        refine lv_iadd hx hb dX10_readTest_88 ?_
        refine lv_topi (fun v_1102 ev_1102 => ?_)
        have qv_1102 := ba_add ev_1102 (bkc (x := 274) (c := 274) (by decide)) bv_1101 (by decide)
        have bv_1102 : (274 : Int) ≤ v_1102.toInt ∧ v_1102.toInt ≤ 796 := bq_add qv_1102 (bkc (x := 274) (c := 274) (by decide)) bv_1101 _ _ (by decide)
        have qv_1102 : v_1102.toInt = (274) + v_1101.toInt := qv_1102
        refine lv_istore_n (lv' := [(3, .int v_1102), (2, .int v_1046), (1, .int v_1001), (0, .ref ob)]) hx hb dX10_readTest_89 rfl hl (by decide) rfl (fun ls hl => ?_)
        refine lv_aload_n hx hb dX10_readTest_90 rfl (lv_at hl 3 rfl) ?_
        refine va_get (D := G) (ci := 10) (v := .ref ob_fresh) (C := RX10) (T := TX10) (N := 41) hx hb hw0 inA_wsX100 hown hK.1 hP 0 rfl rfl 14 (by decide) (hw0 _ m_521) (fun _ h9 => h9) rfl dX10_readTest_91 ?_
        refine lv_iload_n hx hb dX10_readTest_94 rfl (lv_at hl 0 rfl) ?_
        refine lv_iload_n hx hb dX10_readTest_95 rfl (lv_at hl 1 rfl) ?_
        refine va_iast hx hb hK.1 hP hD hS 2 1 rfl rfl (vi bv_1102 (by decide)) dX10_readTest_96 (fun H locs hP hD hS => ?_)
        generalize hf_1103 : (upd f_1095 (v_1102 : Int32).toNatClampNeg v_1046) = f_1103 at hP hD
        have zf_1103_0 : (f_1103 0).toInt = (f_1095 0).toInt := hf_1103 ▸ pin_ne (ix_not bv_1102 (by decide))
        have zf_1103_1 : (f_1103 1).toInt = (f_1095 1).toInt := hf_1103 ▸ pin_ne (ix_not bv_1102 (by decide))
        have zf_1103_2 : (f_1103 2).toInt = (f_1095 2).toInt := hf_1103 ▸ pin_ne (ix_not bv_1102 (by decide))
        have zf_1103_3 : (f_1103 3).toInt = (f_1095 3).toInt := hf_1103 ▸ pin_ne (ix_not bv_1102 (by decide))
        have bf_1103 : RBw f_1103 := hf_1103 ▸ upw (bf_1095).1.1 pl_98 (by omega) (h_1100) bv_1046
        have cf_1103 : RVw f_1103 := hf_1103 ▸ RV_up (bf_1095).1 (hf_1103 ▸ bf_1103) (ix_out bv_1102 (by decide))
        have df_1103 : RWw f_1103 := ⟨cf_1103, hf_1103 ▸ WQ_t (bf_1095).1.1 (bf_1095).2 (by have h9 := cl_to (x := v_1102) (by omega); omega)⟩
        obtain ⟨hP, hD⟩ : vPD G A H [(ce_X10 ob ob_thrown ob_world ob_images ob_hasImage ob_tape ob_taped ob_five ob_size v_1089 v_1090 v_1091 v_1092 v_1093 v_1094 ob_fresh ob_parts ob_houses ob_houseMany ob_worthOf ob_byCall ob_over ob_bestSet ob_bestOver ob_bestWorth ob_row ob_tenDebts ob_tenMany ob_fewestBy ob_covered ob_queue ob_cameBy ob_parent ob_met ob_calls ob_callMany ob_calledOn ob_saved ob_many ob_width ob_numbers ob_moving), (ce_b1400 y ob_tape fob_tape), (ce_i9080 y ob_fresh f_1103)] := ⟨hP, hD⟩
        refine lv_aload_n hx hb dX10_readTest_97 rfl (lv_at hl 3 rfl) ?_
        refine va_get (D := G) (ci := 10) (v := .ref ob_fresh) (C := RX10) (T := TX10) (N := 41) hx hb hw0 inA_wsX100 hown hK.1 hP 0 rfl rfl 14 (by decide) (hw0 _ m_521) (fun _ h9 => h9) rfl dX10_readTest_98 ?_
        refine lv_iload_n hx hb dX10_readTest_101 rfl (lv_at hl 0 rfl) ?_
        refine lv_iconst (v := 1) hx hb dX10_readTest_102 (by decide) ?_
        refine lv_iadd hx hb dX10_readTest_103 ?_
        refine lv_topi (fun v_1104 ev_1104 => ?_)
        have qv_1104 := ba_add ev_1104 bv_1102 (bkc (x := 1) (c := 1) (by decide)) (by decide)
        have bv_1104 : (275 : Int) ≤ v_1104.toInt ∧ v_1104.toInt ≤ 797 := bq_add qv_1104 bv_1102 (bkc (x := 1) (c := 1) (by decide)) _ _ (by decide)
        have qv_1104 : v_1104.toInt = v_1102.toInt + (1) := qv_1104
        refine lv_iload_n hx hb dX10_readTest_104 rfl (lv_at hl 2 rfl) ?_
        refine va_iast hx hb hK.1 hP hD hS 2 1 rfl rfl (vi bv_1104 (by decide)) dX10_readTest_105 (fun H locs hP hD hS => ?_)
        generalize hf_1105 : (upd f_1103 (v_1104 : Int32).toNatClampNeg v_1001) = f_1105 at hP hD
        have zf_1105_0 : (f_1105 0).toInt = (f_1103 0).toInt := hf_1105 ▸ pin_ne (ix_not bv_1104 (by decide))
        have zf_1105_1 : (f_1105 1).toInt = (f_1103 1).toInt := hf_1105 ▸ pin_ne (ix_not bv_1104 (by decide))
        have zf_1105_2 : (f_1105 2).toInt = (f_1103 2).toInt := hf_1105 ▸ pin_ne (ix_not bv_1104 (by decide))
        have zf_1105_3 : (f_1105 3).toInt = (f_1103 3).toInt := hf_1105 ▸ pin_ne (ix_not bv_1104 (by decide))
        have bf_1105 : RBw f_1105 := hf_1105 ▸ upw (df_1103).1.1 pl_99 (by omega) (h_1100) bv_1001
        have cf_1105 : RVw f_1105 := hf_1105 ▸ RV_up (df_1103).1 (hf_1105 ▸ bf_1105) (ix_out bv_1104 (by decide))
        have df_1105 : RWw f_1105 := ⟨cf_1105, hf_1105 ▸ WQ_t (df_1103).1.1 (df_1103).2 (by have h9 := cl_to (x := v_1104) (by omega); omega)⟩
        obtain ⟨hP, hD⟩ : vPD G A H [(ce_X10 ob ob_thrown ob_world ob_images ob_hasImage ob_tape ob_taped ob_five ob_size v_1089 v_1090 v_1091 v_1092 v_1093 v_1094 ob_fresh ob_parts ob_houses ob_houseMany ob_worthOf ob_byCall ob_over ob_bestSet ob_bestOver ob_bestWorth ob_row ob_tenDebts ob_tenMany ob_fewestBy ob_covered ob_queue ob_cameBy ob_parent ob_met ob_calls ob_callMany ob_calledOn ob_saved ob_many ob_width ob_numbers ob_moving), (ce_b1400 y ob_tape fob_tape), (ce_i9080 y ob_fresh f_1105)] := ⟨hP, hD⟩
        refine lv_aload_n hx hb dX10_readTest_106 rfl (lv_at hl 3 rfl) ?_
        refine va_get (D := G) (ci := 10) (v := .ref ob_fresh) (C := RX10) (T := TX10) (N := 41) hx hb hw0 inA_wsX100 hown hK.1 hP 0 rfl rfl 14 (by decide) (hw0 _ m_521) (fun _ h9 => h9) rfl dX10_readTest_107 ?_
        refine lv_iload_n hx hb dX10_readTest_110 rfl (lv_at hl 0 rfl) ?_
        refine lv_iconst (v := 2) hx hb dX10_readTest_111 (by decide) ?_
        refine lv_iadd hx hb dX10_readTest_112 ?_
        refine lv_topi (fun v_1106 ev_1106 => ?_)
        have qv_1106 := ba_add ev_1106 bv_1102 (bkc (x := 2) (c := 2) (by decide)) (by decide)
        have bv_1106 : (276 : Int) ≤ v_1106.toInt ∧ v_1106.toInt ≤ 798 := bq_add qv_1106 bv_1102 (bkc (x := 2) (c := 2) (by decide)) _ _ (by decide)
        have qv_1106 : v_1106.toInt = v_1102.toInt + (2) := qv_1106
        refine lv_aload_n hx hb dX10_readTest_113 rfl (lv_at hl 3 rfl) ?_
        refine va_get (D := G) (ci := 10) (v := .ref ob_fresh) (C := RX10) (T := TX10) (N := 41) hx hb hw0 inA_wsX100 hown hK.1 hP 0 rfl rfl 14 (by decide) (hw0 _ m_521) (fun _ h9 => h9) rfl dX10_readTest_114 ?_
        refine lv_iconst (v := 3) hx hb dX10_readTest_117 (by decide) ?_
        refine va_iald hx hb hK.1 hP 2 1 rfl rfl (vi (bkc (x := 3) (c := 3) (by decide)) (by decide)) dX10_readTest_118 ?_
        refine lv_topi (fun v_1107 ev_1107 => ?_)
        have bv_1107 : (0 : Int) ≤ v_1107.toInt ∧ v_1107.toInt ≤ 350 := rdk ev_1107 (df_1105).1.1 (by decide)
        have yv_1107 : v_1107.toInt = (f_1105 3).toInt := congrArg Int32.toInt ev_1107
        refine lv_iload_n hx hb dX10_readTest_119 rfl (lv_at hl 2 rfl) ?_
        refine lv_isub hx hb dX10_readTest_120 ?_
        refine lv_topi (fun v_1108 ev_1108 => ?_)
        have qv_1108 := ba_sub ev_1108 bv_1107 bv_1001 (by decide)
        have bv_1108 : (-350 : Int) ≤ v_1108.toInt ∧ v_1108.toInt ≤ 350 := bq_sub qv_1108 bv_1107 bv_1001 _ _ (by decide)
        have h_1109 : (0 : Int) ≤ v_1108.toInt ∧ v_1108.toInt ≤ 350 := by omega
        refine va_iast hx hb hK.1 hP hD hS 2 1 rfl rfl (vi bv_1106 (by decide)) dX10_readTest_121 (fun H locs hP hD hS => ?_)
        generalize hf_1110 : (upd f_1105 (v_1106 : Int32).toNatClampNeg v_1108) = f_1110 at hP hD
        have zf_1110_0 : (f_1110 0).toInt = (f_1105 0).toInt := hf_1110 ▸ pin_ne (ix_not bv_1106 (by decide))
        have zf_1110_1 : (f_1110 1).toInt = (f_1105 1).toInt := hf_1110 ▸ pin_ne (ix_not bv_1106 (by decide))
        have zf_1110_2 : (f_1110 2).toInt = (f_1105 2).toInt := hf_1110 ▸ pin_ne (ix_not bv_1106 (by decide))
        have zf_1110_3 : (f_1110 3).toInt = (f_1105 3).toInt := hf_1110 ▸ pin_ne (ix_not bv_1106 (by decide))
        have bf_1110 : RBw f_1110 := hf_1110 ▸ upw (df_1105).1.1 pl_100 (by omega) (h_1100) h_1109
        have cf_1110 : RVw f_1110 := hf_1110 ▸ RV_up (df_1105).1 (hf_1110 ▸ bf_1110) (ix_out bv_1106 (by decide))
        have df_1110 : RWw f_1110 := ⟨cf_1110, hf_1110 ▸ WQ_t (df_1105).1.1 (df_1105).2 (by have h9 := cl_to (x := v_1106) (by omega); omega)⟩
        obtain ⟨hP, hD⟩ : vPD G A H [(ce_X10 ob ob_thrown ob_world ob_images ob_hasImage ob_tape ob_taped ob_five ob_size v_1089 v_1090 v_1091 v_1092 v_1093 v_1094 ob_fresh ob_parts ob_houses ob_houseMany ob_worthOf ob_byCall ob_over ob_bestSet ob_bestOver ob_bestWorth ob_row ob_tenDebts ob_tenMany ob_fewestBy ob_covered ob_queue ob_cameBy ob_parent ob_met ob_calls ob_callMany ob_calledOn ob_saved ob_many ob_width ob_numbers ob_moving), (ce_b1400 y ob_tape fob_tape), (ce_i9080 y ob_fresh f_1110)] := ⟨hP, hD⟩
        refine lv_aload_n hx hb dX10_readTest_122 rfl (lv_at hl 3 rfl) ?_
        refine va_get (D := G) (ci := 10) (v := .ref ob_fresh) (C := RX10) (T := TX10) (N := 41) hx hb hw0 inA_wsX100 hown hK.1 hP 0 rfl rfl 14 (by decide) (hw0 _ m_521) (fun _ h9 => h9) rfl dX10_readTest_123 ?_
        refine lv_iconst (v := 2) hx hb dX10_readTest_126 (by decide) ?_
        refine lv_dup2_11 hx hb dX10_readTest_127 rfl rfl ?_
        refine va_iald hx hb hK.1 hP 2 1 rfl rfl (vi (bkc (x := 2) (c := 2) (by decide)) (by decide)) dX10_readTest_128 ?_
        refine lv_topi (fun v_1111 ev_1111 => ?_)
        have bv_1111 : (0 : Int) ≤ v_1111.toInt ∧ v_1111.toInt ≤ 180 := rdk ev_1111 (df_1110).1.1 (by decide)
        have yv_1111 : v_1111.toInt = (f_1110 2).toInt := congrArg Int32.toInt ev_1111
        refine lv_iconst (v := 1) hx hb dX10_readTest_129 (by decide) ?_
        refine lv_iadd hx hb dX10_readTest_130 ?_
        refine lv_topi (fun v_1112 ev_1112 => ?_)
        have qv_1112 := ba_add ev_1112 bv_1111 (bkc (x := 1) (c := 1) (by decide)) (by decide)
        have bv_1112 : (1 : Int) ≤ v_1112.toInt ∧ v_1112.toInt ≤ 181 := bq_add qv_1112 bv_1111 (bkc (x := 1) (c := 1) (by decide)) _ _ (by decide)
        have qv_1112 : v_1112.toInt = v_1111.toInt + (1) := qv_1112
        have h_1113 : (0 : Int) ≤ v_1112.toInt ∧ v_1112.toInt ≤ 180 := by omega
        refine va_iast hx hb hK.1 hP hD hS 2 1 rfl rfl (vi (bkc (x := 2) (c := 2) (by decide)) (by decide)) dX10_readTest_131 (fun H locs hP hD hS => ?_)
        generalize hf_1114 : (upd f_1110 (2 : Int32).toNatClampNeg v_1112) = f_1114 at hP hD
        have zf_1114_0 : (f_1114 0).toInt = (f_1110 0).toInt := hf_1114 ▸ pin_ne (ix_not (bkc (x := 2) (c := 2) (by decide)) (by decide))
        have zf_1114_1 : (f_1114 1).toInt = (f_1110 1).toInt := hf_1114 ▸ pin_ne (ix_not (bkc (x := 2) (c := 2) (by decide)) (by decide))
        have zf_1114_2 : (f_1114 2).toInt = (v_1112 : Int32).toInt := hf_1114 ▸ pin_eq (by decide)
        have zf_1114_3 : (f_1114 3).toInt = (f_1110 3).toInt := hf_1114 ▸ pin_ne (ix_not (bkc (x := 2) (c := 2) (by decide)) (by decide))
        have bf_1114 : RBw f_1114 := hf_1114 ▸ upk (df_1110).1.1 h_1113 (by decide)
        have cf_1114 : RVw f_1114 := hf_1114 ▸ RV_up (df_1110).1 (hf_1114 ▸ bf_1114) (ix_out (bkc (x := 2) (c := 2) (by decide)) (by decide))
        have df_1114 : RWw f_1114 := ⟨cf_1114, hf_1114 ▸ WQ_s2 (by decide) (df_1110).1.1 (df_1110).2 (by omega) (by have h9 := cl_to (x := v_1106) (by omega); have h8 := cl_to (x := v_1104) (by omega); have h7 := upd_i (j := 276 + 3 * (f_1110 2).toInt.toNat) hf_1110 (by omega); have h6 := upd_o (j := 275 + 3 * (f_1110 2).toInt.toNat) hf_1110 (by omega); have h5 := upd_i (j := 275 + 3 * (f_1110 2).toInt.toNat) hf_1105 (by omega); omega)⟩
        obtain ⟨hP, hD⟩ : vPD G A H [(ce_X10 ob ob_thrown ob_world ob_images ob_hasImage ob_tape ob_taped ob_five ob_size v_1089 v_1090 v_1091 v_1092 v_1093 v_1094 ob_fresh ob_parts ob_houses ob_houseMany ob_worthOf ob_byCall ob_over ob_bestSet ob_bestOver ob_bestWorth ob_row ob_tenDebts ob_tenMany ob_fewestBy ob_covered ob_queue ob_cameBy ob_parent ob_met ob_calls ob_callMany ob_calledOn ob_saved ob_many ob_width ob_numbers ob_moving), (ce_b1400 y ob_tape fob_tape), (ce_i9080 y ob_fresh f_1114)] := ⟨hP, hD⟩
        exact W.vret hx hb hr (fun t ht hW => ⟨⟨_, rfl, ⟨v_1089, v_1090, v_1091, v_1092, v_1093, v_1094, f_1114, bv_1089, bv_1090, bv_1091, bv_1092, (bw (0) (3) h_1098 (by decide)), df_1114, rl1095_0, (by assumption), by omega, by omega, by omega, by omega, by omega, by omega, by omega, by omega, by omega, by omega, (frm_u (frm_u (frm_u (frm_u rl1095_13 hf_1103 (ix_frm bv_1102 (by decide))) hf_1105 (ix_frm bv_1104 (by decide))) hf_1110 (ix_frm bv_1106 (by decide))) hf_1114 (ix_frm (bkc (x := 2) (c := 2) (by decide)) (by decide))), rfl⟩, by rw [ht]; exact hP, hD⟩, hS.F ht⟩) hS.2.2 dX10_readTest_132
    · skip
      refine cVim (As := []) (rest := []) ⟨hx, hb, hml, hown, hw0⟩ hA hK hP hD hS [true] (sX10_good l G y _ ob ob_thrown ob_world ob_images ob_hasImage ob_tape ob_taped ob_five ob_size v_1048 v_1049 v_1050 v_1051 v_1052 v_1053 ob_fresh ob_parts ob_houses ob_houseMany ob_worthOf ob_byCall ob_over ob_bestSet ob_bestOver ob_bestWorth ob_row ob_tenDebts ob_tenMany ob_fewestBy ob_covered ob_queue ob_cameBy ob_parent ob_met ob_calls ob_callMany ob_calledOn ob_saved ob_many ob_width ob_numbers ob_moving p_ob_taped p_ob_size bv_1048 bv_1049 bv_1050 bv_1051 bv_1052 p_ob_houseMany p_ob_bestSet p_ob_bestOver p_ob_tenMany p_ob_callMany) rfl ⟨(callB_of 0 hw0 (gA m_510) rfl rfl rfl (hw0 _ m_41) (hw0 _ m_453) cb_X10_good ⟨Nat.le_of_ble_eq_true rfl, Nat.le_of_ble_eq_true rfl⟩), (hw0 _ m_454), (hw0 _ m_455)⟩ (ci := 10) (q := (RX10, TX10, 41)) rfl rfl rfl hl.1 (Nat.le_of_ble_eq_true rfl) dX10_readTest_58 ⟨Nat.le_of_ble_eq_true rfl, Nat.le_of_ble_eq_true rfl⟩ (fun r_1115 w_1115 H locs hw_1115 hP hD hS => ?_)
      rcases hw_1115 with ⟨h_1116, rfl, rfl⟩ | ⟨h_1117, rfl, rfl⟩
      · skip
        obtain ⟨hP, hD⟩ : vPD G A H [(ce_X10 ob ob_thrown ob_world ob_images ob_hasImage ob_tape ob_taped ob_five ob_size v_1048 v_1049 v_1050 v_1051 v_1052 v_1053 ob_fresh ob_parts ob_houses ob_houseMany ob_worthOf ob_byCall ob_over ob_bestSet ob_bestOver ob_bestWorth ob_row ob_tenDebts ob_tenMany ob_fewestBy ob_covered ob_queue ob_cameBy ob_parent ob_met ob_calls ob_callMany ob_calledOn ob_saved ob_many ob_width ob_numbers ob_moving), (ce_b1400 y ob_tape fob_tape), (ce_i9080 y ob_fresh f_1009)] := ⟨hP, hD⟩
        refine lv_if_eq (tgt := 69) hx hb dX10_readTest_61 (by decide) (fun _ => ?_) (fun c9 => absurd (by decide) c9)
        exact J_69_1095 _ _ _ _ ⟨v_1048, v_1049, v_1050, v_1051, v_1052, v_1053, f_1009, bv_1048, bv_1049, bv_1050, bv_1051, (bw (0) (3) h_1116 (by decide)), bf_1009, (by have lm1 : Int32.toInt (-1) = -1 := (by decide); have l91 : Int32.toInt 1 = 1 := (by decide); have l92 : Int32.toInt 2 = 2 := (by decide); have l93 : Int32.toInt 3 = 3 := (by decide); refine Or.inl ⟨by omega, ((T_tp hq2.2.2.2.2).trans (h_1010 false)).trans ?_⟩; by_cases h9 : v_1007.toInt = 0; exact (tp_no1 (by omega) (by omega)).trans ((ch_neg (by omega) (by omega)).symm.trans h_1054.symm); exact (tp_f (by omega)).trans ((ch_id (by omega)).symm.trans h_1054.symm)), (by assumption), (by omega), (by omega), (by omega), (by omega), (by omega), (by omega), (by omega), (by omega), (by omega), (by omega), (by omega), h_1024, rfl, ⟨hP, hD⟩, hS, lv_sub hl [0, 1, 2] rfl⟩
      · skip
        obtain ⟨hP, hD⟩ : vPD G A H [(ce_X10 ob ob_thrown ob_world ob_images ob_hasImage ob_tape ob_taped ob_five ob_size v_1048 v_1049 v_1050 v_1051 v_1052 v_1053 ob_fresh ob_parts ob_houses ob_houseMany ob_worthOf ob_byCall ob_over ob_bestSet ob_bestOver ob_bestWorth ob_row ob_tenDebts ob_tenMany ob_fewestBy ob_covered ob_queue ob_cameBy ob_parent ob_met ob_calls ob_callMany ob_calledOn ob_saved ob_many ob_width ob_numbers ob_moving), (ce_b1400 y ob_tape fob_tape), (ce_i9080 y ob_fresh f_1009)] := ⟨hP, hD⟩
        refine lv_if_eq (tgt := 69) hx hb dX10_readTest_61 (by decide) (fun c9 => absurd c9 (by decide)) (fun _ => ?_)
        refine lv_aload_n hx hb dX10_readTest_64 rfl (lv_at hl 2 rfl) ?_
        refine lv_iconst (v := 4) hx hb dX10_readTest_65 (by decide) ?_
        refine cVvSm (As := [.int 4]) (rest := []) ⟨hx, hb, hml, hown, hw0⟩ hA hK hP hD hS hE [true, true, true] (sX10_readSum l G y aK aV _ ob 4 ob_thrown ob_world ob_images ob_hasImage ob_tape ob_taped ob_five ob_size v_1048 v_1049 v_1050 v_1051 v_1052 v_1053 ob_fresh ob_parts ob_houses ob_houseMany ob_worthOf ob_byCall ob_over ob_bestSet ob_bestOver ob_bestWorth ob_row ob_tenDebts ob_tenMany ob_fewestBy ob_covered ob_queue ob_cameBy ob_parent ob_met ob_calls ob_callMany ob_calledOn ob_saved ob_many ob_width ob_numbers ob_moving fob_tape f_1009 p_fob_tape p_ob_taped p_ob_size bv_1048 bv_1049 bv_1050 bv_1051 (bw (0) (3) h_1117 (by decide)) bf_1009 p_ob_houseMany p_ob_bestSet p_ob_bestOver p_ob_tenMany p_ob_callMany (bw (0) (4) (bkc (x := 4) (c := 4) (by decide)) (by decide)) (by have h90 : Int32.toInt 4 = 4 := (by decide); omega) (by have h90 : Int32.toInt 4 = 4 := (by decide); omega) (by assumption) (by have h90 : Int32.toInt 4 = 4 := (by decide); omega) (by have h90 : Int32.toInt 4 = 4 := (by decide); omega)) rfl ⟨(callB_of 1 hw0 (gA m_636) rfl rfl rfl (hw0 _ m_41) (hw0 _ m_641) cb_X10_readSum ⟨Nat.le_of_ble_eq_true rfl, Nat.le_of_ble_eq_true rfl⟩), (hw0 _ m_642), (hw0 _ m_643)⟩ (ci := 10) (q := (RX10, TX10, 41)) rfl rfl rfl hl.1 (Nat.le_of_ble_eq_true rfl) dX10_readTest_66 ⟨Nat.le_of_ble_eq_true rfl, Nat.le_of_ble_eq_true rfl⟩ (fun w_1118 H locs hw_1118 hP hD hS => ?_)
        obtain ⟨v_1119, v_1120, v_1121, v_1122, v_1123, v_1124, f_1125, bv_1119, bv_1120, bv_1121, bv_1122, bv_1123, bf_1125, h_1126, h_1127, h_1128, h_1129, h_1130, h_1131, h_1132, h_1133, h_1134, h_1135, h_1136, h_1137, h_1138, h_1139, h_1140, rfl⟩ := hw_1118
        obtain ⟨hP, hD⟩ : vPD G A H [(ce_X10 ob ob_thrown ob_world ob_images ob_hasImage ob_tape ob_taped ob_five ob_size v_1119 v_1120 v_1121 v_1122 v_1123 v_1124 ob_fresh ob_parts ob_houses ob_houseMany ob_worthOf ob_byCall ob_over ob_bestSet ob_bestOver ob_bestWorth ob_row ob_tenDebts ob_tenMany ob_fewestBy ob_covered ob_queue ob_cameBy ob_parent ob_met ob_calls ob_callMany ob_calledOn ob_saved ob_many ob_width ob_numbers ob_moving), (ce_b1400 y ob_tape fob_tape), (ce_i9080 y ob_fresh f_1125)] := ⟨hP, hD⟩
        exact J_69_1095 _ _ _ _ ⟨v_1119, v_1120, v_1121, v_1122, v_1123, v_1124, f_1125, bv_1119, bv_1120, bv_1121, bv_1122, bv_1123, bf_1125, (by have lm1 : Int32.toInt (-1) = -1 := (by decide); have l91 : Int32.toInt 1 = 1 := (by decide); have l92 : Int32.toInt 2 = 2 := (by decide); have l93 : Int32.toInt 3 = 3 := (by decide); by_cases h9 : v_1123.toInt = 0; exact Or.inr ⟨h9, ((T_tp hq2.2.2.2.2).trans (h_1010 false)).trans (tp_si (by omega) ⟨by omega, by omega⟩ (h_1054.trans (ch_pos (by omega) (by omega))) (by omega) (h_1126 true)), by omega⟩; exact Or.inl ⟨h9, (((T_tp hq2.2.2.2.2).trans (h_1010 false)).trans (tp_si (by omega) ⟨by omega, by omega⟩ (h_1054.trans (ch_pos (by omega) (by omega))) (by omega) (h_1126 true))).trans (tp_f h9)⟩), (by assumption), (by omega), (by omega), (by omega), (by omega), (by omega), (by omega), (by omega), (by omega), (by omega), (by omega), (by omega), (frm_t h_1024 h_1140), rfl, ⟨hP, hD⟩, hS, lv_sub hl [0, 1, 2] rfl⟩
  · skip
    rcases b01 bv_1026 with h9 | h9
    · obtain rfl : 0 = v_1026 := h9.symm
      have hlh_1141 : Int32.toInt 0 = 0 := by decide
      refine lv_if_eq (tgt := 26) hx hb dX10_readTest_19 (by decide) (fun _ => ?_) (fun c9 => absurd (by decide) c9)
      refine lv_aload_n hx hb dX10_readTest_26 rfl (lv_at hl 1 rfl) ?_
      refine va_ldcS (own := RX10) (tx := "less") (q := aK 33) hx hb hown (hE.2.1 ("CardBowlModel", 248, "less", 33) sl_CardBowlModel_248) dX10_readTest_27 ?_
      refine cViSm (As := [.ref (aK 33)]) (rest := [.ref ob]) ⟨hx, hb, hml, hown, hw0⟩ hA hK hP hD hS hE [true, true] (sX10_is l G y aK aV _ ob 33 ob_thrown ob_world ob_images ob_hasImage ob_tape ob_taped ob_five ob_size v_1003 v_1004 v_1005 v_1006 v_1007 v_1008 ob_fresh ob_parts ob_houses ob_houseMany ob_worthOf ob_byCall ob_over ob_bestSet ob_bestOver ob_bestWorth ob_row ob_tenDebts ob_tenMany ob_fewestBy ob_covered ob_queue ob_cameBy ob_parent ob_met ob_calls ob_callMany ob_calledOn ob_saved ob_many ob_width ob_numbers ob_moving fob_tape p_fob_tape p_ob_taped p_ob_size bv_1003 bv_1004 bv_1005 bv_1006 bv_1007 p_ob_houseMany p_ob_bestSet p_ob_bestOver p_ob_tenMany p_ob_callMany (by decide) (by assumption) (by decide +kernel)) rfl ⟨(callB_of 1 hw0 (gA m_530) rfl rfl rfl (hw0 _ m_41) (hw0 _ m_414) cb_X10_is ⟨Nat.le_of_ble_eq_true rfl, Nat.le_of_ble_eq_true rfl⟩), (hw0 _ m_415), (hw0 _ m_416)⟩ (ci := 10) (q := (RX10, TX10, 41)) rfl rfl rfl hl.1 (Nat.le_of_ble_eq_true rfl) dX10_readTest_29 ⟨Nat.le_of_ble_eq_true rfl, Nat.le_of_ble_eq_true rfl⟩ (fun r_1142 w_1142 H locs hw_1142 hP hD hS => ?_)
      obtain ⟨v_1143, bv_1143, h_1144, h_1145, er_1142, rfl⟩ := hw_1142
      subst r_1142
      have hLh_1146 : ((lenS.getD 33 0 : Nat) : Int) = 4 := by decide
      obtain ⟨hP, hD⟩ : vPD G A H [(ce_X10 ob ob_thrown ob_world ob_images ob_hasImage ob_tape ob_taped ob_five ob_size v_1003 v_1004 v_1005 v_1006 v_1007 v_1008 ob_fresh ob_parts ob_houses ob_houseMany ob_worthOf ob_byCall ob_over ob_bestSet ob_bestOver ob_bestWorth ob_row ob_tenDebts ob_tenMany ob_fewestBy ob_covered ob_queue ob_cameBy ob_parent ob_met ob_calls ob_callMany ob_calledOn ob_saved ob_many ob_width ob_numbers ob_moving), (ce_b1400 y ob_tape fob_tape), (ce_i9080 y ob_fresh f_1009)] := ⟨hP, hD⟩
      rcases b01 bv_1143 with h9 | h9
      · obtain rfl : 0 = v_1143 := h9.symm
        have hlh_1147 : Int32.toInt 0 = 0 := by decide
        refine lv_if_eq (tgt := 39) hx hb dX10_readTest_32 (by decide) (fun _ => ?_) (fun c9 => absurd (by decide) c9)
        refine lv_aload_n hx hb dX10_readTest_39 rfl (lv_at hl 1 rfl) ?_
        refine va_ldcS (own := RX10) (tx := "same") (q := aK 34) hx hb hown (hE.2.1 ("CardBowlModel", 250, "same", 34) sl_CardBowlModel_250) dX10_readTest_40 ?_
        refine cViSm (As := [.ref (aK 34)]) (rest := [.ref ob]) ⟨hx, hb, hml, hown, hw0⟩ hA hK hP hD hS hE [true, true] (sX10_is l G y aK aV _ ob 34 ob_thrown ob_world ob_images ob_hasImage ob_tape ob_taped ob_five ob_size v_1003 v_1004 v_1005 v_1006 v_1007 v_1008 ob_fresh ob_parts ob_houses ob_houseMany ob_worthOf ob_byCall ob_over ob_bestSet ob_bestOver ob_bestWorth ob_row ob_tenDebts ob_tenMany ob_fewestBy ob_covered ob_queue ob_cameBy ob_parent ob_met ob_calls ob_callMany ob_calledOn ob_saved ob_many ob_width ob_numbers ob_moving fob_tape p_fob_tape p_ob_taped p_ob_size bv_1003 bv_1004 bv_1005 bv_1006 bv_1007 p_ob_houseMany p_ob_bestSet p_ob_bestOver p_ob_tenMany p_ob_callMany (by decide) (by assumption) (by decide +kernel)) rfl ⟨(callB_of 1 hw0 (gA m_530) rfl rfl rfl (hw0 _ m_41) (hw0 _ m_414) cb_X10_is ⟨Nat.le_of_ble_eq_true rfl, Nat.le_of_ble_eq_true rfl⟩), (hw0 _ m_415), (hw0 _ m_416)⟩ (ci := 10) (q := (RX10, TX10, 41)) rfl rfl rfl hl.1 (Nat.le_of_ble_eq_true rfl) dX10_readTest_42 ⟨Nat.le_of_ble_eq_true rfl, Nat.le_of_ble_eq_true rfl⟩ (fun r_1148 w_1148 H locs hw_1148 hP hD hS => ?_)
        obtain ⟨v_1149, bv_1149, h_1150, h_1151, er_1148, rfl⟩ := hw_1148
        subst r_1148
        have hLh_1152 : ((lenS.getD 34 0 : Nat) : Int) = 4 := by decide
        obtain ⟨hP, hD⟩ : vPD G A H [(ce_X10 ob ob_thrown ob_world ob_images ob_hasImage ob_tape ob_taped ob_five ob_size v_1003 v_1004 v_1005 v_1006 v_1007 v_1008 ob_fresh ob_parts ob_houses ob_houseMany ob_worthOf ob_byCall ob_over ob_bestSet ob_bestOver ob_bestWorth ob_row ob_tenDebts ob_tenMany ob_fewestBy ob_covered ob_queue ob_cameBy ob_parent ob_met ob_calls ob_callMany ob_calledOn ob_saved ob_many ob_width ob_numbers ob_moving), (ce_b1400 y ob_tape fob_tape), (ce_i9080 y ob_fresh f_1009)] := ⟨hP, hD⟩
        rcases b01 bv_1149 with h9 | h9
        · obtain rfl : 0 = v_1149 := h9.symm
          have hlh_1153 : Int32.toInt 0 = 0 := by decide
          refine lv_if_eq (tgt := 52) hx hb dX10_readTest_45 (by decide) (fun _ => ?_) (fun c9 => absurd (by decide) c9)
          refine lv_iconst (v := (-1)) hx hb dX10_readTest_52 (by decide) ?_
          exact J_53_1046 _ _ _ _ ⟨(-1), (bw (-1) (2) (bkc (x := (-1)) (c := -1) (by decide)) (by decide)), (by have h90 : Int32.toInt (-1) = -1 := (by decide); omega), (by have lm1 : Int32.toInt (-1) = -1 := (by decide); have l91 : Int32.toInt 1 = 1 := (by decide); have l92 : Int32.toInt 2 = 2 := (by decide); have l93 : Int32.toInt 3 = 3 := (by decide); have h90 : Int32.toInt (-1) = -1 := (by decide); have h8 := am_w6 (f := fob_tape) (n := ob_size.toInt) (b := v_1004.toInt); omega), rfl, ⟨hP, hD⟩, hS, lv_sub hl [0, 1] rfl⟩
        · obtain rfl : 1 = v_1149 := h9.symm
          have hlh_1154 : Int32.toInt 1 = 1 := by decide
          refine lv_if_eq (tgt := 52) hx hb dX10_readTest_45 (by decide) (fun c9 => absurd c9 (by decide)) (fun _ => ?_)
          refine lv_iconst (v := 2) hx hb dX10_readTest_48 (by decide) ?_
          refine lv_goto (tgt := 53) hx hb dX10_readTest_49 (by decide) ?_
          exact J_53_1046 _ _ _ _ ⟨2, (bw (-1) (2) (bkc (x := 2) (c := 2) (by decide)) (by decide)), (by have h90 : Int32.toInt 2 = 2 := (by decide); omega), (by have lm1 : Int32.toInt (-1) = -1 := (by decide); have l91 : Int32.toInt 1 = 1 := (by decide); have l92 : Int32.toInt 2 = 2 := (by decide); have l93 : Int32.toInt 3 = 3 := (by decide); have h90 : Int32.toInt 2 = 2 := (by decide); have h8 := am_w6 (f := fob_tape) (n := ob_size.toInt) (b := v_1004.toInt); omega), rfl, ⟨hP, hD⟩, hS, lv_sub hl [0, 1] rfl⟩
      · obtain rfl : 1 = v_1143 := h9.symm
        have hlh_1155 : Int32.toInt 1 = 1 := by decide
        refine lv_if_eq (tgt := 39) hx hb dX10_readTest_32 (by decide) (fun c9 => absurd c9 (by decide)) (fun _ => ?_)
        refine lv_iconst (v := 1) hx hb dX10_readTest_35 (by decide) ?_
        refine lv_goto (tgt := 53) hx hb dX10_readTest_36 (by decide) ?_
        exact J_53_1046 _ _ _ _ ⟨1, (bw (-1) (2) (bkc (x := 1) (c := 1) (by decide)) (by decide)), (by have h90 : Int32.toInt 1 = 1 := (by decide); omega), (by have lm1 : Int32.toInt (-1) = -1 := (by decide); have l91 : Int32.toInt 1 = 1 := (by decide); have l92 : Int32.toInt 2 = 2 := (by decide); have l93 : Int32.toInt 3 = 3 := (by decide); have h90 : Int32.toInt 1 = 1 := (by decide); have h8 := am_w6 (f := fob_tape) (n := ob_size.toInt) (b := v_1004.toInt); omega), rfl, ⟨hP, hD⟩, hS, lv_sub hl [0, 1] rfl⟩
    · obtain rfl : 1 = v_1026 := h9.symm
      have hlh_1156 : Int32.toInt 1 = 1 := by decide
      refine lv_if_eq (tgt := 26) hx hb dX10_readTest_19 (by decide) (fun c9 => absurd c9 (by decide)) (fun _ => ?_)
      refine lv_iconst (v := 0) hx hb dX10_readTest_22 (by decide) ?_
      refine lv_goto (tgt := 53) hx hb dX10_readTest_23 (by decide) ?_
      exact J_53_1046 _ _ _ _ ⟨0, (bw (-1) (2) (bkc (x := 0) (c := 0) (by decide)) (by decide)), (by have h90 : Int32.toInt 0 = 0 := (by decide); omega), (by have lm1 : Int32.toInt (-1) = -1 := (by decide); have l91 : Int32.toInt 1 = 1 := (by decide); have l92 : Int32.toInt 2 = 2 := (by decide); have l93 : Int32.toInt 3 = 3 := (by decide); have h90 : Int32.toInt 0 = 0 := (by decide); have h8 := am_w6 (f := fob_tape) (n := ob_size.toInt) (b := v_1004.toInt); omega), rfl, ⟨hP, hD⟩, hS, lv_sub hl [0, 1] rfl⟩

set_option maxHeartbeats 4000000 in
set_option maxRecDepth 100000 in
theorem sX10_readOwes (l : Launch) (G : va_G) (y : Nat → ClassId) (aK aV : Nat → Nat) (sz : Nat) (ob : Nat) (ob_thrown : Int32) (ob_world : Nat) (ob_images : Nat) (ob_hasImage : Nat) (ob_tape : Nat) (ob_taped : Int32) (ob_five : Nat) (ob_size : Int32) (ob_at : Int32) (ob_from : Int32) (ob_token : Int32) (ob_value : Int32) (ob_faultKind : Int32) (ob_faultPlace : Int32) (ob_fresh : Nat) (ob_parts : Nat) (ob_houses : Nat) (ob_houseMany : Int32) (ob_worthOf : Nat) (ob_byCall : Nat) (ob_over : Nat) (ob_bestSet : Int32) (ob_bestOver : Int32) (ob_bestWorth : Int32) (ob_row : Nat) (ob_tenDebts : Nat) (ob_tenMany : Int32) (ob_fewestBy : Nat) (ob_covered : Nat) (ob_queue : Nat) (ob_cameBy : Nat) (ob_parent : Nat) (ob_met : Nat) (ob_calls : Nat) (ob_callMany : Int32) (ob_calledOn : Nat) (ob_saved : Nat) (ob_many : Nat) (ob_width : Nat) (ob_numbers : Nat) (ob_moving : Nat) (fob_tape : Nat → Int32) (fob_fresh : Nat → Int32) (p_fob_tape : ∀ i, (-128 : Int) ≤ (fob_tape i).toInt ∧ (fob_tape i).toInt ≤ 127) (p_ob_taped : (0 : Int) ≤ ob_taped.toInt ∧ ob_taped.toInt ≤ 1400) (p_ob_size : (0 : Int) ≤ ob_size.toInt ∧ ob_size.toInt ≤ 1400) (p_ob_at : (0 : Int) ≤ ob_at.toInt ∧ ob_at.toInt ≤ 1400) (p_ob_from : (0 : Int) ≤ ob_from.toInt ∧ ob_from.toInt ≤ 1400) (p_ob_token : (0 : Int) ≤ ob_token.toInt ∧ ob_token.toInt ≤ 4) (p_ob_value : (0 : Int) ≤ ob_value.toInt ∧ ob_value.toInt ≤ 9999) (p_ob_faultKind : (0 : Int) ≤ ob_faultKind.toInt ∧ ob_faultKind.toInt ≤ 3) (p_fob_fresh : RWw fob_fresh) (p_ob_houseMany : (0 : Int) ≤ ob_houseMany.toInt ∧ ob_houseMany.toInt ≤ 10) (p_ob_bestSet : (0 : Int) ≤ ob_bestSet.toInt ∧ ob_bestSet.toInt ≤ 1023) (p_ob_bestOver : (-1 : Int) ≤ ob_bestOver.toInt ∧ ob_bestOver.toInt ≤ 180) (p_ob_tenMany : (0 : Int) ≤ ob_tenMany.toInt ∧ ob_tenMany.toInt ≤ 10) (p_ob_callMany : (0 : Int) ≤ ob_callMany.toInt ∧ ob_callMany.toInt ≤ 16) (hq0 : ob_from.toInt ≤ ob_at.toInt) (hq1 : ob_token.toInt = 0 ∨ ob_from.toInt < ob_at.toInt) (hq2 : qTok fob_tape ob_size.toInt 9999 ob_token.toInt ob_from.toInt ob_at.toInt ob_value.toInt) (hq3 : 4 * (fob_fresh 3).toInt ≤ ob_from.toInt + 3) (hq4 : 2 * (fob_fresh 2).toInt ≤ (fob_fresh 3).toInt) (hq5 : (fob_fresh 1).toInt ≤ 23) (hq6 : ob_faultKind.toInt = 0 ∧ 0 ≤ qam fob_tape ob_size.toInt ob_from.toInt 2) : Met l yX10_readOwes (Cond.code yX10_readOwes cX10_readOwes 2 none :: wAll) ({ frames := 8, cells := 0, slots := 0, locals := 177 }) (va_Pc [.ref ob] (kps G y aK aV sz [(ce_X10 ob ob_thrown ob_world ob_images ob_hasImage ob_tape ob_taped ob_five ob_size ob_at ob_from ob_token ob_value ob_faultKind ob_faultPlace ob_fresh ob_parts ob_houses ob_houseMany ob_worthOf ob_byCall ob_over ob_bestSet ob_bestOver ob_bestWorth ob_row ob_tenDebts ob_tenMany ob_fewestBy ob_covered ob_queue ob_cameBy ob_parent ob_met ob_calls ob_callMany ob_calledOn ob_saved ob_many ob_width ob_numbers ob_moving), (ce_b1400 y ob_tape fob_tape), (ce_i9080 y ob_fresh fob_fresh)])) (va_Qv (fun (w : va_W) => (∃ (v_1211 : Int32) (v_1212 : Int32) (v_1213 : Int32) (v_1214 : Int32) (v_1215 : Int32) (v_1216 : Int32) (f_1217 : Nat → Int32), ((0 : Int) ≤ v_1211.toInt ∧ v_1211.toInt ≤ 1400) ∧ ((0 : Int) ≤ v_1212.toInt ∧ v_1212.toInt ≤ 1400) ∧ ((0 : Int) ≤ v_1213.toInt ∧ v_1213.toInt ≤ 4) ∧ ((0 : Int) ≤ v_1214.toInt ∧ v_1214.toInt ≤ 9999) ∧ ((0 : Int) ≤ v_1215.toInt ∧ v_1215.toInt ≤ 3) ∧ (RWw f_1217) ∧ (r_cl fob_tape ob_size.toInt (r_oi fob_tape ob_size.toInt (r_o1 fob_tape ob_size.toInt ((ob_faultKind.toInt, ob_faultPlace.toInt, ob_from.toInt) : Int × Int × Int))) = r_cl fob_tape ob_size.toInt ((v_1215.toInt, v_1216.toInt, v_1212.toInt) : Int × Int × Int)) ∧ (qTok fob_tape ob_size.toInt 9999 v_1213.toInt v_1212.toInt v_1211.toInt v_1214.toInt) ∧ (v_1212.toInt ≤ v_1211.toInt) ∧ (v_1213.toInt = 0 ∨ v_1212.toInt < v_1211.toInt) ∧ (ob_from.toInt ≤ v_1212.toInt) ∧ (ob_faultKind.toInt = 0 ∨ ¬ v_1215.toInt = 0) ∧ (4 * (f_1217 3).toInt ≤ v_1212.toInt + 3) ∧ (2 * (f_1217 2).toInt ≤ (f_1217 3).toInt) ∧ (¬ v_1215.toInt = 0 ∨ (ob_faultKind.toInt = 0 ∧ ob_from.toInt + 1 ≤ v_1212.toInt)) ∧ ((f_1217 0).toInt = (fob_fresh 0).toInt) ∧ (¬ v_1215.toInt = 0 ∨ (f_1217 1).toInt = (fob_fresh 1).toInt + 1) ∧ w = [(ce_X10 ob ob_thrown ob_world ob_images ob_hasImage ob_tape ob_taped ob_five ob_size v_1211 v_1212 v_1213 v_1214 v_1215 v_1216 ob_fresh ob_parts ob_houses ob_houseMany ob_worthOf ob_byCall ob_over ob_bestSet ob_bestOver ob_bestWorth ob_row ob_tenDebts ob_tenMany ob_fewestBy ob_covered ob_queue ob_cameBy ob_parent ob_met ob_calls ob_callMany ob_calledOn ob_saved ob_many ob_width ob_numbers ob_moving), (ce_b1400 y ob_tape fob_tape), (ce_i9080 y ob_fresh f_1217)])) (kq G (va_A [(ce_X10 ob ob_thrown ob_world ob_images ob_hasImage ob_tape ob_taped ob_five ob_size ob_at ob_from ob_token ob_value ob_faultKind ob_faultPlace ob_fresh ob_parts ob_houses ob_houseMany ob_worthOf ob_byCall ob_over ob_bestSet ob_bestOver ob_bestWorth ob_row ob_tenDebts ob_tenMany ob_fewestBy ob_covered ob_queue ob_cameBy ob_parent ob_met ob_calls ob_callMany ob_calledOn ob_saved ob_many ob_width ob_numbers ob_moving), (ce_b1400 y ob_tape fob_tape), (ce_i9080 y ob_fresh fob_fresh)] sz)) (va_A [(ce_X10 ob ob_thrown ob_world ob_images ob_hasImage ob_tape ob_taped ob_five ob_size ob_at ob_from ob_token ob_value ob_faultKind ob_faultPlace ob_fresh ob_parts ob_houses ob_houseMany ob_worthOf ob_byCall ob_over ob_bestSet ob_bestOver ob_bestWorth ob_row ob_tenDebts ob_tenMany ob_fewestBy ob_covered ob_queue ob_cameBy ob_parent ob_met ob_calls ob_callMany ob_calledOn ob_saved ob_many ob_width ob_numbers ob_moving), (ce_b1400 y ob_tape fob_tape), (ce_i9080 y ob_fresh fob_fresh)] sz)) 0 0 (va_A [(ce_X10 ob ob_thrown ob_world ob_images ob_hasImage ob_tape ob_taped ob_five ob_size ob_at ob_from ob_token ob_value ob_faultKind ob_faultPlace ob_fresh ob_parts ob_houses ob_houseMany ob_worthOf ob_byCall ob_over ob_bestSet ob_bestOver ob_bestWorth ob_row ob_tenDebts ob_tenMany ob_fewestBy ob_covered ob_queue ob_cameBy ob_parent ob_met ob_calls ob_callMany ob_calledOn ob_saved ob_many ob_width ob_numbers ob_moving), (ce_b1400 y ob_tape fob_tape), (ce_i9080 y ob_fresh fob_fresh)] sz) := by
  refine Met.ofW (cc := cX10_readOwes) (maxL := 2) (ret := none) (by decide) rfl ?_
  intro p e s m args below meth c s₁ B hml hv
  obtain ⟨rfl, ⟨hsz, hP, hK, hD0⟩, hE⟩ := hv
  have hx := B.exec
  have hb := B.bytes
  have hr := B.returns
  have hw0 : ∀ w ∈ wAll, w.before _ s = true := fun w h => atoms_spec (ws := Cond.code yX10_readOwes cX10_readOwes 2 none :: wAll) B.pre w (List.mem_cons_of_mem _ h)
  have hown : s.vm.findClass RX10 = some m.cls := findClass_of_methodNamed B.named
  subst hsz
  have hD := hD0.self (sz := s.heap.size)
  generalize hAe : va_A [(ce_X10 ob ob_thrown ob_world ob_images ob_hasImage ob_tape ob_taped ob_five ob_size ob_at ob_from ob_token ob_value ob_faultKind ob_faultPlace ob_fresh ob_parts ob_houses ob_houseMany ob_worthOf ob_byCall ob_over ob_bestSet ob_bestOver ob_bestWorth ob_row ob_tenDebts ob_tenMany ob_fewestBy ob_covered ob_queue ob_cameBy ob_parent ob_met ob_calls ob_callMany ob_calledOn ob_saved ob_many ob_width ob_numbers ob_moving), (ce_b1400 y ob_tape fob_tape), (ce_i9080 y ob_fresh fob_fresh)] s.heap.size = A at hD hE ⊢
  have hA : ∀ q : Nat, s.heap.size ≤ q → A q := fun q h => by rw [← hAe]; exact Or.inr h
  have hS : va_S A s.heap s.heap [] := va_S.rf
  have hP : va_P G vwCl [(ce_X10 ob ob_thrown ob_world ob_images ob_hasImage ob_tape ob_taped ob_five ob_size ob_at ob_from ob_token ob_value ob_faultKind ob_faultPlace ob_fresh ob_parts ob_houses ob_houseMany ob_worthOf ob_byCall ob_over ob_bestSet ob_bestOver ob_bestWorth ob_row ob_tenDebts ob_tenMany ob_fewestBy ob_covered ob_queue ob_cameBy ob_parent ob_met ob_calls ob_callMany ob_calledOn ob_saved ob_many ob_width ob_numbers ob_moving), (ce_b1400 y ob_tape fob_tape), (ce_i9080 y ob_fresh fob_fresh)] s.heap := hP
  have hl := lv_entry ([.ref ob]) (n := 2) (Nat.le_of_ble_eq_true rfl)
  rw [lg_entry_eq]
  generalize (lg_sl ([.ref ob]) ++ List.replicate (2 - (lg_sl ([.ref ob])).length) Slot.unset).toArray = ls at hl ⊢
  have hl : lv_has ls 2 [(0, .ref ob)] := hl
  refine lv_sipush (v := 154) hx hb dX10_readOwes_0 (by decide) ?_
  refine lv_iconst (v := 5) hx hb dX10_readOwes_3 (by decide) ?_
  refine lv_aload_n hx hb dX10_readOwes_4 rfl (lv_at hl 0 rfl) ?_
  refine va_get (D := G) (ci := 10) (v := .ref ob_fresh) (C := RX10) (T := TX10) (N := 41) hx hb hw0 inA_wsX100 hown hK.1 hP 0 rfl rfl 14 (by decide) (hw0 _ m_521) (fun _ h9 => h9) rfl dX10_readOwes_5 ?_
  refine lv_iconst (v := 1) hx hb dX10_readOwes_8 (by decide) ?_
  refine va_iald hx hb hK.1 hP 2 1 rfl rfl (vi (bkc (x := 1) (c := 1) (by decide)) (by decide)) dX10_readOwes_9 ?_
  refine lv_topi (fun v_1001 ev_1001 => ?_)
  have bv_1001 : (0 : Int) ≤ v_1001.toInt ∧ v_1001.toInt ≤ 24 := rdk ev_1001 (p_fob_fresh).1.1 (by decide)
  have yv_1001 : v_1001.toInt = (fob_fresh 1).toInt := congrArg Int32.toInt ev_1001
  have h_1002 : (0 : Int) ≤ v_1001.toInt ∧ v_1001.toInt ≤ 23 := by omega
  refine lv_imul hx hb dX10_readOwes_10 ?_
  refine lv_topi (fun v_1003 ev_1003 => ?_)
  have qv_1003 := ba_mul 5 (ev_1003.trans (Int32.mul_comm _ _)) h_1002 (by decide) (by decide) (by decide)
  have bv_1003 : (0 : Int) ≤ v_1003.toInt ∧ v_1003.toInt ≤ 115 := qv_1003.2
  refine lv_iadd hx hb dX10_readOwes_11 ?_
  refine lv_topi (fun v_1004 ev_1004 => ?_)
  have qv_1004 := ba_add ev_1004 (bkc (x := 154) (c := 154) (by decide)) bv_1003 (by decide)
  have bv_1004 : (154 : Int) ≤ v_1004.toInt ∧ v_1004.toInt ≤ 269 := bq_add qv_1004 (bkc (x := 154) (c := 154) (by decide)) bv_1003 _ _ (by decide)
  have qv_1004 : v_1004.toInt = (154) + v_1003.toInt := qv_1004
  refine lv_istore_n (lv' := [(1, .int v_1004), (0, .ref ob)]) hx hb dX10_readOwes_12 rfl hl (by decide) rfl (fun ls hl => ?_)
  refine lv_aload_n hx hb dX10_readOwes_13 rfl (lv_at hl 1 rfl) ?_
  refine va_get (D := G) (ci := 10) (v := .ref ob_fresh) (C := RX10) (T := TX10) (N := 41) hx hb hw0 inA_wsX100 hown hK.1 hP 0 rfl rfl 14 (by decide) (hw0 _ m_521) (fun _ h9 => h9) rfl dX10_readOwes_14 ?_
  refine lv_iload_n hx hb dX10_readOwes_17 rfl (lv_at hl 0 rfl) ?_
  refine lv_aload_n hx hb dX10_readOwes_18 rfl (lv_at hl 1 rfl) ?_
  refine lv_aload_n hx hb dX10_readOwes_19 rfl (lv_at hl 1 rfl) ?_
  refine cViSm (As := []) (rest := [.ref ob, .int v_1004, .ref ob_fresh]) ⟨hx, hb, hml, hown, hw0⟩ hA hK hP hD hS hE [true, true] (sX10_payingHere l G y aK aV _ ob ob_thrown ob_world ob_images ob_hasImage ob_tape ob_taped ob_five ob_size ob_at ob_from ob_token ob_value ob_faultKind ob_faultPlace ob_fresh ob_parts ob_houses ob_houseMany ob_worthOf ob_byCall ob_over ob_bestSet ob_bestOver ob_bestWorth ob_row ob_tenDebts ob_tenMany ob_fewestBy ob_covered ob_queue ob_cameBy ob_parent ob_met ob_calls ob_callMany ob_calledOn ob_saved ob_many ob_width ob_numbers ob_moving fob_tape p_fob_tape p_ob_taped p_ob_size p_ob_at p_ob_from p_ob_token p_ob_value p_ob_faultKind p_ob_houseMany p_ob_bestSet p_ob_bestOver p_ob_tenMany p_ob_callMany (by assumption)) rfl ⟨(callB_of 0 hw0 (gA m_594) rfl rfl rfl (hw0 _ m_41) (hw0 _ m_619) cb_X10_payingHere ⟨Nat.le_of_ble_eq_true rfl, Nat.le_of_ble_eq_true rfl⟩), (hw0 _ m_620), (hw0 _ m_621)⟩ (ci := 10) (q := (RX10, TX10, 41)) rfl rfl rfl hl.1 (Nat.le_of_ble_eq_true rfl) dX10_readOwes_20 ⟨Nat.le_of_ble_eq_true rfl, Nat.le_of_ble_eq_true rfl⟩ (fun r_1005 w_1005 H locs hw_1005 hP hD hS => ?_)
  obtain ⟨v_1006, bv_1006, h_1007, h_1008, er_1005, rfl⟩ := hw_1005
  subst r_1005
  obtain ⟨hP, hD⟩ : vPD G A H [(ce_X10 ob ob_thrown ob_world ob_images ob_hasImage ob_tape ob_taped ob_five ob_size ob_at ob_from ob_token ob_value ob_faultKind ob_faultPlace ob_fresh ob_parts ob_houses ob_houseMany ob_worthOf ob_byCall ob_over ob_bestSet ob_bestOver ob_bestWorth ob_row ob_tenDebts ob_tenMany ob_fewestBy ob_covered ob_queue ob_cameBy ob_parent ob_met ob_calls ob_callMany ob_calledOn ob_saved ob_many ob_width ob_numbers ob_moving), (ce_b1400 y ob_tape fob_tape), (ce_i9080 y ob_fresh fob_fresh)] := ⟨hP, hD⟩
  refine cVim (As := [.int v_1006]) (rest := [.int v_1004, .ref ob_fresh]) ⟨hx, hb, hml, hown, hw0⟩ hA hK hP hD hS [true, true] (sX10_taken l G y _ ob v_1006 ob_thrown ob_world ob_images ob_hasImage ob_tape ob_taped ob_five ob_size ob_at ob_from ob_token ob_value ob_faultKind ob_faultPlace ob_fresh ob_parts ob_houses ob_houseMany ob_worthOf ob_byCall ob_over ob_bestSet ob_bestOver ob_bestWorth ob_row ob_tenDebts ob_tenMany ob_fewestBy ob_covered ob_queue ob_cameBy ob_parent ob_met ob_calls ob_callMany ob_calledOn ob_saved ob_many ob_width ob_numbers ob_moving fob_tape p_fob_tape p_ob_taped p_ob_size p_ob_at p_ob_from p_ob_token p_ob_value p_ob_faultKind p_ob_houseMany p_ob_bestSet p_ob_bestOver p_ob_tenMany p_ob_callMany (by omega) (by omega) (by assumption) (by omega)) rfl ⟨(callB_of 1 hw0 (gA m_680) rfl rfl rfl (hw0 _ m_41) (hw0 _ m_614) cb_X10_taken ⟨Nat.le_of_ble_eq_true rfl, Nat.le_of_ble_eq_true rfl⟩), (hw0 _ m_615), (hw0 _ m_616)⟩ (ci := 10) (q := (RX10, TX10, 41)) rfl rfl rfl hl.1 (Nat.le_of_ble_eq_true rfl) dX10_readOwes_23 ⟨Nat.le_of_ble_eq_true rfl, Nat.le_of_ble_eq_true rfl⟩ (fun r_1009 w_1009 H locs hw_1009 hP hD hS => ?_)
  obtain ⟨v_1010, v_1011, v_1012, v_1013, v_1014, v_1015, bv_1010, bv_1011, bv_1012, bv_1013, bv_1014, h_1016, h_1017, h_1018, h_1019, h_1020, h_1021, h_1022, h_1023, er_1009, rfl⟩ := hw_1009
  subst r_1009
  obtain ⟨hP, hD⟩ : vPD G A H [(ce_X10 ob ob_thrown ob_world ob_images ob_hasImage ob_tape ob_taped ob_five ob_size v_1010 v_1011 v_1012 v_1013 v_1014 v_1015 ob_fresh ob_parts ob_houses ob_houseMany ob_worthOf ob_byCall ob_over ob_bestSet ob_bestOver ob_bestWorth ob_row ob_tenDebts ob_tenMany ob_fewestBy ob_covered ob_queue ob_cameBy ob_parent ob_met ob_calls ob_callMany ob_calledOn ob_saved ob_many ob_width ob_numbers ob_moving), (ce_b1400 y ob_tape fob_tape), (ce_i9080 y ob_fresh fob_fresh)] := ⟨hP, hD⟩
  have tnh_1024 := (h_1017).2.2.2.2
  refine va_iast hx hb hK.1 hP hD hS 2 1 rfl rfl (vi bv_1004 (by decide)) dX10_readOwes_26 (fun H locs hP hD hS => ?_)
  generalize hf_1025 : (upd fob_fresh (v_1004 : Int32).toNatClampNeg v_1006) = f_1025 at hP hD
  have zf_1025_0 : (f_1025 0).toInt = (fob_fresh 0).toInt := hf_1025 ▸ pin_ne (ix_not bv_1004 (by decide))
  have zf_1025_1 : (f_1025 1).toInt = (fob_fresh 1).toInt := hf_1025 ▸ pin_ne (ix_not bv_1004 (by decide))
  have zf_1025_2 : (f_1025 2).toInt = (fob_fresh 2).toInt := hf_1025 ▸ pin_ne (ix_not bv_1004 (by decide))
  have zf_1025_3 : (f_1025 3).toInt = (fob_fresh 3).toInt := hf_1025 ▸ pin_ne (ix_not bv_1004 (by decide))
  have bf_1025 : RBw f_1025 := hf_1025 ▸ upw (p_fob_fresh).1.1 pl_101 (by omega) (h_1002) bv_1006
  have cf_1025 : RVw f_1025 := hf_1025 ▸ RV_up (p_fob_fresh).1 (hf_1025 ▸ bf_1025) (ix_out bv_1004 (by decide))
  have df_1025 : RWw f_1025 := ⟨cf_1025, hf_1025 ▸ WQ_l (p_fob_fresh).1.1 (p_fob_fresh).2 (by have h9 := cl_to (x := v_1004) (by omega); omega) (by have h9 := cl_to (x := v_1004) (by omega); omega)⟩
  obtain ⟨hP, hD⟩ : vPD G A H [(ce_X10 ob ob_thrown ob_world ob_images ob_hasImage ob_tape ob_taped ob_five ob_size v_1010 v_1011 v_1012 v_1013 v_1014 v_1015 ob_fresh ob_parts ob_houses ob_houseMany ob_worthOf ob_byCall ob_over ob_bestSet ob_bestOver ob_bestWorth ob_row ob_tenDebts ob_tenMany ob_fewestBy ob_covered ob_queue ob_cameBy ob_parent ob_met ob_calls ob_callMany ob_calledOn ob_saved ob_many ob_width ob_numbers ob_moving), (ce_b1400 y ob_tape fob_tape), (ce_i9080 y ob_fresh f_1025)] := ⟨hP, hD⟩
  refine lv_aload_n hx hb dX10_readOwes_27 rfl (lv_at hl 1 rfl) ?_
  refine va_ldcS (own := RX10) (tx := "owes") (q := aK 21) hx hb hown (hE.2.1 ("CardBowlModel", 255, "owes", 21) sl_CardBowlModel_255) dX10_readOwes_28 ?_
  refine cVvSm (As := [.ref (aK 21)]) (rest := []) ⟨hx, hb, hml, hown, hw0⟩ hA hK hP hD hS hE [true, true] (sX10_needs l G y aK aV _ ob 21 ob_thrown ob_world ob_images ob_hasImage ob_tape ob_taped ob_five ob_size v_1010 v_1011 v_1012 v_1013 v_1014 v_1015 ob_fresh ob_parts ob_houses ob_houseMany ob_worthOf ob_byCall ob_over ob_bestSet ob_bestOver ob_bestWorth ob_row ob_tenDebts ob_tenMany ob_fewestBy ob_covered ob_queue ob_cameBy ob_parent ob_met ob_calls ob_callMany ob_calledOn ob_saved ob_many ob_width ob_numbers ob_moving fob_tape p_fob_tape p_ob_taped p_ob_size bv_1010 bv_1011 bv_1012 bv_1013 bv_1014 p_ob_houseMany p_ob_bestSet p_ob_bestOver p_ob_tenMany p_ob_callMany (by decide) (by omega) (by omega) (by assumption) (by decide +kernel)) rfl ⟨(callB_of 1 hw0 (gA m_564) rfl rfl rfl (hw0 _ m_41) (hw0 _ m_608) cb_X10_needs ⟨Nat.le_of_ble_eq_true rfl, Nat.le_of_ble_eq_true rfl⟩), (hw0 _ m_609), (hw0 _ m_610)⟩ (ci := 10) (q := (RX10, TX10, 41)) rfl rfl rfl hl.1 (Nat.le_of_ble_eq_true rfl) dX10_readOwes_30 ⟨Nat.le_of_ble_eq_true rfl, Nat.le_of_ble_eq_true rfl⟩ (fun w_1026 H locs hw_1026 hP hD hS => ?_)
  obtain ⟨v_1027, v_1028, v_1029, v_1030, v_1031, v_1032, bv_1027, bv_1028, bv_1029, bv_1030, bv_1031, h_1033, h_1034, h_1035, h_1036, h_1037, h_1038, h_1039, rfl⟩ := hw_1026
  have hLh_1040 : ((lenS.getD 21 0 : Nat) : Int) = 4 := by decide
  obtain ⟨hP, hD⟩ : vPD G A H [(ce_X10 ob ob_thrown ob_world ob_images ob_hasImage ob_tape ob_taped ob_five ob_size v_1027 v_1028 v_1029 v_1030 v_1031 v_1032 ob_fresh ob_parts ob_houses ob_houseMany ob_worthOf ob_byCall ob_over ob_bestSet ob_bestOver ob_bestWorth ob_row ob_tenDebts ob_tenMany ob_fewestBy ob_covered ob_queue ob_cameBy ob_parent ob_met ob_calls ob_callMany ob_calledOn ob_saved ob_many ob_width ob_numbers ob_moving), (ce_b1400 y ob_tape fob_tape), (ce_i9080 y ob_fresh f_1025)] := ⟨hP, hD⟩
  refine lv_aload_n hx hb dX10_readOwes_33 rfl (lv_at hl 1 rfl) ?_
  refine va_get (D := G) (ci := 10) (v := .ref ob_fresh) (C := RX10) (T := TX10) (N := 41) hx hb hw0 inA_wsX100 hown hK.1 hP 0 rfl rfl 14 (by decide) (hw0 _ m_521) (fun _ h9 => h9) rfl dX10_readOwes_34 ?_
  refine lv_iload_n hx hb dX10_readOwes_37 rfl (lv_at hl 0 rfl) ?_
  refine lv_iconst (v := 1) hx hb dX10_readOwes_38 (by decide) ?_
  refine lv_iadd hx hb dX10_readOwes_39 ?_
  refine lv_topi (fun v_1041 ev_1041 => ?_)
  have qv_1041 := ba_add ev_1041 bv_1004 (bkc (x := 1) (c := 1) (by decide)) (by decide)
  have bv_1041 : (155 : Int) ≤ v_1041.toInt ∧ v_1041.toInt ≤ 270 := bq_add qv_1041 bv_1004 (bkc (x := 1) (c := 1) (by decide)) _ _ (by decide)
  have qv_1041 : v_1041.toInt = v_1004.toInt + (1) := qv_1041
  refine lv_aload_n hx hb dX10_readOwes_40 rfl (lv_at hl 1 rfl) ?_
  refine lv_aload_n hx hb dX10_readOwes_41 rfl (lv_at hl 1 rfl) ?_
  refine cViSm (As := []) (rest := [.ref ob, .int v_1041, .ref ob_fresh]) ⟨hx, hb, hml, hown, hw0⟩ hA hK hP hD hS hE [true, true] (sX10_payingHere l G y aK aV _ ob ob_thrown ob_world ob_images ob_hasImage ob_tape ob_taped ob_five ob_size v_1027 v_1028 v_1029 v_1030 v_1031 v_1032 ob_fresh ob_parts ob_houses ob_houseMany ob_worthOf ob_byCall ob_over ob_bestSet ob_bestOver ob_bestWorth ob_row ob_tenDebts ob_tenMany ob_fewestBy ob_covered ob_queue ob_cameBy ob_parent ob_met ob_calls ob_callMany ob_calledOn ob_saved ob_many ob_width ob_numbers ob_moving fob_tape p_fob_tape p_ob_taped p_ob_size bv_1027 bv_1028 bv_1029 bv_1030 bv_1031 p_ob_houseMany p_ob_bestSet p_ob_bestOver p_ob_tenMany p_ob_callMany (by assumption)) rfl ⟨(callB_of 0 hw0 (gA m_594) rfl rfl rfl (hw0 _ m_41) (hw0 _ m_619) cb_X10_payingHere ⟨Nat.le_of_ble_eq_true rfl, Nat.le_of_ble_eq_true rfl⟩), (hw0 _ m_620), (hw0 _ m_621)⟩ (ci := 10) (q := (RX10, TX10, 41)) rfl rfl rfl hl.1 (Nat.le_of_ble_eq_true rfl) dX10_readOwes_42 ⟨Nat.le_of_ble_eq_true rfl, Nat.le_of_ble_eq_true rfl⟩ (fun r_1042 w_1042 H locs hw_1042 hP hD hS => ?_)
  obtain ⟨v_1043, bv_1043, h_1044, h_1045, er_1042, rfl⟩ := hw_1042
  subst r_1042
  obtain ⟨hP, hD⟩ : vPD G A H [(ce_X10 ob ob_thrown ob_world ob_images ob_hasImage ob_tape ob_taped ob_five ob_size v_1027 v_1028 v_1029 v_1030 v_1031 v_1032 ob_fresh ob_parts ob_houses ob_houseMany ob_worthOf ob_byCall ob_over ob_bestSet ob_bestOver ob_bestWorth ob_row ob_tenDebts ob_tenMany ob_fewestBy ob_covered ob_queue ob_cameBy ob_parent ob_met ob_calls ob_callMany ob_calledOn ob_saved ob_many ob_width ob_numbers ob_moving), (ce_b1400 y ob_tape fob_tape), (ce_i9080 y ob_fresh f_1025)] := ⟨hP, hD⟩
  refine cVim (As := [.int v_1043]) (rest := [.int v_1041, .ref ob_fresh]) ⟨hx, hb, hml, hown, hw0⟩ hA hK hP hD hS [true, true] (sX10_taken l G y _ ob v_1043 ob_thrown ob_world ob_images ob_hasImage ob_tape ob_taped ob_five ob_size v_1027 v_1028 v_1029 v_1030 v_1031 v_1032 ob_fresh ob_parts ob_houses ob_houseMany ob_worthOf ob_byCall ob_over ob_bestSet ob_bestOver ob_bestWorth ob_row ob_tenDebts ob_tenMany ob_fewestBy ob_covered ob_queue ob_cameBy ob_parent ob_met ob_calls ob_callMany ob_calledOn ob_saved ob_many ob_width ob_numbers ob_moving fob_tape p_fob_tape p_ob_taped p_ob_size bv_1027 bv_1028 bv_1029 bv_1030 bv_1031 p_ob_houseMany p_ob_bestSet p_ob_bestOver p_ob_tenMany p_ob_callMany (by omega) (by omega) (by assumption) (by omega)) rfl ⟨(callB_of 1 hw0 (gA m_680) rfl rfl rfl (hw0 _ m_41) (hw0 _ m_614) cb_X10_taken ⟨Nat.le_of_ble_eq_true rfl, Nat.le_of_ble_eq_true rfl⟩), (hw0 _ m_615), (hw0 _ m_616)⟩ (ci := 10) (q := (RX10, TX10, 41)) rfl rfl rfl hl.1 (Nat.le_of_ble_eq_true rfl) dX10_readOwes_45 ⟨Nat.le_of_ble_eq_true rfl, Nat.le_of_ble_eq_true rfl⟩ (fun r_1046 w_1046 H locs hw_1046 hP hD hS => ?_)
  obtain ⟨v_1047, v_1048, v_1049, v_1050, v_1051, v_1052, bv_1047, bv_1048, bv_1049, bv_1050, bv_1051, h_1053, h_1054, h_1055, h_1056, h_1057, h_1058, h_1059, h_1060, er_1046, rfl⟩ := hw_1046
  subst r_1046
  obtain ⟨hP, hD⟩ : vPD G A H [(ce_X10 ob ob_thrown ob_world ob_images ob_hasImage ob_tape ob_taped ob_five ob_size v_1047 v_1048 v_1049 v_1050 v_1051 v_1052 ob_fresh ob_parts ob_houses ob_houseMany ob_worthOf ob_byCall ob_over ob_bestSet ob_bestOver ob_bestWorth ob_row ob_tenDebts ob_tenMany ob_fewestBy ob_covered ob_queue ob_cameBy ob_parent ob_met ob_calls ob_callMany ob_calledOn ob_saved ob_many ob_width ob_numbers ob_moving), (ce_b1400 y ob_tape fob_tape), (ce_i9080 y ob_fresh f_1025)] := ⟨hP, hD⟩
  have tnh_1061 := (h_1054).2.2.2.2
  refine va_iast hx hb hK.1 hP hD hS 2 1 rfl rfl (vi bv_1041 (by decide)) dX10_readOwes_48 (fun H locs hP hD hS => ?_)
  generalize hf_1062 : (upd f_1025 (v_1041 : Int32).toNatClampNeg v_1043) = f_1062 at hP hD
  have zf_1062_0 : (f_1062 0).toInt = (f_1025 0).toInt := hf_1062 ▸ pin_ne (ix_not bv_1041 (by decide))
  have zf_1062_1 : (f_1062 1).toInt = (f_1025 1).toInt := hf_1062 ▸ pin_ne (ix_not bv_1041 (by decide))
  have zf_1062_2 : (f_1062 2).toInt = (f_1025 2).toInt := hf_1062 ▸ pin_ne (ix_not bv_1041 (by decide))
  have zf_1062_3 : (f_1062 3).toInt = (f_1025 3).toInt := hf_1062 ▸ pin_ne (ix_not bv_1041 (by decide))
  have bf_1062 : RBw f_1062 := hf_1062 ▸ upw (df_1025).1.1 pl_102 (by omega) (h_1002) bv_1043
  have cf_1062 : RVw f_1062 := hf_1062 ▸ RV_up (df_1025).1 (hf_1062 ▸ bf_1062) (ix_out bv_1041 (by decide))
  have df_1062 : RWw f_1062 := ⟨cf_1062, hf_1062 ▸ WQ_l (df_1025).1.1 (df_1025).2 (by have h9 := cl_to (x := v_1041) (by omega); omega) (by have h9 := cl_to (x := v_1041) (by omega); omega)⟩
  obtain ⟨hP, hD⟩ : vPD G A H [(ce_X10 ob ob_thrown ob_world ob_images ob_hasImage ob_tape ob_taped ob_five ob_size v_1047 v_1048 v_1049 v_1050 v_1051 v_1052 ob_fresh ob_parts ob_houses ob_houseMany ob_worthOf ob_byCall ob_over ob_bestSet ob_bestOver ob_bestWorth ob_row ob_tenDebts ob_tenMany ob_fewestBy ob_covered ob_queue ob_cameBy ob_parent ob_met ob_calls ob_callMany ob_calledOn ob_saved ob_many ob_width ob_numbers ob_moving), (ce_b1400 y ob_tape fob_tape), (ce_i9080 y ob_fresh f_1062)] := ⟨hP, hD⟩
  refine lv_aload_n hx hb dX10_readOwes_49 rfl (lv_at hl 1 rfl) ?_
  refine va_get (D := G) (ci := 10) (v := .ref ob_fresh) (C := RX10) (T := TX10) (N := 41) hx hb hw0 inA_wsX100 hown hK.1 hP 0 rfl rfl 14 (by decide) (hw0 _ m_521) (fun _ h9 => h9) rfl dX10_readOwes_50 ?_
  refine lv_iload_n hx hb dX10_readOwes_53 rfl (lv_at hl 0 rfl) ?_
  refine lv_iconst (v := 2) hx hb dX10_readOwes_54 (by decide) ?_
  refine lv_iadd hx hb dX10_readOwes_55 ?_
  refine lv_topi (fun v_1063 ev_1063 => ?_)
  have qv_1063 := ba_add ev_1063 bv_1004 (bkc (x := 2) (c := 2) (by decide)) (by decide)
  have bv_1063 : (156 : Int) ≤ v_1063.toInt ∧ v_1063.toInt ≤ 271 := bq_add qv_1063 bv_1004 (bkc (x := 2) (c := 2) (by decide)) _ _ (by decide)
  have qv_1063 : v_1063.toInt = v_1004.toInt + (2) := qv_1063
  refine lv_aload_n hx hb dX10_readOwes_56 rfl (lv_at hl 1 rfl) ?_
  refine va_ldcSw (own := RX10) (tx := "within") (q := aK 22) hx hb hown (hE.2.1 ("CardBowlModel", 257, "within", 22) sl_CardBowlModel_257) dX10_readOwes_57 ?_
  refine lv_iconst (v := 0) hx hb dX10_readOwes_60 (by decide) ?_
  refine lv_bipush (v := 99) hx hb dX10_readOwes_61 (by decide) ?_
  refine cViSm (As := [.ref (aK 22), .int 0, .int 99]) (rest := [.int v_1063, .ref ob_fresh]) ⟨hx, hb, hml, hown, hw0⟩ hA hK hP hD hS hE [true, true] (stold0_99 l G y aK aV _ ob 22 ob_thrown ob_world ob_images ob_hasImage ob_tape ob_taped ob_five ob_size v_1047 v_1048 v_1049 v_1050 v_1051 v_1052 ob_fresh ob_parts ob_houses ob_houseMany ob_worthOf ob_byCall ob_over ob_bestSet ob_bestOver ob_bestWorth ob_row ob_tenDebts ob_tenMany ob_fewestBy ob_covered ob_queue ob_cameBy ob_parent ob_met ob_calls ob_callMany ob_calledOn ob_saved ob_many ob_width ob_numbers ob_moving fob_tape p_fob_tape p_ob_taped p_ob_size bv_1047 bv_1048 bv_1049 bv_1050 bv_1051 p_ob_houseMany p_ob_bestSet p_ob_bestOver p_ob_tenMany p_ob_callMany (by decide) (by omega) (by omega) (by assumption) (by decide +kernel)) rfl ⟨(callB_of 3 hw0 (gA m_690) rfl rfl rfl (hw0 _ m_41) (hw0 _ m_602) cb_X10_told ⟨Nat.le_of_ble_eq_true rfl, Nat.le_of_ble_eq_true rfl⟩), (hw0 _ m_603), (hw0 _ m_604)⟩ (ci := 10) (q := (RX10, TX10, 41)) rfl rfl rfl hl.1 (Nat.le_of_ble_eq_true rfl) dX10_readOwes_63 ⟨Nat.le_of_ble_eq_true rfl, Nat.le_of_ble_eq_true rfl⟩ (fun r_1064 w_1064 H locs hw_1064 hP hD hS => ?_)
  obtain ⟨v_1065, v_1066, v_1067, v_1068, v_1069, v_1070, v_1071, bv_1065, bv_1066, bv_1067, bv_1068, bv_1069, bv_1070, h_1072, h_1073, h_1074, h_1075, h_1076, h_1077, h_1078, h_1079, er_1064, rfl⟩ := hw_1064
  subst r_1064
  have hLh_1080 : ((lenS.getD 22 0 : Nat) : Int) = 6 := by decide
  obtain ⟨hP, hD⟩ : vPD G A H [(ce_X10 ob ob_thrown ob_world ob_images ob_hasImage ob_tape ob_taped ob_five ob_size v_1066 v_1067 v_1068 v_1069 v_1070 v_1071 ob_fresh ob_parts ob_houses ob_houseMany ob_worthOf ob_byCall ob_over ob_bestSet ob_bestOver ob_bestWorth ob_row ob_tenDebts ob_tenMany ob_fewestBy ob_covered ob_queue ob_cameBy ob_parent ob_met ob_calls ob_callMany ob_calledOn ob_saved ob_many ob_width ob_numbers ob_moving), (ce_b1400 y ob_tape fob_tape), (ce_i9080 y ob_fresh f_1062)] := ⟨hP, hD⟩
  refine va_iast hx hb hK.1 hP hD hS 2 1 rfl rfl (vi bv_1063 (by decide)) dX10_readOwes_66 (fun H locs hP hD hS => ?_)
  generalize hf_1081 : (upd f_1062 (v_1063 : Int32).toNatClampNeg v_1065) = f_1081 at hP hD
  have zf_1081_0 : (f_1081 0).toInt = (f_1062 0).toInt := hf_1081 ▸ pin_ne (ix_not bv_1063 (by decide))
  have zf_1081_1 : (f_1081 1).toInt = (f_1062 1).toInt := hf_1081 ▸ pin_ne (ix_not bv_1063 (by decide))
  have zf_1081_2 : (f_1081 2).toInt = (f_1062 2).toInt := hf_1081 ▸ pin_ne (ix_not bv_1063 (by decide))
  have zf_1081_3 : (f_1081 3).toInt = (f_1062 3).toInt := hf_1081 ▸ pin_ne (ix_not bv_1063 (by decide))
  have bf_1081 : RBw f_1081 := hf_1081 ▸ upw (df_1062).1.1 pl_103 (by omega) (h_1002) bv_1065
  have cf_1081 : RVw f_1081 := hf_1081 ▸ RV_up (df_1062).1 (hf_1081 ▸ bf_1081) (ix_out bv_1063 (by decide))
  have df_1081 : RWw f_1081 := ⟨cf_1081, hf_1081 ▸ WQ_l (df_1062).1.1 (df_1062).2 (by have h9 := cl_to (x := v_1063) (by omega); omega) (by have h9 := cl_to (x := v_1063) (by omega); omega)⟩
  obtain ⟨hP, hD⟩ : vPD G A H [(ce_X10 ob ob_thrown ob_world ob_images ob_hasImage ob_tape ob_taped ob_five ob_size v_1066 v_1067 v_1068 v_1069 v_1070 v_1071 ob_fresh ob_parts ob_houses ob_houseMany ob_worthOf ob_byCall ob_over ob_bestSet ob_bestOver ob_bestWorth ob_row ob_tenDebts ob_tenMany ob_fewestBy ob_covered ob_queue ob_cameBy ob_parent ob_met ob_calls ob_callMany ob_calledOn ob_saved ob_many ob_width ob_numbers ob_moving), (ce_b1400 y ob_tape fob_tape), (ce_i9080 y ob_fresh f_1081)] := ⟨hP, hD⟩
  refine lv_aload_n hx hb dX10_readOwes_67 rfl (lv_at hl 1 rfl) ?_
  refine va_get (D := G) (ci := 10) (v := .ref ob_fresh) (C := RX10) (T := TX10) (N := 41) hx hb hw0 inA_wsX100 hown hK.1 hP 0 rfl rfl 14 (by decide) (hw0 _ m_521) (fun _ h9 => h9) rfl dX10_readOwes_68 ?_
  refine lv_iload_n hx hb dX10_readOwes_71 rfl (lv_at hl 0 rfl) ?_
  refine lv_iconst (v := 3) hx hb dX10_readOwes_72 (by decide) ?_
  refine lv_iadd hx hb dX10_readOwes_73 ?_
  refine lv_topi (fun v_1082 ev_1082 => ?_)
  have qv_1082 := ba_add ev_1082 bv_1004 (bkc (x := 3) (c := 3) (by decide)) (by decide)
  have bv_1082 : (157 : Int) ≤ v_1082.toInt ∧ v_1082.toInt ≤ 272 := bq_add qv_1082 bv_1004 (bkc (x := 3) (c := 3) (by decide)) _ _ (by decide)
  have qv_1082 : v_1082.toInt = v_1004.toInt + (3) := qv_1082
  refine lv_aload_n hx hb dX10_readOwes_74 rfl (lv_at hl 1 rfl) ?_
  refine va_get (D := G) (ci := 10) (v := .ref ob_fresh) (C := RX10) (T := TX10) (N := 41) hx hb hw0 inA_wsX100 hown hK.1 hP 0 rfl rfl 14 (by decide) (hw0 _ m_521) (fun _ h9 => h9) rfl dX10_readOwes_75 ?_
  refine lv_iconst (v := 2) hx hb dX10_readOwes_78 (by decide) ?_
  refine va_iald hx hb hK.1 hP 2 1 rfl rfl (vi (bkc (x := 2) (c := 2) (by decide)) (by decide)) dX10_readOwes_79 ?_
  refine lv_topi (fun v_1083 ev_1083 => ?_)
  have bv_1083 : (0 : Int) ≤ v_1083.toInt ∧ v_1083.toInt ≤ 180 := rdk ev_1083 (df_1081).1.1 (by decide)
  have yv_1083 : v_1083.toInt = (f_1081 2).toInt := congrArg Int32.toInt ev_1083
  refine va_iast hx hb hK.1 hP hD hS 2 1 rfl rfl (vi bv_1082 (by decide)) dX10_readOwes_80 (fun H locs hP hD hS => ?_)
  generalize hf_1084 : (upd f_1081 (v_1082 : Int32).toNatClampNeg v_1083) = f_1084 at hP hD
  have zf_1084_0 : (f_1084 0).toInt = (f_1081 0).toInt := hf_1084 ▸ pin_ne (ix_not bv_1082 (by decide))
  have zf_1084_1 : (f_1084 1).toInt = (f_1081 1).toInt := hf_1084 ▸ pin_ne (ix_not bv_1082 (by decide))
  have zf_1084_2 : (f_1084 2).toInt = (f_1081 2).toInt := hf_1084 ▸ pin_ne (ix_not bv_1082 (by decide))
  have zf_1084_3 : (f_1084 3).toInt = (f_1081 3).toInt := hf_1084 ▸ pin_ne (ix_not bv_1082 (by decide))
  have bf_1084 : RBw f_1084 := hf_1084 ▸ upw (df_1081).1.1 pl_104 (by omega) (h_1002) bv_1083
  have cf_1084 : RVw f_1084 := hf_1084 ▸ RV_up (df_1081).1 (hf_1084 ▸ bf_1084) (ix_out bv_1082 (by decide))
  have df_1084 : RWw f_1084 := ⟨cf_1084, hf_1084 ▸ WQ_l (df_1081).1.1 (df_1081).2 (by have h9 := cl_to (x := v_1082) (by omega); omega) (by have h9 := cl_to (x := v_1082) (by omega); omega)⟩
  obtain ⟨hP, hD⟩ : vPD G A H [(ce_X10 ob ob_thrown ob_world ob_images ob_hasImage ob_tape ob_taped ob_five ob_size v_1066 v_1067 v_1068 v_1069 v_1070 v_1071 ob_fresh ob_parts ob_houses ob_houseMany ob_worthOf ob_byCall ob_over ob_bestSet ob_bestOver ob_bestWorth ob_row ob_tenDebts ob_tenMany ob_fewestBy ob_covered ob_queue ob_cameBy ob_parent ob_met ob_calls ob_callMany ob_calledOn ob_saved ob_many ob_width ob_numbers ob_moving), (ce_b1400 y ob_tape fob_tape), (ce_i9080 y ob_fresh f_1084)] := ⟨hP, hD⟩
  have E_1086 : r_ch fob_tape ob_size.toInt _ ((ob_faultKind.toInt, ob_faultPlace.toInt, ob_from.toInt) : Int × Int × Int) = r_ad fob_tape ob_size.toInt ((ob_faultKind.toInt, ob_faultPlace.toInt, ob_from.toInt) : Int × Int × Int) := (chi_of h_1008).trans (chi_y ⟨by omega, by omega⟩).symm
  have E_1085 : ((v_1070.toInt, v_1071.toInt, v_1067.toInt) : Int × Int × Int) = r_o1 fob_tape ob_size.toInt ((ob_faultKind.toInt, ob_faultPlace.toInt, ob_from.toInt) : Int × Int × Int) := by rw [h_1072, chi_eq (i := 22) (j := 3) (by decide +kernel) (by decide +kernel), h_1053, chi_of h_1045, h_1033, chi_eq (i := 21) (j := 1) (by decide +kernel) (by decide +kernel), h_1016, E_1086]; rfl
  refine lv_aload_n hx hb dX10_readOwes_81 rfl (lv_at hl 1 rfl) ?_
  refine va_ldcSw (own := RX10) (tx := "if") (q := aK 23) hx hb hown (hE.2.1 ("CardBowlModel", 259, "if", 23) sl_CardBowlModel_259) dX10_readOwes_82 ?_
  refine cutW 112 (fun H locs ls st => ∃ (v_1336 : Int32) (v_1337 : Int32) (v_1338 : Int32) (v_1339 : Int32) (v_1340 : Int32) (v_1341 : Int32) (f_1342 : Nat → Int32), ((0 : Int) ≤ v_1336.toInt ∧ v_1336.toInt ≤ 1400) ∧ ((0 : Int) ≤ v_1337.toInt ∧ v_1337.toInt ≤ 1400) ∧ ((0 : Int) ≤ v_1338.toInt ∧ v_1338.toInt ≤ 4) ∧ ((0 : Int) ≤ v_1339.toInt ∧ v_1339.toInt ≤ 9999) ∧ ((0 : Int) ≤ v_1340.toInt ∧ v_1340.toInt ≤ 3) ∧ (RWw f_1342) ∧ (r_cl fob_tape ob_size.toInt (r_oi fob_tape ob_size.toInt (r_o1 fob_tape ob_size.toInt ((ob_faultKind.toInt, ob_faultPlace.toInt, ob_from.toInt) : Int × Int × Int))) = r_cl fob_tape ob_size.toInt ((v_1340.toInt, v_1341.toInt, v_1337.toInt) : Int × Int × Int)) ∧ (qTok fob_tape ob_size.toInt 9999 v_1338.toInt v_1337.toInt v_1336.toInt v_1339.toInt) ∧ (v_1337.toInt ≤ v_1336.toInt) ∧ (v_1338.toInt = 0 ∨ v_1337.toInt < v_1336.toInt) ∧ (ob_from.toInt ≤ v_1337.toInt) ∧ (ob_faultKind.toInt = 0 ∨ ¬ v_1340.toInt = 0) ∧ (4 * (f_1342 3).toInt ≤ v_1337.toInt + 3) ∧ (2 * (f_1342 2).toInt ≤ (f_1342 3).toInt) ∧ ((f_1342 0).toInt = (fob_fresh 0).toInt) ∧ ((f_1342 1).toInt = (fob_fresh 1).toInt) ∧ ((f_1084 2).toInt ≤ (f_1342 2).toInt) ∧ (frm 274 f_1084 f_1342) ∧ (¬ v_1340.toInt = 0 ∨ (ob_faultKind.toInt = 0 ∧ ob_from.toInt + 1 ≤ v_1337.toInt)) ∧ st = [] ∧ vPD G A H [(ce_X10 ob ob_thrown ob_world ob_images ob_hasImage ob_tape ob_taped ob_five ob_size v_1336 v_1337 v_1338 v_1339 v_1340 v_1341 ob_fresh ob_parts ob_houses ob_houseMany ob_worthOf ob_byCall ob_over ob_bestSet ob_bestOver ob_bestWorth ob_row ob_tenDebts ob_tenMany ob_fewestBy ob_covered ob_queue ob_cameBy ob_parent ob_met ob_calls ob_callMany ob_calledOn ob_saved ob_many ob_width ob_numbers ob_moving), (ce_b1400 y ob_tape fob_tape), (ce_i9080 y ob_fresh f_1342)] ∧ va_S A s.heap H locs ∧ lv_has ls 2 [(1, .int v_1004), (0, .ref ob)]) ?_ (fun J_112_1342 => ?_)
  · rintro H locs ls st ⟨v_1336, v_1337, v_1338, v_1339, v_1340, v_1341, f_1342, bv_1336, bv_1337, bv_1338, bv_1339, bv_1340, bf_1342, rl1342_0, rl1342_1, rl1342_2, rl1342_3, rl1342_4, rl1342_5, rl1342_6, rl1342_7, rl1342_8, rl1342_9, rl1342_10, rl1342_11, rl1342_12, rfl, ⟨hP, hD⟩, hS, hl⟩
    refine lv_aload_n hx hb dX10_readOwes_112 rfl (lv_at hl 1 rfl) ?_
    refine va_get (D := G) (ci := 10) (v := .ref ob_fresh) (C := RX10) (T := TX10) (N := 41) hx hb hw0 inA_wsX100 hown hK.1 hP 0 rfl rfl 14 (by decide) (hw0 _ m_521) (fun _ h9 => h9) rfl dX10_readOwes_113 ?_
    refine lv_iload_n hx hb dX10_readOwes_116 rfl (lv_at hl 0 rfl) ?_
    refine lv_iconst (v := 4) hx hb dX10_readOwes_117 (by decide) ?_
    refine lv_iadd hx hb dX10_readOwes_118 ?_
    refine lv_topi (fun v_1343 ev_1343 => ?_)
    have qv_1343 := ba_add ev_1343 bv_1004 (bkc (x := 4) (c := 4) (by decide)) (by decide)
    have bv_1343 : (158 : Int) ≤ v_1343.toInt ∧ v_1343.toInt ≤ 273 := bq_add qv_1343 bv_1004 (bkc (x := 4) (c := 4) (by decide)) _ _ (by decide)
    have qv_1343 : v_1343.toInt = v_1004.toInt + (4) := qv_1343
    refine lv_aload_n hx hb dX10_readOwes_119 rfl (lv_at hl 1 rfl) ?_
    refine va_get (D := G) (ci := 10) (v := .ref ob_fresh) (C := RX10) (T := TX10) (N := 41) hx hb hw0 inA_wsX100 hown hK.1 hP 0 rfl rfl 14 (by decide) (hw0 _ m_521) (fun _ h9 => h9) rfl dX10_readOwes_120 ?_
    refine lv_iconst (v := 2) hx hb dX10_readOwes_123 (by decide) ?_
    refine va_iald hx hb hK.1 hP 2 1 rfl rfl (vi (bkc (x := 2) (c := 2) (by decide)) (by decide)) dX10_readOwes_124 ?_
    refine lv_topi (fun v_1344 ev_1344 => ?_)
    have bv_1344 : (0 : Int) ≤ v_1344.toInt ∧ v_1344.toInt ≤ 180 := rdk ev_1344 (bf_1342).1.1 (by decide)
    have yv_1344 : v_1344.toInt = (f_1342 2).toInt := congrArg Int32.toInt ev_1344
    refine lv_aload_n hx hb dX10_readOwes_125 rfl (lv_at hl 1 rfl) ?_
    refine va_get (D := G) (ci := 10) (v := .ref ob_fresh) (C := RX10) (T := TX10) (N := 41) hx hb hw0 inA_wsX100 hown hK.1 hP 0 rfl rfl 14 (by decide) (hw0 _ m_521) (fun _ h9 => h9) rfl dX10_readOwes_126 ?_
    refine lv_iload_n hx hb dX10_readOwes_129 rfl (lv_at hl 0 rfl) ?_
    refine lv_iconst (v := 3) hx hb dX10_readOwes_130 (by decide) ?_
    refine lv_iadd hx hb dX10_readOwes_131 ?_
    refine lv_topi (fun v_1345 ev_1345 => ?_)
    obtain rfl : v_1082 = v_1345 := (ev_1345.trans (ev_1082.symm)).symm
    refine va_iald hx hb hK.1 hP 2 1 rfl rfl (vi bv_1082 (by decide)) dX10_readOwes_132 ?_
    refine lv_topi (fun v_1346 ev_1346 => ?_)
    have bv_1346 : (0 : Int) ≤ v_1346.toInt ∧ v_1346.toInt ≤ 180 := rdw ev_1346 (bf_1342).1.1 pl_34 (by omega) (h_1002)
    refine lv_isub hx hb dX10_readOwes_133 ?_
    refine lv_topi (fun v_1347 ev_1347 => ?_)
    have qv_1347 := ba_sub ev_1347 bv_1344 bv_1346 (by decide)
    have bv_1347 : (-180 : Int) ≤ v_1347.toInt ∧ v_1347.toInt ≤ 180 := bq_sub qv_1347 bv_1344 bv_1346 _ _ (by decide)
    have h_1348 : (0 : Int) ≤ v_1347.toInt ∧ v_1347.toInt ≤ 180 := by have h9 := cl_to (x := v_1082) (by omega); have h8 := cl_to (x := v_1082) (by omega); have h7 := frm_i rl1342_11 (j := v_1082.toNatClampNeg) (by omega); have h6 := upd_i (j := v_1082.toNatClampNeg) hf_1084 (by omega); have h5 := congrArg Int32.toInt ev_1346; omega
    refine va_iast hx hb hK.1 hP hD hS 2 1 rfl rfl (vi bv_1343 (by decide)) dX10_readOwes_134 (fun H locs hP hD hS => ?_)
    generalize hf_1349 : (upd f_1342 (v_1343 : Int32).toNatClampNeg v_1347) = f_1349 at hP hD
    have zf_1349_0 : (f_1349 0).toInt = (f_1342 0).toInt := hf_1349 ▸ pin_ne (ix_not bv_1343 (by decide))
    have zf_1349_1 : (f_1349 1).toInt = (f_1342 1).toInt := hf_1349 ▸ pin_ne (ix_not bv_1343 (by decide))
    have zf_1349_2 : (f_1349 2).toInt = (f_1342 2).toInt := hf_1349 ▸ pin_ne (ix_not bv_1343 (by decide))
    have zf_1349_3 : (f_1349 3).toInt = (f_1342 3).toInt := hf_1349 ▸ pin_ne (ix_not bv_1343 (by decide))
    have bf_1349 : RBw f_1349 := hf_1349 ▸ upw (bf_1342).1.1 pl_105 (by omega) (h_1002) h_1348
    have cf_1349 : RVw f_1349 := hf_1349 ▸ RV_up (bf_1342).1 (hf_1349 ▸ bf_1349) (ix_out bv_1343 (by decide))
    have df_1349 : RWw f_1349 := ⟨cf_1349, hf_1349 ▸ WQ_l (bf_1342).1.1 (bf_1342).2 (by have h9 := cl_to (x := v_1343) (by omega); omega) (by have h9 := cl_to (x := v_1343) (by omega); omega)⟩
    obtain ⟨hP, hD⟩ : vPD G A H [(ce_X10 ob ob_thrown ob_world ob_images ob_hasImage ob_tape ob_taped ob_five ob_size v_1336 v_1337 v_1338 v_1339 v_1340 v_1341 ob_fresh ob_parts ob_houses ob_houseMany ob_worthOf ob_byCall ob_over ob_bestSet ob_bestOver ob_bestWorth ob_row ob_tenDebts ob_tenMany ob_fewestBy ob_covered ob_queue ob_cameBy ob_parent ob_met ob_calls ob_callMany ob_calledOn ob_saved ob_many ob_width ob_numbers ob_moving), (ce_b1400 y ob_tape fob_tape), (ce_i9080 y ob_fresh f_1349)] := ⟨hP, hD⟩
    refine lv_aload_n hx hb dX10_readOwes_135 rfl (lv_at hl 1 rfl) ?_
    refine cVim (As := []) (rest := []) ⟨hx, hb, hml, hown, hw0⟩ hA hK hP hD hS [true] (sX10_good l G y _ ob ob_thrown ob_world ob_images ob_hasImage ob_tape ob_taped ob_five ob_size v_1336 v_1337 v_1338 v_1339 v_1340 v_1341 ob_fresh ob_parts ob_houses ob_houseMany ob_worthOf ob_byCall ob_over ob_bestSet ob_bestOver ob_bestWorth ob_row ob_tenDebts ob_tenMany ob_fewestBy ob_covered ob_queue ob_cameBy ob_parent ob_met ob_calls ob_callMany ob_calledOn ob_saved ob_many ob_width ob_numbers ob_moving p_ob_taped p_ob_size bv_1336 bv_1337 bv_1338 bv_1339 bv_1340 p_ob_houseMany p_ob_bestSet p_ob_bestOver p_ob_tenMany p_ob_callMany) rfl ⟨(callB_of 0 hw0 (gA m_510) rfl rfl rfl (hw0 _ m_41) (hw0 _ m_453) cb_X10_good ⟨Nat.le_of_ble_eq_true rfl, Nat.le_of_ble_eq_true rfl⟩), (hw0 _ m_454), (hw0 _ m_455)⟩ (ci := 10) (q := (RX10, TX10, 41)) rfl rfl rfl hl.1 (Nat.le_of_ble_eq_true rfl) dX10_readOwes_136 ⟨Nat.le_of_ble_eq_true rfl, Nat.le_of_ble_eq_true rfl⟩ (fun r_1350 w_1350 H locs hw_1350 hP hD hS => ?_)
    rcases hw_1350 with ⟨h_1351, rfl, rfl⟩ | ⟨h_1352, rfl, rfl⟩
    · skip
      obtain ⟨hP, hD⟩ : vPD G A H [(ce_X10 ob ob_thrown ob_world ob_images ob_hasImage ob_tape ob_taped ob_five ob_size v_1336 v_1337 v_1338 v_1339 v_1340 v_1341 ob_fresh ob_parts ob_houses ob_houseMany ob_worthOf ob_byCall ob_over ob_bestSet ob_bestOver ob_bestWorth ob_row ob_tenDebts ob_tenMany ob_fewestBy ob_covered ob_queue ob_cameBy ob_parent ob_met ob_calls ob_callMany ob_calledOn ob_saved ob_many ob_width ob_numbers ob_moving), (ce_b1400 y ob_tape fob_tape), (ce_i9080 y ob_fresh f_1349)] := ⟨hP, hD⟩
      refine lv_if_eq (tgt := 152) hx hb dX10_readOwes_139 (by decide) (fun _ => ?_) (fun c9 => absurd (by decide) c9)
      exact W.vret hx hb hr (fun t ht hW => ⟨⟨_, rfl, ⟨v_1336, v_1337, v_1338, v_1339, v_1340, v_1341, f_1349, bv_1336, bv_1337, bv_1338, bv_1339, (bw (0) (3) h_1351 (by decide)), df_1349, rl1342_0, (by assumption), by omega, by omega, by omega, by omega, by omega, by omega, by omega, by omega, by omega, rfl⟩, by rw [ht]; exact hP, hD⟩, hS.F ht⟩) hS.2.2 dX10_readOwes_152
    · skip
      obtain ⟨hP, hD⟩ : vPD G A H [(ce_X10 ob ob_thrown ob_world ob_images ob_hasImage ob_tape ob_taped ob_five ob_size v_1336 v_1337 v_1338 v_1339 v_1340 v_1341 ob_fresh ob_parts ob_houses ob_houseMany ob_worthOf ob_byCall ob_over ob_bestSet ob_bestOver ob_bestWorth ob_row ob_tenDebts ob_tenMany ob_fewestBy ob_covered ob_queue ob_cameBy ob_parent ob_met ob_calls ob_callMany ob_calledOn ob_saved ob_many ob_width ob_numbers ob_moving), (ce_b1400 y ob_tape fob_tape), (ce_i9080 y ob_fresh f_1349)] := ⟨hP, hD⟩
      refine lv_if_eq (tgt := 152) hx hb dX10_readOwes_139 (by decide) (fun c9 => absurd c9 (by decide)) (fun _ => ?_)
      refine lv_aload_n hx hb dX10_readOwes_142 rfl (lv_at hl 1 rfl) ?_
      refine va_get (D := G) (ci := 10) (v := .ref ob_fresh) (C := RX10) (T := TX10) (N := 41) hx hb hw0 inA_wsX100 hown hK.1 hP 0 rfl rfl 14 (by decide) (hw0 _ m_521) (fun _ h9 => h9) rfl dX10_readOwes_143 ?_
      refine lv_iconst (v := 1) hx hb dX10_readOwes_146 (by decide) ?_
      refine lv_dup2_11 hx hb dX10_readOwes_147 rfl rfl ?_
      refine va_iald hx hb hK.1 hP 2 1 rfl rfl (vi (bkc (x := 1) (c := 1) (by decide)) (by decide)) dX10_readOwes_148 ?_
      refine lv_topi (fun v_1353 ev_1353 => ?_)
      have bv_1353 : (0 : Int) ≤ v_1353.toInt ∧ v_1353.toInt ≤ 24 := rdk ev_1353 (df_1349).1.1 (by decide)
      have yv_1353 : v_1353.toInt = (f_1349 1).toInt := congrArg Int32.toInt ev_1353
      refine lv_iconst (v := 1) hx hb dX10_readOwes_149 (by decide) ?_
      refine lv_iadd hx hb dX10_readOwes_150 ?_
      refine lv_topi (fun v_1354 ev_1354 => ?_)
      have qv_1354 := ba_add ev_1354 bv_1353 (bkc (x := 1) (c := 1) (by decide)) (by decide)
      have bv_1354 : (1 : Int) ≤ v_1354.toInt ∧ v_1354.toInt ≤ 25 := bq_add qv_1354 bv_1353 (bkc (x := 1) (c := 1) (by decide)) _ _ (by decide)
      have qv_1354 : v_1354.toInt = v_1353.toInt + (1) := qv_1354
      have h_1355 : (0 : Int) ≤ v_1354.toInt ∧ v_1354.toInt ≤ 24 := by omega
      refine va_iast hx hb hK.1 hP hD hS 2 1 rfl rfl (vi (bkc (x := 1) (c := 1) (by decide)) (by decide)) dX10_readOwes_151 (fun H locs hP hD hS => ?_)
      generalize hf_1356 : (upd f_1349 (1 : Int32).toNatClampNeg v_1354) = f_1356 at hP hD
      have zf_1356_0 : (f_1356 0).toInt = (f_1349 0).toInt := hf_1356 ▸ pin_ne (ix_not (bkc (x := 1) (c := 1) (by decide)) (by decide))
      have zf_1356_1 : (f_1356 1).toInt = (v_1354 : Int32).toInt := hf_1356 ▸ pin_eq (by decide)
      have zf_1356_2 : (f_1356 2).toInt = (f_1349 2).toInt := hf_1356 ▸ pin_ne (ix_not (bkc (x := 1) (c := 1) (by decide)) (by decide))
      have zf_1356_3 : (f_1356 3).toInt = (f_1349 3).toInt := hf_1356 ▸ pin_ne (ix_not (bkc (x := 1) (c := 1) (by decide)) (by decide))
      have bf_1356 : RBw f_1356 := hf_1356 ▸ upk (df_1349).1.1 h_1355 (by decide)
      have cf_1356 : RVw f_1356 := hf_1356 ▸ RV_up (df_1349).1 (hf_1356 ▸ bf_1356) (ix_out (bkc (x := 1) (c := 1) (by decide)) (by decide))
      have df_1356 : RWw f_1356 := ⟨cf_1356, hf_1356 ▸ WQ_s1 (by decide) (df_1349).1.1 (df_1349).2 (by omega) (by have h9 := cl_to (x := v_1343) (by omega); have h8 := cl_to (x := v_1082) (by omega); have h7 := upd_i (j := 158 + 5 * (f_1349 1).toInt.toNat) hf_1349 (by omega); have h6 := upd_o (j := 157 + 5 * (f_1349 1).toInt.toNat) hf_1349 (by omega); have h5 : v_1346.toInt = (f_1342 (157 + 5 * (f_1349 1).toInt.toNat)).toInt := (by rw [ev_1346, show v_1082.toNatClampNeg = 157 + 5 * (f_1349 1).toInt.toNat by omega]); omega)⟩
      obtain ⟨hP, hD⟩ : vPD G A H [(ce_X10 ob ob_thrown ob_world ob_images ob_hasImage ob_tape ob_taped ob_five ob_size v_1336 v_1337 v_1338 v_1339 v_1340 v_1341 ob_fresh ob_parts ob_houses ob_houseMany ob_worthOf ob_byCall ob_over ob_bestSet ob_bestOver ob_bestWorth ob_row ob_tenDebts ob_tenMany ob_fewestBy ob_covered ob_queue ob_cameBy ob_parent ob_met ob_calls ob_callMany ob_calledOn ob_saved ob_many ob_width ob_numbers ob_moving), (ce_b1400 y ob_tape fob_tape), (ce_i9080 y ob_fresh f_1356)] := ⟨hP, hD⟩
      exact W.vret hx hb hr (fun t ht hW => ⟨⟨_, rfl, ⟨v_1336, v_1337, v_1338, v_1339, v_1340, v_1341, f_1356, bv_1336, bv_1337, bv_1338, bv_1339, (bw (0) (3) h_1352 (by decide)), df_1356, rl1342_0, (by assumption), by omega, by omega, by omega, by omega, by omega, by omega, by omega, by omega, by omega, rfl⟩, by rw [ht]; exact hP, hD⟩, hS.F ht⟩) hS.2.2 dX10_readOwes_152
  · skip
    refine cViSm (As := [.ref (aK 23)]) (rest := []) ⟨hx, hb, hml, hown, hw0⟩ hA hK hP hD hS hE [true, true] (sX10_takes l G y aK aV _ ob 23 ob_thrown ob_world ob_images ob_hasImage ob_tape ob_taped ob_five ob_size v_1066 v_1067 v_1068 v_1069 v_1070 v_1071 ob_fresh ob_parts ob_houses ob_houseMany ob_worthOf ob_byCall ob_over ob_bestSet ob_bestOver ob_bestWorth ob_row ob_tenDebts ob_tenMany ob_fewestBy ob_covered ob_queue ob_cameBy ob_parent ob_met ob_calls ob_callMany ob_calledOn ob_saved ob_many ob_width ob_numbers ob_moving fob_tape p_fob_tape p_ob_taped p_ob_size bv_1066 bv_1067 bv_1068 bv_1069 bv_1070 p_ob_houseMany p_ob_bestSet p_ob_bestOver p_ob_tenMany p_ob_callMany (by decide) (by omega) (by omega) (by assumption) (by decide +kernel)) rfl ⟨(callB_of 1 hw0 (gA m_681) rfl rfl rfl (hw0 _ m_41) (hw0 _ m_565) cb_X10_takes ⟨Nat.le_of_ble_eq_true rfl, Nat.le_of_ble_eq_true rfl⟩), (hw0 _ m_566), (hw0 _ m_567)⟩ (ci := 10) (q := (RX10, TX10, 41)) rfl rfl rfl hl.1 (Nat.le_of_ble_eq_true rfl) dX10_readOwes_85 ⟨Nat.le_of_ble_eq_true rfl, Nat.le_of_ble_eq_true rfl⟩ (fun r_1357 w_1357 H locs hw_1357 hP hD hS => ?_)
    rcases hw_1357 with ⟨h_1358, h_1359, rfl, rfl⟩ | ⟨v_1360, v_1361, v_1362, v_1363, bv_1360, bv_1361, bv_1362, bv_1363, h_1364, h_1365, h_1366, h_1367, h_1368, h_1369, h_1370, h_1371, rfl, rfl⟩
    · skip
      have hLh_1372 : ((lenS.getD 23 0 : Nat) : Int) = 2 := by decide
      obtain ⟨hP, hD⟩ : vPD G A H [(ce_X10 ob ob_thrown ob_world ob_images ob_hasImage ob_tape ob_taped ob_five ob_size v_1066 v_1067 v_1068 v_1069 v_1070 v_1071 ob_fresh ob_parts ob_houses ob_houseMany ob_worthOf ob_byCall ob_over ob_bestSet ob_bestOver ob_bestWorth ob_row ob_tenDebts ob_tenMany ob_fewestBy ob_covered ob_queue ob_cameBy ob_parent ob_met ob_calls ob_callMany ob_calledOn ob_saved ob_many ob_width ob_numbers ob_moving), (ce_b1400 y ob_tape fob_tape), (ce_i9080 y ob_fresh f_1084)] := ⟨hP, hD⟩
      refine lv_if_eq (tgt := 112) hx hb dX10_readOwes_88 (by decide) (fun _ => ?_) (fun c9 => absurd (by decide) c9)
      exact J_112_1342 _ _ _ _ ⟨v_1066, v_1067, v_1068, v_1069, v_1070, v_1071, f_1084, bv_1066, bv_1067, bv_1068, bv_1069, bv_1070, df_1084, (by have lm1 : Int32.toInt (-1) = -1 := (by decide); have l91 : Int32.toInt 1 = 1 := (by decide); have l92 : Int32.toInt 2 = 2 := (by decide); have l93 : Int32.toInt 3 = 3 := (by decide); rw [← E_1085, ← oi_0 (by rw [am_eq (i := 4) (j := 23) (by decide +kernel) (by decide +kernel)]; exact h_1358)]), (by assumption), (by omega), (by omega), (by omega), (by omega), (by omega), (by omega), (by omega), (by omega), (by omega), frm_r, (by omega), rfl, ⟨hP, hD⟩, hS, lv_sub hl [0, 1] rfl⟩
    · skip
      have hLh_1373 : ((lenS.getD 23 0 : Nat) : Int) = 2 := by decide
      obtain ⟨hP, hD⟩ : vPD G A H [(ce_X10 ob ob_thrown ob_world ob_images ob_hasImage ob_tape ob_taped ob_five ob_size v_1360 v_1361 v_1362 v_1363 v_1070 v_1071 ob_fresh ob_parts ob_houses ob_houseMany ob_worthOf ob_byCall ob_over ob_bestSet ob_bestOver ob_bestWorth ob_row ob_tenDebts ob_tenMany ob_fewestBy ob_covered ob_queue ob_cameBy ob_parent ob_met ob_calls ob_callMany ob_calledOn ob_saved ob_many ob_width ob_numbers ob_moving), (ce_b1400 y ob_tape fob_tape), (ce_i9080 y ob_fresh f_1084)] := ⟨hP, hD⟩
      refine lv_if_eq (tgt := 112) hx hb dX10_readOwes_88 (by decide) (fun c9 => absurd c9 (by decide)) (fun _ => ?_)
      refine lv_aload_n hx hb dX10_readOwes_91 rfl (lv_at hl 1 rfl) ?_
      refine cVvSm (As := []) (rest := []) ⟨hx, hb, hml, hown, hw0⟩ hA hK hP hD hS hE [true, true, true] (sX10_readTest l G y aK aV _ ob ob_thrown ob_world ob_images ob_hasImage ob_tape ob_taped ob_five ob_size v_1360 v_1361 v_1362 v_1363 v_1070 v_1071 ob_fresh ob_parts ob_houses ob_houseMany ob_worthOf ob_byCall ob_over ob_bestSet ob_bestOver ob_bestWorth ob_row ob_tenDebts ob_tenMany ob_fewestBy ob_covered ob_queue ob_cameBy ob_parent ob_met ob_calls ob_callMany ob_calledOn ob_saved ob_many ob_width ob_numbers ob_moving fob_tape f_1084 p_fob_tape p_ob_taped p_ob_size bv_1360 bv_1361 bv_1362 bv_1363 bv_1070 df_1084 p_ob_houseMany p_ob_bestSet p_ob_bestOver p_ob_tenMany p_ob_callMany (by omega) (by omega) (by assumption) (by omega) (by omega)) rfl ⟨(callB_of 0 hw0 (gA m_640) rfl rfl rfl (hw0 _ m_41) (hw0 _ m_632) cb_X10_readTest ⟨Nat.le_of_ble_eq_true rfl, Nat.le_of_ble_eq_true rfl⟩), (hw0 _ m_633), (hw0 _ m_634)⟩ (ci := 10) (q := (RX10, TX10, 41)) rfl rfl rfl hl.1 (Nat.le_of_ble_eq_true rfl) dX10_readOwes_92 ⟨Nat.le_of_ble_eq_true rfl, Nat.le_of_ble_eq_true rfl⟩ (fun w_1374 H locs hw_1374 hP hD hS => ?_)
      obtain ⟨v_1375, v_1376, v_1377, v_1378, v_1379, v_1380, f_1381, bv_1375, bv_1376, bv_1377, bv_1378, bv_1379, bf_1381, h_1382, h_1383, h_1384, h_1385, h_1386, h_1387, h_1388, h_1389, h_1390, h_1391, h_1392, h_1393, h_1394, rfl⟩ := hw_1374
      obtain ⟨hP, hD⟩ : vPD G A H [(ce_X10 ob ob_thrown ob_world ob_images ob_hasImage ob_tape ob_taped ob_five ob_size v_1375 v_1376 v_1377 v_1378 v_1379 v_1380 ob_fresh ob_parts ob_houses ob_houseMany ob_worthOf ob_byCall ob_over ob_bestSet ob_bestOver ob_bestWorth ob_row ob_tenDebts ob_tenMany ob_fewestBy ob_covered ob_queue ob_cameBy ob_parent ob_met ob_calls ob_callMany ob_calledOn ob_saved ob_many ob_width ob_numbers ob_moving), (ce_b1400 y ob_tape fob_tape), (ce_i9080 y ob_fresh f_1381)] := ⟨hP, hD⟩
      refine loopX (fun n H locs ls st => ∃ (v_1523 : Int32) (v_1524 : Int32) (v_1525 : Int32) (v_1526 : Int32) (v_1527 : Int32) (v_1528 : Int32) (f_1529 : Nat → Int32), (1400 - v_1524.toInt).toNat = n ∧ ((0 : Int) ≤ v_1523.toInt ∧ v_1523.toInt ≤ 1400) ∧ ((0 : Int) ≤ v_1524.toInt ∧ v_1524.toInt ≤ 1400) ∧ ((0 : Int) ≤ v_1525.toInt ∧ v_1525.toInt ≤ 4) ∧ ((0 : Int) ≤ v_1526.toInt ∧ v_1526.toInt ≤ 9999) ∧ ((0 : Int) ≤ v_1527.toInt ∧ v_1527.toInt ≤ 3) ∧ (RWw f_1529) ∧ ((v_1527.toInt ≠ 0 ∧ r_oi fob_tape ob_size.toInt (r_o1 fob_tape ob_size.toInt ((ob_faultKind.toInt, ob_faultPlace.toInt, ob_from.toInt) : Int × Int × Int)) = ((v_1527.toInt, v_1528.toInt, v_1524.toInt) : Int × Int × Int)) ∨ (v_1527.toInt = 0 ∧ r_oi fob_tape ob_size.toInt (r_o1 fob_tape ob_size.toInt ((ob_faultKind.toInt, ob_faultPlace.toInt, ob_from.toInt) : Int × Int × Int)) = r_tp fob_tape ob_size.toInt (qT fob_tape ob_size.toInt) true ((v_1527.toInt, v_1528.toInt, v_1524.toInt) : Int × Int × Int) ∧ (qam fob_tape ob_size.toInt v_1524.toInt 6 < 0 ∨ 2 < qam fob_tape ob_size.toInt v_1524.toInt 6))) ∧ (qTok fob_tape ob_size.toInt 9999 v_1525.toInt v_1524.toInt v_1523.toInt v_1526.toInt) ∧ (v_1524.toInt ≤ v_1523.toInt) ∧ (v_1525.toInt = 0 ∨ v_1524.toInt < v_1523.toInt) ∧ (ob_from.toInt ≤ v_1524.toInt) ∧ (ob_faultKind.toInt = 0 ∨ ¬ v_1527.toInt = 0) ∧ (4 * (f_1529 3).toInt ≤ v_1524.toInt + 3) ∧ (2 * (f_1529 2).toInt ≤ (f_1529 3).toInt) ∧ ((f_1529 0).toInt = (fob_fresh 0).toInt) ∧ ((f_1529 1).toInt = (fob_fresh 1).toInt) ∧ ((f_1084 2).toInt ≤ (f_1529 2).toInt) ∧ (frm 274 f_1084 f_1529) ∧ (¬ v_1527.toInt = 0 ∨ (ob_faultKind.toInt = 0 ∧ ob_from.toInt + 1 ≤ v_1524.toInt)) ∧ st = [] ∧ vPD G A H [(ce_X10 ob ob_thrown ob_world ob_images ob_hasImage ob_tape ob_taped ob_five ob_size v_1523 v_1524 v_1525 v_1526 v_1527 v_1528 ob_fresh ob_parts ob_houses ob_houseMany ob_worthOf ob_byCall ob_over ob_bestSet ob_bestOver ob_bestWorth ob_row ob_tenDebts ob_tenMany ob_fewestBy ob_covered ob_queue ob_cameBy ob_parent ob_met ob_calls ob_callMany ob_calledOn ob_saved ob_many ob_width ob_numbers ob_moving), (ce_b1400 y ob_tape fob_tape), (ce_i9080 y ob_fresh f_1529)] ∧ va_S A s.heap H locs ∧ lv_has ls 2 [(1, .int v_1004), (0, .ref ob)]) ?_ (n := (1400 - v_1376.toInt).toNat) ⟨v_1375, v_1376, v_1377, v_1378, v_1379, v_1380, f_1381, rfl, bv_1375, bv_1376, bv_1377, bv_1378, bv_1379, bf_1381, (by have lm1 : Int32.toInt (-1) = -1 := (by decide); have l91 : Int32.toInt 1 = 1 := (by decide); have l92 : Int32.toInt 2 = 2 := (by decide); have l93 : Int32.toInt 3 = 3 := (by decide); exact tt_q (oi_1 E_1085 (by rw [am_eq (i := 23) (j := 4) (by decide +kernel) (by decide +kernel)] at *; omega) h_1364) h_1382), (by assumption), (by omega), (by omega), (by omega), (by omega), (by omega), (by omega), (by omega), (by omega), (by omega), h_1394, (by omega), rfl, ⟨hP, hD⟩, hS, lv_sub hl [0, 1] rfl⟩
      rintro n ih_1567 H locs ls st ⟨v_1523, v_1524, v_1525, v_1526, v_1527, v_1528, f_1529, hn_1567, bv_1523, bv_1524, bv_1525, bv_1526, bv_1527, bf_1529, rl1529_0, rl1529_1, rl1529_2, rl1529_3, rl1529_4, rl1529_5, rl1529_6, rl1529_7, rl1529_8, rl1529_9, rl1529_10, rl1529_11, rl1529_12, rfl, ⟨hP, hD⟩, hS, hl⟩
      refine lv_aload_n hx hb dX10_readOwes_95 rfl (lv_at hl 1 rfl) ?_
      refine va_ldcSw (own := RX10) (tx := "and") (q := aK 35) hx hb hown (hE.2.1 ("CardBowlModel", 264, "and", 35) sl_CardBowlModel_264) dX10_readOwes_96 ?_
      refine cViSm (As := [.ref (aK 35)]) (rest := []) ⟨hx, hb, hml, hown, hw0⟩ hA hK hP hD hS hE [true, true] (sX10_takes l G y aK aV _ ob 35 ob_thrown ob_world ob_images ob_hasImage ob_tape ob_taped ob_five ob_size v_1523 v_1524 v_1525 v_1526 v_1527 v_1528 ob_fresh ob_parts ob_houses ob_houseMany ob_worthOf ob_byCall ob_over ob_bestSet ob_bestOver ob_bestWorth ob_row ob_tenDebts ob_tenMany ob_fewestBy ob_covered ob_queue ob_cameBy ob_parent ob_met ob_calls ob_callMany ob_calledOn ob_saved ob_many ob_width ob_numbers ob_moving fob_tape p_fob_tape p_ob_taped p_ob_size bv_1523 bv_1524 bv_1525 bv_1526 bv_1527 p_ob_houseMany p_ob_bestSet p_ob_bestOver p_ob_tenMany p_ob_callMany (by decide) (by omega) (by omega) (by assumption) (by decide +kernel)) rfl ⟨(callB_of 1 hw0 (gA m_681) rfl rfl rfl (hw0 _ m_41) (hw0 _ m_565) cb_X10_takes ⟨Nat.le_of_ble_eq_true rfl, Nat.le_of_ble_eq_true rfl⟩), (hw0 _ m_566), (hw0 _ m_567)⟩ (ci := 10) (q := (RX10, TX10, 41)) rfl rfl rfl hl.1 (Nat.le_of_ble_eq_true rfl) dX10_readOwes_99 ⟨Nat.le_of_ble_eq_true rfl, Nat.le_of_ble_eq_true rfl⟩ (fun r_1568 w_1568 H locs hw_1568 hP hD hS => ?_)
      rcases hw_1568 with ⟨h_1569, h_1570, rfl, rfl⟩ | ⟨v_1571, v_1572, v_1573, v_1574, bv_1571, bv_1572, bv_1573, bv_1574, h_1575, h_1576, h_1577, h_1578, h_1579, h_1580, h_1581, h_1582, rfl, rfl⟩
      · skip
        have hLh_1583 : ((lenS.getD 35 0 : Nat) : Int) = 3 := by decide
        obtain ⟨hP, hD⟩ : vPD G A H [(ce_X10 ob ob_thrown ob_world ob_images ob_hasImage ob_tape ob_taped ob_five ob_size v_1523 v_1524 v_1525 v_1526 v_1527 v_1528 ob_fresh ob_parts ob_houses ob_houseMany ob_worthOf ob_byCall ob_over ob_bestSet ob_bestOver ob_bestWorth ob_row ob_tenDebts ob_tenMany ob_fewestBy ob_covered ob_queue ob_cameBy ob_parent ob_met ob_calls ob_callMany ob_calledOn ob_saved ob_many ob_width ob_numbers ob_moving), (ce_b1400 y ob_tape fob_tape), (ce_i9080 y ob_fresh f_1529)] := ⟨hP, hD⟩
        refine lv_if_eq (tgt := 112) hx hb dX10_readOwes_102 (by decide) (fun _ => ?_) (fun c9 => absurd (by decide) c9)
        exact J_112_1342 _ _ _ _ ⟨v_1523, v_1524, v_1525, v_1526, v_1527, v_1528, f_1529, bv_1523, bv_1524, bv_1525, bv_1526, bv_1527, bf_1529, (by have lm1 : Int32.toInt (-1) = -1 := (by decide); have l91 : Int32.toInt 1 = 1 := (by decide); have l92 : Int32.toInt 2 = 2 := (by decide); have l93 : Int32.toInt 3 = 3 := (by decide); rcases rl1529_0 with ⟨h7, h8⟩ | ⟨h7, h8, h9⟩; rw [h8]; rw [h8]; exact tp_cl h7 (by omega) (by intro q; rw [am_w6] at q; omega)), (by assumption), (by omega), (by omega), (by omega), (by omega), (by omega), (by omega), (by omega), (by omega), (by omega), rl1529_11, (by omega), rfl, ⟨hP, hD⟩, hS, lv_sub hl [0, 1] rfl⟩
      · skip
        have hLh_1584 : ((lenS.getD 35 0 : Nat) : Int) = 3 := by decide
        obtain ⟨hP, hD⟩ : vPD G A H [(ce_X10 ob ob_thrown ob_world ob_images ob_hasImage ob_tape ob_taped ob_five ob_size v_1571 v_1572 v_1573 v_1574 v_1527 v_1528 ob_fresh ob_parts ob_houses ob_houseMany ob_worthOf ob_byCall ob_over ob_bestSet ob_bestOver ob_bestWorth ob_row ob_tenDebts ob_tenMany ob_fewestBy ob_covered ob_queue ob_cameBy ob_parent ob_met ob_calls ob_callMany ob_calledOn ob_saved ob_many ob_width ob_numbers ob_moving), (ce_b1400 y ob_tape fob_tape), (ce_i9080 y ob_fresh f_1529)] := ⟨hP, hD⟩
        refine lv_if_eq (tgt := 112) hx hb dX10_readOwes_102 (by decide) (fun c9 => absurd c9 (by decide)) (fun _ => ?_)
        refine lv_aload_n hx hb dX10_readOwes_105 rfl (lv_at hl 1 rfl) ?_
        refine cVvSm (As := []) (rest := []) ⟨hx, hb, hml, hown, hw0⟩ hA hK hP hD hS hE [true, true, true] (sX10_readTest l G y aK aV _ ob ob_thrown ob_world ob_images ob_hasImage ob_tape ob_taped ob_five ob_size v_1571 v_1572 v_1573 v_1574 v_1527 v_1528 ob_fresh ob_parts ob_houses ob_houseMany ob_worthOf ob_byCall ob_over ob_bestSet ob_bestOver ob_bestWorth ob_row ob_tenDebts ob_tenMany ob_fewestBy ob_covered ob_queue ob_cameBy ob_parent ob_met ob_calls ob_callMany ob_calledOn ob_saved ob_many ob_width ob_numbers ob_moving fob_tape f_1529 p_fob_tape p_ob_taped p_ob_size bv_1571 bv_1572 bv_1573 bv_1574 bv_1527 bf_1529 p_ob_houseMany p_ob_bestSet p_ob_bestOver p_ob_tenMany p_ob_callMany (by omega) (by omega) (by assumption) (by omega) (by omega)) rfl ⟨(callB_of 0 hw0 (gA m_640) rfl rfl rfl (hw0 _ m_41) (hw0 _ m_632) cb_X10_readTest ⟨Nat.le_of_ble_eq_true rfl, Nat.le_of_ble_eq_true rfl⟩), (hw0 _ m_633), (hw0 _ m_634)⟩ (ci := 10) (q := (RX10, TX10, 41)) rfl rfl rfl hl.1 (Nat.le_of_ble_eq_true rfl) dX10_readOwes_106 ⟨Nat.le_of_ble_eq_true rfl, Nat.le_of_ble_eq_true rfl⟩ (fun w_1585 H locs hw_1585 hP hD hS => ?_)
        obtain ⟨v_1586, v_1587, v_1588, v_1589, v_1590, v_1591, f_1592, bv_1586, bv_1587, bv_1588, bv_1589, bv_1590, bf_1592, h_1593, h_1594, h_1595, h_1596, h_1597, h_1598, h_1599, h_1600, h_1601, h_1602, h_1603, h_1604, h_1605, rfl⟩ := hw_1585
        obtain ⟨hP, hD⟩ : vPD G A H [(ce_X10 ob ob_thrown ob_world ob_images ob_hasImage ob_tape ob_taped ob_five ob_size v_1586 v_1587 v_1588 v_1589 v_1590 v_1591 ob_fresh ob_parts ob_houses ob_houseMany ob_worthOf ob_byCall ob_over ob_bestSet ob_bestOver ob_bestWorth ob_row ob_tenDebts ob_tenMany ob_fewestBy ob_covered ob_queue ob_cameBy ob_parent ob_met ob_calls ob_callMany ob_calledOn ob_saved ob_many ob_width ob_numbers ob_moving), (ce_b1400 y ob_tape fob_tape), (ce_i9080 y ob_fresh f_1592)] := ⟨hP, hD⟩
        refine lv_goto (tgt := 95) hx hb dX10_readOwes_109 (by decide) ?_
        exact ih_1567 _ (by omega) _ _ _ _ ⟨v_1586, v_1587, v_1588, v_1589, v_1590, v_1591, f_1592, rfl, bv_1586, bv_1587, bv_1588, bv_1589, bv_1590, bf_1592, (by have lm1 : Int32.toInt (-1) = -1 := (by decide); have l91 : Int32.toInt 1 = 1 := (by decide); have l92 : Int32.toInt 2 = 2 := (by decide); have l93 : Int32.toInt 3 = 3 := (by decide); (obtain ⟨h7, h8⟩ | ⟨h7, h8, h9⟩ := rl1529_0 <;> first | (exfalso; omega) | exact tt_q (h8.trans ((tp_an h7 (am_and h_1576.2)).trans (congrArg _ h_1575.symm))) h_1593)), (by assumption), (by omega), (by omega), (by omega), (by omega), (by omega), (by omega), (by omega), (by omega), (by omega), (frm_t rl1529_11 h_1605), (by omega), rfl, ⟨hP, hD⟩, hS, lv_sub hl [0, 1] rfl⟩
