set_option maxHeartbeats 4000000 in
set_option maxRecDepth 100000 in
theorem hnotes (l : Launch) (G : va_G) (y : Nat → ClassId) (sz : Nat) (ob : Nat) (a1 : Int32) (a2 : Int32) (a3 : Int32) (ob_thrown : Int32) (ob_world : Nat) (ob_images : Nat) (ob_hasImage : Nat) (ob_tape : Nat) (ob_taped : Int32) (ob_five : Nat) (ob_size : Int32) (ob_at : Int32) (ob_from : Int32) (ob_token : Int32) (ob_value : Int32) (ob_faultKind : Int32) (ob_faultPlace : Int32) (ob_fresh : Nat) (ob_parts : Nat) (ob_houses : Nat) (ob_houseMany : Int32) (ob_worthOf : Nat) (ob_byCall : Nat) (ob_over : Nat) (ob_bestSet : Int32) (ob_bestOver : Int32) (ob_bestWorth : Int32) (ob_row : Nat) (ob_tenDebts : Nat) (ob_tenMany : Int32) (ob_fewestBy : Nat) (ob_covered : Nat) (ob_queue : Nat) (ob_cameBy : Nat) (ob_parent : Nat) (ob_met : Nat) (ob_calls : Nat) (ob_callMany : Int32) (ob_calledOn : Nat) (ob_saved : Nat) (ob_many : Nat) (ob_width : Nat) (ob_numbers : Nat) (ob_moving : Nat) (fob_world : Nat → Int32) (fob_parts : Nat → Int32) (p_fob_world : RWw fob_world) (p_ob_taped : (0 : Int) ≤ ob_taped.toInt ∧ ob_taped.toInt ≤ 1400) (p_ob_size : (0 : Int) ≤ ob_size.toInt ∧ ob_size.toInt ≤ 1400) (p_ob_at : (0 : Int) ≤ ob_at.toInt ∧ ob_at.toInt ≤ 1400) (p_ob_from : (0 : Int) ≤ ob_from.toInt ∧ ob_from.toInt ≤ 1400) (p_ob_token : (0 : Int) ≤ ob_token.toInt ∧ ob_token.toInt ≤ 4) (p_ob_value : (0 : Int) ≤ ob_value.toInt ∧ ob_value.toInt ≤ 9999) (p_ob_faultKind : (0 : Int) ≤ ob_faultKind.toInt ∧ ob_faultKind.toInt ≤ 3) (p_ob_houseMany : (0 : Int) ≤ ob_houseMany.toInt ∧ ob_houseMany.toInt ≤ 10) (p_ob_bestSet : (0 : Int) ≤ ob_bestSet.toInt ∧ ob_bestSet.toInt ≤ 1023) (p_ob_bestOver : (-1 : Int) ≤ ob_bestOver.toInt ∧ ob_bestOver.toInt ≤ 180) (p_ob_tenMany : (0 : Int) ≤ ob_tenMany.toInt ∧ ob_tenMany.toInt ≤ 10) (p_ob_callMany : (0 : Int) ≤ ob_callMany.toInt ∧ ob_callMany.toInt ≤ 16) (p_a1 : (0 : Int) ≤ a1.toInt ∧ a1.toInt ≤ 15) (p_a2 : (0 : Int) ≤ a2.toInt ∧ a2.toInt ≤ 15) (p_a3 : (0 : Int) ≤ a3.toInt ∧ a3.toInt ≤ 4) (hq0 : (fob_world 8).toInt ≤ 599) : Met l yX10_notes (Cond.code yX10_notes cX10_notes 6 (some .int) :: wAll) ({ frames := 4, cells := 0, slots := 0, locals := 111 }) (va_Pc [.ref ob, .int a1, .int a2, .int a3] (kp G y sz [(ce_X10 ob ob_thrown ob_world ob_images ob_hasImage ob_tape ob_taped ob_five ob_size ob_at ob_from ob_token ob_value ob_faultKind ob_faultPlace ob_fresh ob_parts ob_houses ob_houseMany ob_worthOf ob_byCall ob_over ob_bestSet ob_bestOver ob_bestWorth ob_row ob_tenDebts ob_tenMany ob_fewestBy ob_covered ob_queue ob_cameBy ob_parent ob_met ob_calls ob_callMany ob_calledOn ob_saved ob_many ob_width ob_numbers ob_moving), (ce_i9080 y ob_world fob_world), (ce_i6 y ob_parts fob_parts)])) (va_Qi (fun (r : Int32) (w : va_W) => (∃ (v_69 : Int32) (f_70 : Nat → Int32) (f_71 : Nat → Int32), ((0 : Int) ≤ v_69.toInt ∧ v_69.toInt ≤ 600) ∧ (RWw f_70) ∧ (tgd (gdo fob_world a1.toInt a2.toInt a3.toInt) f_70) ∧ (0 ≤ (v_69 : Int32).toInt) ∧ (0 ≤ (v_69 : Int32).toInt) ∧ (∀ X : DX, mxt X fob_world → (v_69 : Int32).toInt = goN X a1.toInt a2.toInt a3.toInt ∧ mxt (gdX fob_world X a1.toInt a2.toInt a3.toInt) f_70) ∧ (wfr fob_world f_70) ∧ r = v_69 ∧ w = [(ce_X10 ob ob_thrown ob_world ob_images ob_hasImage ob_tape ob_taped ob_five ob_size ob_at ob_from ob_token ob_value ob_faultKind ob_faultPlace ob_fresh ob_parts ob_houses ob_houseMany ob_worthOf ob_byCall ob_over ob_bestSet ob_bestOver ob_bestWorth ob_row ob_tenDebts ob_tenMany ob_fewestBy ob_covered ob_queue ob_cameBy ob_parent ob_met ob_calls ob_callMany ob_calledOn ob_saved ob_many ob_width ob_numbers ob_moving), (ce_i9080 y ob_world f_70), (ce_i6 y ob_parts f_71)])) (kq G (va_A [(ce_X10 ob ob_thrown ob_world ob_images ob_hasImage ob_tape ob_taped ob_five ob_size ob_at ob_from ob_token ob_value ob_faultKind ob_faultPlace ob_fresh ob_parts ob_houses ob_houseMany ob_worthOf ob_byCall ob_over ob_bestSet ob_bestOver ob_bestWorth ob_row ob_tenDebts ob_tenMany ob_fewestBy ob_covered ob_queue ob_cameBy ob_parent ob_met ob_calls ob_callMany ob_calledOn ob_saved ob_many ob_width ob_numbers ob_moving), (ce_i9080 y ob_world fob_world), (ce_i6 y ob_parts fob_parts)] sz)) (va_A [(ce_X10 ob ob_thrown ob_world ob_images ob_hasImage ob_tape ob_taped ob_five ob_size ob_at ob_from ob_token ob_value ob_faultKind ob_faultPlace ob_fresh ob_parts ob_houses ob_houseMany ob_worthOf ob_byCall ob_over ob_bestSet ob_bestOver ob_bestWorth ob_row ob_tenDebts ob_tenMany ob_fewestBy ob_covered ob_queue ob_cameBy ob_parent ob_met ob_calls ob_callMany ob_calledOn ob_saved ob_many ob_width ob_numbers ob_moving), (ce_i9080 y ob_world fob_world), (ce_i6 y ob_parts fob_parts)] sz)) 0 0 (va_A [(ce_X10 ob ob_thrown ob_world ob_images ob_hasImage ob_tape ob_taped ob_five ob_size ob_at ob_from ob_token ob_value ob_faultKind ob_faultPlace ob_fresh ob_parts ob_houses ob_houseMany ob_worthOf ob_byCall ob_over ob_bestSet ob_bestOver ob_bestWorth ob_row ob_tenDebts ob_tenMany ob_fewestBy ob_covered ob_queue ob_cameBy ob_parent ob_met ob_calls ob_callMany ob_calledOn ob_saved ob_many ob_width ob_numbers ob_moving), (ce_i9080 y ob_world fob_world), (ce_i6 y ob_parts fob_parts)] sz) := by
  refine Met.ofW (cc := cX10_notes) (maxL := 6) (ret := (some .int)) (by decide) rfl ?_
  intro p e s m args below meth c s₁ B hml hv
  obtain ⟨rfl, hsz, hP, hK, hD0⟩ := hv
  have hx := B.exec
  have hb := B.bytes
  have hr := B.returns
  have hw0 : ∀ w ∈ wAll, w.before _ s = true := fun w h => atoms_spec (ws := Cond.code yX10_notes cX10_notes 6 (some .int) :: wAll) B.pre w (List.mem_cons_of_mem _ h)
  have hown : s.vm.findClass RX10 = some m.cls := findClass_of_methodNamed B.named
  subst hsz
  have hD := hD0.self (sz := s.heap.size)
  generalize hAe : va_A [(ce_X10 ob ob_thrown ob_world ob_images ob_hasImage ob_tape ob_taped ob_five ob_size ob_at ob_from ob_token ob_value ob_faultKind ob_faultPlace ob_fresh ob_parts ob_houses ob_houseMany ob_worthOf ob_byCall ob_over ob_bestSet ob_bestOver ob_bestWorth ob_row ob_tenDebts ob_tenMany ob_fewestBy ob_covered ob_queue ob_cameBy ob_parent ob_met ob_calls ob_callMany ob_calledOn ob_saved ob_many ob_width ob_numbers ob_moving), (ce_i9080 y ob_world fob_world), (ce_i6 y ob_parts fob_parts)] s.heap.size = A at hD ⊢
  have hA : ∀ q : Nat, s.heap.size ≤ q → A q := fun q h => by rw [← hAe]; exact Or.inr h
  have hS : va_S A s.heap s.heap [] := va_S.rf
  have hP : va_P G vwCl [(ce_X10 ob ob_thrown ob_world ob_images ob_hasImage ob_tape ob_taped ob_five ob_size ob_at ob_from ob_token ob_value ob_faultKind ob_faultPlace ob_fresh ob_parts ob_houses ob_houseMany ob_worthOf ob_byCall ob_over ob_bestSet ob_bestOver ob_bestWorth ob_row ob_tenDebts ob_tenMany ob_fewestBy ob_covered ob_queue ob_cameBy ob_parent ob_met ob_calls ob_callMany ob_calledOn ob_saved ob_many ob_width ob_numbers ob_moving), (ce_i9080 y ob_world fob_world), (ce_i6 y ob_parts fob_parts)] s.heap := hP
  have hl := lv_entry ([.ref ob, .int a1, .int a2, .int a3]) (n := 6) (Nat.le_of_ble_eq_true rfl)
  rw [lg_entry_eq]
  generalize (lg_sl ([.ref ob, .int a1, .int a2, .int a3]) ++ List.replicate (6 - (lg_sl ([.ref ob, .int a1, .int a2, .int a3])).length) Slot.unset).toArray = ls at hl ⊢
  have hl : lv_has ls 6 [(0, .ref ob), (1, .int a1), (2, .int a2), (3, .int a3)] := hl
  have hu1 : (fob_world 1).toInt ≤ 24 := (by have h9 := (p_fob_world).1.1 1; have h8 : UBw 1 = 24 := (by decide); omega)
  have hu2 : (fob_world 2).toInt ≤ 180 := (by have h9 := (p_fob_world).1.1 2; have h8 : UBw 2 = 180 := (by decide); omega)
  have hu3 : (fob_world 3).toInt ≤ 350 := (by have h9 := (p_fob_world).1.1 3; have h8 : UBw 3 = 350 := (by decide); omega)
  have hu7 : (fob_world 7).toInt ≤ 600 := (by have h9 := (p_fob_world).1.1 7; have h8 : UBw 7 = 600 := (by decide); omega)
  have h7 : (fob_world 7).toInt ≤ (fob_world 8).toInt := (p_fob_world).1.2
  refine lv_sipush (v := 6680) hx hb dX10_notes_0 (by decide) ?_
  refine lv_iconst (v := 4) hx hb dX10_notes_3 (by decide) ?_
  refine lv_aload_n hx hb dX10_notes_4 rfl (lv_at hl 0 rfl) ?_
  refine va_get (D := G) (ci := 10) (v := .ref ob_world) (C := RX10) (T := TX10) (N := 41) hx hb hw0 inA_wsX100 hown hK.1 hP 0 rfl rfl 1 (by decide) (hw0 _ m_352) (fun _ h9 => h9) rfl dX10_notes_5 ?_
  refine lv_bipush (v := 8) hx hb dX10_notes_8 (by decide) ?_
  refine va_iald hx hb hK.1 hP 1 1 rfl rfl (vi (bkc (x := 8) (c := 8) (by decide)) (by decide)) dX10_notes_10 ?_
  refine lv_topi (fun v_1001 ev_1001 => ?_)
  have bv_1001 : (0 : Int) ≤ v_1001.toInt ∧ v_1001.toInt ≤ 600 := rdk ev_1001 (p_fob_world).1.1 (by decide)
  have yv_1001 : v_1001.toInt = (fob_world 8).toInt := congrArg Int32.toInt ev_1001
  have h_1002 : (0 : Int) ≤ v_1001.toInt ∧ v_1001.toInt ≤ 599 := by omega
  refine lv_imul hx hb dX10_notes_11 ?_
  refine lv_topi (fun v_1003 ev_1003 => ?_)
  have qv_1003 := ba_mul 4 (ev_1003.trans (Int32.mul_comm _ _)) h_1002 (by decide) (by decide) (by decide)
  have bv_1003 : (0 : Int) ≤ v_1003.toInt ∧ v_1003.toInt ≤ 2396 := qv_1003.2
  refine lv_iadd hx hb dX10_notes_12 ?_
  refine lv_topi (fun v_1004 ev_1004 => ?_)
  have qv_1004 := ba_add ev_1004 (bkc (x := 6680) (c := 6680) (by decide)) bv_1003 (by decide)
  have bv_1004 : (6680 : Int) ≤ v_1004.toInt ∧ v_1004.toInt ≤ 9076 := bq_add qv_1004 (bkc (x := 6680) (c := 6680) (by decide)) bv_1003 _ _ (by decide)
  have qv_1004 : v_1004.toInt = (6680) + v_1003.toInt := qv_1004
  refine lv_istore (lv' := [(4, .int v_1004), (0, .ref ob), (1, .int a1), (2, .int a2), (3, .int a3)]) hx hb dX10_notes_13 hl (by decide) rfl (fun ls hl => ?_)
  refine lv_aload_n hx hb dX10_notes_15 rfl (lv_at hl 1 rfl) ?_
  refine va_get (D := G) (ci := 10) (v := .ref ob_world) (C := RX10) (T := TX10) (N := 41) hx hb hw0 inA_wsX100 hown hK.1 hP 0 rfl rfl 1 (by decide) (hw0 _ m_352) (fun _ h9 => h9) rfl dX10_notes_16 ?_
  refine lv_iload hx hb dX10_notes_19 (lv_at hl 0 rfl) ?_
  refine lv_iload_n hx hb dX10_notes_21 rfl (lv_at hl 2 rfl) ?_
  refine va_iast hx hb hK.1 hP hD hS 1 1 rfl rfl (vi bv_1004 (by decide)) dX10_notes_22 (fun H locs hP hD hS => ?_)
  generalize hf_1005 : (upd fob_world (v_1004 : Int32).toNatClampNeg a1) = f_1005 at hP hD
  have zf_1005_6 : (f_1005 6).toInt = (fob_world 6).toInt := hf_1005 ▸ pin_ne (ix_not bv_1004 (by decide))
  have zf_1005_7 : (f_1005 7).toInt = (fob_world 7).toInt := hf_1005 ▸ pin_ne (ix_not bv_1004 (by decide))
  have zf_1005_8 : (f_1005 8).toInt = (fob_world 8).toInt := hf_1005 ▸ pin_ne (ix_not bv_1004 (by decide))
  have zf_1005_9 : (f_1005 9).toInt = (fob_world 9).toInt := hf_1005 ▸ pin_ne (ix_not bv_1004 (by decide))
  have bf_1005 : RBw f_1005 := hf_1005 ▸ upw (p_fob_world).1.1 pl_43 (by omega) (h_1002) p_a1
  have cf_1005 : RVw f_1005 := hf_1005 ▸ RV_up (p_fob_world).1 (hf_1005 ▸ bf_1005) (ix_out bv_1004 (by decide))
  have df_1005 : RWw f_1005 := ⟨cf_1005, hf_1005 ▸ WQ_up (p_fob_world).1.1 (p_fob_world).2 (qf_ix bv_1004 (by decide))⟩
  obtain ⟨hP, hD⟩ : vPD G A H [(ce_X10 ob ob_thrown ob_world ob_images ob_hasImage ob_tape ob_taped ob_five ob_size ob_at ob_from ob_token ob_value ob_faultKind ob_faultPlace ob_fresh ob_parts ob_houses ob_houseMany ob_worthOf ob_byCall ob_over ob_bestSet ob_bestOver ob_bestWorth ob_row ob_tenDebts ob_tenMany ob_fewestBy ob_covered ob_queue ob_cameBy ob_parent ob_met ob_calls ob_callMany ob_calledOn ob_saved ob_many ob_width ob_numbers ob_moving), (ce_i9080 y ob_world f_1005), (ce_i6 y ob_parts fob_parts)] := ⟨hP, hD⟩
  refine lv_aload_n hx hb dX10_notes_23 rfl (lv_at hl 1 rfl) ?_
  refine va_get (D := G) (ci := 10) (v := .ref ob_world) (C := RX10) (T := TX10) (N := 41) hx hb hw0 inA_wsX100 hown hK.1 hP 0 rfl rfl 1 (by decide) (hw0 _ m_352) (fun _ h9 => h9) rfl dX10_notes_24 ?_
  refine lv_iload hx hb dX10_notes_27 (lv_at hl 0 rfl) ?_
  refine lv_iconst (v := 1) hx hb dX10_notes_29 (by decide) ?_
  refine lv_iadd hx hb dX10_notes_30 ?_
  refine lv_topi (fun v_1006 ev_1006 => ?_)
  have qv_1006 := ba_add ev_1006 bv_1004 (bkc (x := 1) (c := 1) (by decide)) (by decide)
  have bv_1006 : (6681 : Int) ≤ v_1006.toInt ∧ v_1006.toInt ≤ 9077 := bq_add qv_1006 bv_1004 (bkc (x := 1) (c := 1) (by decide)) _ _ (by decide)
  have qv_1006 : v_1006.toInt = v_1004.toInt + (1) := qv_1006
  refine lv_iload_n hx hb dX10_notes_31 rfl (lv_at hl 3 rfl) ?_
  refine va_iast hx hb hK.1 hP hD hS 1 1 rfl rfl (vi bv_1006 (by decide)) dX10_notes_32 (fun H locs hP hD hS => ?_)
  generalize hf_1007 : (upd f_1005 (v_1006 : Int32).toNatClampNeg a2) = f_1007 at hP hD
  have zf_1007_6 : (f_1007 6).toInt = (f_1005 6).toInt := hf_1007 ▸ pin_ne (ix_not bv_1006 (by decide))
  have zf_1007_7 : (f_1007 7).toInt = (f_1005 7).toInt := hf_1007 ▸ pin_ne (ix_not bv_1006 (by decide))
  have zf_1007_8 : (f_1007 8).toInt = (f_1005 8).toInt := hf_1007 ▸ pin_ne (ix_not bv_1006 (by decide))
  have zf_1007_9 : (f_1007 9).toInt = (f_1005 9).toInt := hf_1007 ▸ pin_ne (ix_not bv_1006 (by decide))
  have bf_1007 : RBw f_1007 := hf_1007 ▸ upw (df_1005).1.1 pl_44 (by omega) (h_1002) p_a2
  have cf_1007 : RVw f_1007 := hf_1007 ▸ RV_up (df_1005).1 (hf_1007 ▸ bf_1007) (ix_out bv_1006 (by decide))
  have df_1007 : RWw f_1007 := ⟨cf_1007, hf_1007 ▸ WQ_up (df_1005).1.1 (df_1005).2 (qf_ix bv_1006 (by decide))⟩
  obtain ⟨hP, hD⟩ : vPD G A H [(ce_X10 ob ob_thrown ob_world ob_images ob_hasImage ob_tape ob_taped ob_five ob_size ob_at ob_from ob_token ob_value ob_faultKind ob_faultPlace ob_fresh ob_parts ob_houses ob_houseMany ob_worthOf ob_byCall ob_over ob_bestSet ob_bestOver ob_bestWorth ob_row ob_tenDebts ob_tenMany ob_fewestBy ob_covered ob_queue ob_cameBy ob_parent ob_met ob_calls ob_callMany ob_calledOn ob_saved ob_many ob_width ob_numbers ob_moving), (ce_i9080 y ob_world f_1007), (ce_i6 y ob_parts fob_parts)] := ⟨hP, hD⟩
  refine lv_aload_n hx hb dX10_notes_33 rfl (lv_at hl 1 rfl) ?_
  refine va_get (D := G) (ci := 10) (v := .ref ob_world) (C := RX10) (T := TX10) (N := 41) hx hb hw0 inA_wsX100 hown hK.1 hP 0 rfl rfl 1 (by decide) (hw0 _ m_352) (fun _ h9 => h9) rfl dX10_notes_34 ?_
  refine lv_iload hx hb dX10_notes_37 (lv_at hl 0 rfl) ?_
  refine lv_iconst (v := 2) hx hb dX10_notes_39 (by decide) ?_
  refine lv_iadd hx hb dX10_notes_40 ?_
  refine lv_topi (fun v_1008 ev_1008 => ?_)
  have qv_1008 := ba_add ev_1008 bv_1004 (bkc (x := 2) (c := 2) (by decide)) (by decide)
  have bv_1008 : (6682 : Int) ≤ v_1008.toInt ∧ v_1008.toInt ≤ 9078 := bq_add qv_1008 bv_1004 (bkc (x := 2) (c := 2) (by decide)) _ _ (by decide)
  have qv_1008 : v_1008.toInt = v_1004.toInt + (2) := qv_1008
  refine lv_iload_n hx hb dX10_notes_41 rfl (lv_at hl 4 rfl) ?_
  refine va_iast hx hb hK.1 hP hD hS 1 1 rfl rfl (vi bv_1008 (by decide)) dX10_notes_42 (fun H locs hP hD hS => ?_)
  generalize hf_1009 : (upd f_1007 (v_1008 : Int32).toNatClampNeg a3) = f_1009 at hP hD
  have zf_1009_6 : (f_1009 6).toInt = (f_1007 6).toInt := hf_1009 ▸ pin_ne (ix_not bv_1008 (by decide))
  have zf_1009_7 : (f_1009 7).toInt = (f_1007 7).toInt := hf_1009 ▸ pin_ne (ix_not bv_1008 (by decide))
  have zf_1009_8 : (f_1009 8).toInt = (f_1007 8).toInt := hf_1009 ▸ pin_ne (ix_not bv_1008 (by decide))
  have zf_1009_9 : (f_1009 9).toInt = (f_1007 9).toInt := hf_1009 ▸ pin_ne (ix_not bv_1008 (by decide))
  have bf_1009 : RBw f_1009 := hf_1009 ▸ upw (df_1007).1.1 pl_111 (by omega) (h_1002) p_a3
  have cf_1009 : RVw f_1009 := hf_1009 ▸ RV_up (df_1007).1 (hf_1009 ▸ bf_1009) (ix_out bv_1008 (by decide))
  have df_1009 : RWw f_1009 := ⟨cf_1009, hf_1009 ▸ WQ_up (df_1007).1.1 (df_1007).2 (qf_ix bv_1008 (by decide))⟩
  obtain ⟨hP, hD⟩ : vPD G A H [(ce_X10 ob ob_thrown ob_world ob_images ob_hasImage ob_tape ob_taped ob_five ob_size ob_at ob_from ob_token ob_value ob_faultKind ob_faultPlace ob_fresh ob_parts ob_houses ob_houseMany ob_worthOf ob_byCall ob_over ob_bestSet ob_bestOver ob_bestWorth ob_row ob_tenDebts ob_tenMany ob_fewestBy ob_covered ob_queue ob_cameBy ob_parent ob_met ob_calls ob_callMany ob_calledOn ob_saved ob_many ob_width ob_numbers ob_moving), (ce_i9080 y ob_world f_1009), (ce_i6 y ob_parts fob_parts)] := ⟨hP, hD⟩
  refine lv_aload_n hx hb dX10_notes_43 rfl (lv_at hl 1 rfl) ?_
  refine va_get (D := G) (ci := 10) (v := .ref ob_world) (C := RX10) (T := TX10) (N := 41) hx hb hw0 inA_wsX100 hown hK.1 hP 0 rfl rfl 1 (by decide) (hw0 _ m_352) (fun _ h9 => h9) rfl dX10_notes_44 ?_
  refine lv_iload hx hb dX10_notes_47 (lv_at hl 0 rfl) ?_
  refine lv_iconst (v := 3) hx hb dX10_notes_49 (by decide) ?_
  refine lv_iadd hx hb dX10_notes_50 ?_
  refine lv_topi (fun v_1010 ev_1010 => ?_)
  have qv_1010 := ba_add ev_1010 bv_1004 (bkc (x := 3) (c := 3) (by decide)) (by decide)
  have bv_1010 : (6683 : Int) ≤ v_1010.toInt ∧ v_1010.toInt ≤ 9079 := bq_add qv_1010 bv_1004 (bkc (x := 3) (c := 3) (by decide)) _ _ (by decide)
  have qv_1010 : v_1010.toInt = v_1004.toInt + (3) := qv_1010
  refine lv_aload_n hx hb dX10_notes_51 rfl (lv_at hl 1 rfl) ?_
  refine cVim (As := []) (rest := [.int v_1010, .ref ob_world]) ⟨hx, hb, hml, hown, hw0⟩ hA hK hP hD hS [true, true] (sX10_today l G y _ ob ob_thrown ob_world ob_images ob_hasImage ob_tape ob_taped ob_five ob_size ob_at ob_from ob_token ob_value ob_faultKind ob_faultPlace ob_fresh ob_parts ob_houses ob_houseMany ob_worthOf ob_byCall ob_over ob_bestSet ob_bestOver ob_bestWorth ob_row ob_tenDebts ob_tenMany ob_fewestBy ob_covered ob_queue ob_cameBy ob_parent ob_met ob_calls ob_callMany ob_calledOn ob_saved ob_many ob_width ob_numbers ob_moving f_1009 df_1009 p_ob_taped p_ob_size p_ob_at p_ob_from p_ob_token p_ob_value p_ob_faultKind p_ob_houseMany p_ob_bestSet p_ob_bestOver p_ob_tenMany p_ob_callMany) rfl ⟨(callB_of 0 hw0 (gA m_689) rfl rfl rfl (hw0 _ m_41) (hw0 _ m_373) cb_X10_today ⟨Nat.le_of_ble_eq_true rfl, Nat.le_of_ble_eq_true rfl⟩), (hw0 _ m_374), (hw0 _ m_375)⟩ (ci := 10) (q := (RX10, TX10, 41)) rfl rfl rfl hl.1 (Nat.le_of_ble_eq_true rfl) dX10_notes_52 ⟨Nat.le_of_ble_eq_true rfl, Nat.le_of_ble_eq_true rfl⟩ (fun r_1011 w_1011 H locs hw_1011 hP hD hS => ?_)
  obtain ⟨v_1012, bv_1012, h_1013, er_1011, rfl⟩ := hw_1011
  subst r_1011
  obtain ⟨hP, hD⟩ : vPD G A H [(ce_X10 ob ob_thrown ob_world ob_images ob_hasImage ob_tape ob_taped ob_five ob_size ob_at ob_from ob_token ob_value ob_faultKind ob_faultPlace ob_fresh ob_parts ob_houses ob_houseMany ob_worthOf ob_byCall ob_over ob_bestSet ob_bestOver ob_bestWorth ob_row ob_tenDebts ob_tenMany ob_fewestBy ob_covered ob_queue ob_cameBy ob_parent ob_met ob_calls ob_callMany ob_calledOn ob_saved ob_many ob_width ob_numbers ob_moving), (ce_i9080 y ob_world f_1009), (ce_i6 y ob_parts fob_parts)] := ⟨hP, hD⟩
  refine va_iast hx hb hK.1 hP hD hS 1 1 rfl rfl (vi bv_1010 (by decide)) dX10_notes_55 (fun H locs hP hD hS => ?_)
  generalize hf_1014 : (upd f_1009 (v_1010 : Int32).toNatClampNeg v_1012) = f_1014 at hP hD
  have zf_1014_6 : (f_1014 6).toInt = (f_1009 6).toInt := hf_1014 ▸ pin_ne (ix_not bv_1010 (by decide))
  have zf_1014_7 : (f_1014 7).toInt = (f_1009 7).toInt := hf_1014 ▸ pin_ne (ix_not bv_1010 (by decide))
  have zf_1014_8 : (f_1014 8).toInt = (f_1009 8).toInt := hf_1014 ▸ pin_ne (ix_not bv_1010 (by decide))
  have zf_1014_9 : (f_1014 9).toInt = (f_1009 9).toInt := hf_1014 ▸ pin_ne (ix_not bv_1010 (by decide))
  have bf_1014 : RBw f_1014 := hf_1014 ▸ upw (df_1009).1.1 pl_46 (by omega) (h_1002) bv_1012
  have cf_1014 : RVw f_1014 := hf_1014 ▸ RV_up (df_1009).1 (hf_1014 ▸ bf_1014) (ix_out bv_1010 (by decide))
  have df_1014 : RWw f_1014 := ⟨cf_1014, hf_1014 ▸ WQ_up (df_1009).1.1 (df_1009).2 (qf_ix bv_1010 (by decide))⟩
  obtain ⟨hP, hD⟩ : vPD G A H [(ce_X10 ob ob_thrown ob_world ob_images ob_hasImage ob_tape ob_taped ob_five ob_size ob_at ob_from ob_token ob_value ob_faultKind ob_faultPlace ob_fresh ob_parts ob_houses ob_houseMany ob_worthOf ob_byCall ob_over ob_bestSet ob_bestOver ob_bestWorth ob_row ob_tenDebts ob_tenMany ob_fewestBy ob_covered ob_queue ob_cameBy ob_parent ob_met ob_calls ob_callMany ob_calledOn ob_saved ob_many ob_width ob_numbers ob_moving), (ce_i9080 y ob_world f_1014), (ce_i6 y ob_parts fob_parts)] := ⟨hP, hD⟩
  refine lv_aload_n hx hb dX10_notes_56 rfl (lv_at hl 1 rfl) ?_
  refine va_get (D := G) (ci := 10) (v := .ref ob_world) (C := RX10) (T := TX10) (N := 41) hx hb hw0 inA_wsX100 hown hK.1 hP 0 rfl rfl 1 (by decide) (hw0 _ m_352) (fun _ h9 => h9) rfl dX10_notes_57 ?_
  refine lv_bipush (v := 8) hx hb dX10_notes_60 (by decide) ?_
  refine lv_dup2_11 hx hb dX10_notes_62 rfl rfl ?_
  refine va_iald hx hb hK.1 hP 1 1 rfl rfl (vi (bkc (x := 8) (c := 8) (by decide)) (by decide)) dX10_notes_63 ?_
  refine lv_topi (fun v_1015 ev_1015 => ?_)
  have bv_1015 : (0 : Int) ≤ v_1015.toInt ∧ v_1015.toInt ≤ 600 := rdk ev_1015 (df_1014).1.1 (by decide)
  have yv_1015 : v_1015.toInt = (f_1014 8).toInt := congrArg Int32.toInt ev_1015
  refine lv_iconst (v := 1) hx hb dX10_notes_64 (by decide) ?_
  refine lv_iadd hx hb dX10_notes_65 ?_
  refine lv_topi (fun v_1016 ev_1016 => ?_)
  have qv_1016 := ba_add ev_1016 bv_1015 (bkc (x := 1) (c := 1) (by decide)) (by decide)
  have bv_1016 : (1 : Int) ≤ v_1016.toInt ∧ v_1016.toInt ≤ 601 := bq_add qv_1016 bv_1015 (bkc (x := 1) (c := 1) (by decide)) _ _ (by decide)
  have qv_1016 : v_1016.toInt = v_1015.toInt + (1) := qv_1016
  have h_1017 : (0 : Int) ≤ v_1016.toInt ∧ v_1016.toInt ≤ 600 := by omega
  refine va_iast hx hb hK.1 hP hD hS 1 1 rfl rfl (vi (bkc (x := 8) (c := 8) (by decide)) (by decide)) dX10_notes_66 (fun H locs hP hD hS => ?_)
  generalize hf_1018 : (upd f_1014 (8 : Int32).toNatClampNeg v_1016) = f_1018 at hP hD
  have zf_1018_6 : (f_1018 6).toInt = (f_1014 6).toInt := hf_1018 ▸ pin_ne (ix_not (bkc (x := 8) (c := 8) (by decide)) (by decide))
  have zf_1018_7 : (f_1018 7).toInt = (f_1014 7).toInt := hf_1018 ▸ pin_ne (ix_not (bkc (x := 8) (c := 8) (by decide)) (by decide))
  have zf_1018_8 : (f_1018 8).toInt = (v_1016 : Int32).toInt := hf_1018 ▸ pin_eq (by decide)
  have zf_1018_9 : (f_1018 9).toInt = (f_1014 9).toInt := hf_1018 ▸ pin_ne (ix_not (bkc (x := 8) (c := 8) (by decide)) (by decide))
  have bf_1018 : RBw f_1018 := hf_1018 ▸ upk (df_1014).1.1 h_1017 (by decide)
  have cf_1018 : RVw f_1018 := ⟨bf_1018, by have h97 : (f_1014 7).toInt ≤ (f_1014 8).toInt := ((df_1014).1).2; unfold W7; omega⟩
  have df_1018 : RWw f_1018 := ⟨cf_1018, hf_1018 ▸ WQ_up (df_1014).1.1 (df_1014).2 (qf_ix (bkc (x := 8) (c := 8) (by decide)) (by decide))⟩
  obtain ⟨hP, hD⟩ : vPD G A H [(ce_X10 ob ob_thrown ob_world ob_images ob_hasImage ob_tape ob_taped ob_five ob_size ob_at ob_from ob_token ob_value ob_faultKind ob_faultPlace ob_fresh ob_parts ob_houses ob_houseMany ob_worthOf ob_byCall ob_over ob_bestSet ob_bestOver ob_bestWorth ob_row ob_tenDebts ob_tenMany ob_fewestBy ob_covered ob_queue ob_cameBy ob_parent ob_met ob_calls ob_callMany ob_calledOn ob_saved ob_many ob_width ob_numbers ob_moving), (ce_i9080 y ob_world f_1018), (ce_i6 y ob_parts fob_parts)] := ⟨hP, hD⟩
  refine lv_aload_n hx hb dX10_notes_67 rfl (lv_at hl 1 rfl) ?_
  refine lv_iload_n hx hb dX10_notes_68 rfl (lv_at hl 2 rfl) ?_
  refine lv_iload_n hx hb dX10_notes_69 rfl (lv_at hl 3 rfl) ?_
  refine lv_iload_n hx hb dX10_notes_70 rfl (lv_at hl 4 rfl) ?_
  refine lv_aload_n hx hb dX10_notes_71 rfl (lv_at hl 1 rfl) ?_
  refine cVim (As := []) (rest := [.int a3, .int a2, .int a1, .ref ob]) ⟨hx, hb, hml, hown, hw0⟩ hA hK hP hD hS [true, true] (sX10_today l G y _ ob ob_thrown ob_world ob_images ob_hasImage ob_tape ob_taped ob_five ob_size ob_at ob_from ob_token ob_value ob_faultKind ob_faultPlace ob_fresh ob_parts ob_houses ob_houseMany ob_worthOf ob_byCall ob_over ob_bestSet ob_bestOver ob_bestWorth ob_row ob_tenDebts ob_tenMany ob_fewestBy ob_covered ob_queue ob_cameBy ob_parent ob_met ob_calls ob_callMany ob_calledOn ob_saved ob_many ob_width ob_numbers ob_moving f_1018 df_1018 p_ob_taped p_ob_size p_ob_at p_ob_from p_ob_token p_ob_value p_ob_faultKind p_ob_houseMany p_ob_bestSet p_ob_bestOver p_ob_tenMany p_ob_callMany) rfl ⟨(callB_of 0 hw0 (gA m_689) rfl rfl rfl (hw0 _ m_41) (hw0 _ m_373) cb_X10_today ⟨Nat.le_of_ble_eq_true rfl, Nat.le_of_ble_eq_true rfl⟩), (hw0 _ m_374), (hw0 _ m_375)⟩ (ci := 10) (q := (RX10, TX10, 41)) rfl rfl rfl hl.1 (Nat.le_of_ble_eq_true rfl) dX10_notes_72 ⟨Nat.le_of_ble_eq_true rfl, Nat.le_of_ble_eq_true rfl⟩ (fun r_1019 w_1019 H locs hw_1019 hP hD hS => ?_)
  obtain ⟨v_1020, bv_1020, h_1021, er_1019, rfl⟩ := hw_1019
  subst r_1019
  obtain ⟨hP, hD⟩ : vPD G A H [(ce_X10 ob ob_thrown ob_world ob_images ob_hasImage ob_tape ob_taped ob_five ob_size ob_at ob_from ob_token ob_value ob_faultKind ob_faultPlace ob_fresh ob_parts ob_houses ob_houseMany ob_worthOf ob_byCall ob_over ob_bestSet ob_bestOver ob_bestWorth ob_row ob_tenDebts ob_tenMany ob_fewestBy ob_covered ob_queue ob_cameBy ob_parent ob_met ob_calls ob_callMany ob_calledOn ob_saved ob_many ob_width ob_numbers ob_moving), (ce_i9080 y ob_world f_1018), (ce_i6 y ob_parts fob_parts)] := ⟨hP, hD⟩
  refine cVim (As := [.int a1, .int a2, .int a3, .int v_1020]) (rest := []) ⟨hx, hb, hml, hown, hw0⟩ hA hK hP hD hS [true, true, true] (hgoes l G y _ ob a1 a2 a3 v_1020 ob_thrown ob_world ob_images ob_hasImage ob_tape ob_taped ob_five ob_size ob_at ob_from ob_token ob_value ob_faultKind ob_faultPlace ob_fresh ob_parts ob_houses ob_houseMany ob_worthOf ob_byCall ob_over ob_bestSet ob_bestOver ob_bestWorth ob_row ob_tenDebts ob_tenMany ob_fewestBy ob_covered ob_queue ob_cameBy ob_parent ob_met ob_calls ob_callMany ob_calledOn ob_saved ob_many ob_width ob_numbers ob_moving f_1018 fob_parts df_1018 p_ob_taped p_ob_size p_ob_at p_ob_from p_ob_token p_ob_value p_ob_faultKind p_ob_houseMany p_ob_bestSet p_ob_bestOver p_ob_tenMany p_ob_callMany p_a1 p_a2 p_a3 bv_1020 (by omega)) rfl ⟨(callB_of 4 hw0 (gA m_489) rfl rfl rfl (hw0 _ m_41) (hw0 _ m_393) cb_X10_goes ⟨Nat.le_of_ble_eq_true rfl, Nat.le_of_ble_eq_true rfl⟩), (hw0 _ m_394), (hw0 _ m_395)⟩ (ci := 10) (q := (RX10, TX10, 41)) rfl rfl rfl hl.1 (Nat.le_of_ble_eq_true rfl) dX10_notes_75 ⟨Nat.le_of_ble_eq_true rfl, Nat.le_of_ble_eq_true rfl⟩ (fun r_1022 w_1022 H locs hw_1022 hP hD hS => ?_)
  obtain ⟨v_1023, f_1024, f_1025, bv_1023, bf_1024, h_1026, h_1027, h_1028, h_1029, h_1030, h_1031, er_1022, rfl⟩ := hw_1022
  subst r_1022
  obtain ⟨hP, hD⟩ : vPD G A H [(ce_X10 ob ob_thrown ob_world ob_images ob_hasImage ob_tape ob_taped ob_five ob_size ob_at ob_from ob_token ob_value ob_faultKind ob_faultPlace ob_fresh ob_parts ob_houses ob_houseMany ob_worthOf ob_byCall ob_over ob_bestSet ob_bestOver ob_bestWorth ob_row ob_tenDebts ob_tenMany ob_fewestBy ob_covered ob_queue ob_cameBy ob_parent ob_met ob_calls ob_callMany ob_calledOn ob_saved ob_many ob_width ob_numbers ob_moving), (ce_i9080 y ob_world f_1024), (ce_i6 y ob_parts f_1025)] := ⟨hP, hD⟩
  refine lv_istore (lv' := [(5, .int v_1023), (4, .int v_1004), (0, .ref ob), (1, .int a1), (2, .int a2), (3, .int a3)]) hx hb dX10_notes_78 hl (by decide) rfl (fun ls hl => ?_)
  refine lv_aload_n hx hb dX10_notes_80 rfl (lv_at hl 2 rfl) ?_
  refine va_get (D := G) (ci := 10) (v := .ref ob_world) (C := RX10) (T := TX10) (N := 41) hx hb hw0 inA_wsX100 hown hK.1 hP 0 rfl rfl 1 (by decide) (hw0 _ m_352) (fun _ h9 => h9) rfl dX10_notes_81 ?_
  refine lv_bipush (v := 9) hx hb dX10_notes_84 (by decide) ?_
  refine lv_dup2_11 hx hb dX10_notes_86 rfl rfl ?_
  refine va_iald hx hb hK.1 hP 1 1 rfl rfl (vi (bkc (x := 9) (c := 9) (by decide)) (by decide)) dX10_notes_87 ?_
  refine lv_topi (fun v_1032 ev_1032 => ?_)
  have yv_1032 : v_1032.toInt = (f_1024 9).toInt := congrArg Int32.toInt ev_1032
  refine lv_iload hx hb dX10_notes_88 (lv_at hl 0 rfl) ?_
  refine lv_iadd hx hb dX10_notes_90 ?_
  refine lv_topi (fun v_1033 ev_1033 => ?_)
  refine va_iast hx hb hK.1 hP hD hS 1 1 rfl rfl (vi (bkc (x := 9) (c := 9) (by decide)) (by decide)) dX10_notes_91 (fun H locs hP hD hS => ?_)
  generalize hf_1034 : (upd f_1024 (9 : Int32).toNatClampNeg v_1033) = f_1034 at hP hD
  have zf_1034_6 : (f_1034 6).toInt = (f_1024 6).toInt := hf_1034 ▸ pin_ne (ix_not (bkc (x := 9) (c := 9) (by decide)) (by decide))
  have zf_1034_7 : (f_1034 7).toInt = (f_1024 7).toInt := hf_1034 ▸ pin_ne (ix_not (bkc (x := 9) (c := 9) (by decide)) (by decide))
  have zf_1034_8 : (f_1034 8).toInt = (f_1024 8).toInt := hf_1034 ▸ pin_ne (ix_not (bkc (x := 9) (c := 9) (by decide)) (by decide))
  have zf_1034_9 : (f_1034 9).toInt = (v_1033 : Int32).toInt := hf_1034 ▸ pin_eq (by decide)
  have bf_1034 : RBw f_1034 := hf_1034 ▸ upk (bf_1024).1.1 (btop v_1033) (by decide)
  have cf_1034 : RVw f_1034 := hf_1034 ▸ RV_up (bf_1024).1 (hf_1034 ▸ bf_1034) (ix_out (bkc (x := 9) (c := 9) (by decide)) (by decide))
  have df_1034 : RWw f_1034 := ⟨cf_1034, hf_1034 ▸ WQ_up (bf_1024).1.1 (bf_1024).2 (qf_ix (bkc (x := 9) (c := 9) (by decide)) (by decide))⟩
  obtain ⟨hP, hD⟩ : vPD G A H [(ce_X10 ob ob_thrown ob_world ob_images ob_hasImage ob_tape ob_taped ob_five ob_size ob_at ob_from ob_token ob_value ob_faultKind ob_faultPlace ob_fresh ob_parts ob_houses ob_houseMany ob_worthOf ob_byCall ob_over ob_bestSet ob_bestOver ob_bestWorth ob_row ob_tenDebts ob_tenMany ob_fewestBy ob_covered ob_queue ob_cameBy ob_parent ob_met ob_calls ob_callMany ob_calledOn ob_saved ob_many ob_width ob_numbers ob_moving), (ce_i9080 y ob_world f_1034), (ce_i6 y ob_parts f_1025)] := ⟨hP, hD⟩
  refine lv_iload hx hb dX10_notes_92 (lv_at hl 0 rfl) ?_
  exact W.iret (v := v_1023) hx hb hr (fun t ht hW => ⟨⟨v_1023, _, rfl, ⟨v_1023, f_1034, f_1025, bv_1023, df_1034, (by have lm1 : Int32.toInt (-1) = -1 := (by decide); have l91 : Int32.toInt 1 = 1 := (by decide); have l92 : Int32.toInt 2 = 2 := (by decide); have l93 : Int32.toInt 3 = 3 := (by decide); exact gdo_m (gde_m hf_1005 hf_1007 hf_1009 hf_1014 hf_1018 (by omega) (by omega) (by omega) (by omega) (by omega) (by omega) ev_1016 ev_1015) h_1027 (tgd_u tgd_r hf_1034 (by decide))), by omega, by omega, (by have lm1 : Int32.toInt (-1) = -1 := (by decide); have l91 : Int32.toInt 1 = 1 := (by decide); have l92 : Int32.toInt 2 = 2 := (by decide); have l93 : Int32.toInt 3 = 3 := (by decide); exact fun X H => no_m H ⟨by omega, by omega⟩ ⟨by omega, by omega⟩ ⟨by omega, by omega⟩ (gde_m hf_1005 hf_1007 hf_1009 hf_1014 hf_1018 (by omega) (by omega) (by omega) (by omega) (by omega) (by omega) ev_1016 ev_1015) hu1 hu2 hu3 hu7 h_1029 (by omega) (by omega) (by have h8 : Int32.toNatClampNeg 9 = 9 := (by decide); rw [ev_1033, ev_1032, h8]) rfl hf_1034 (by have h9 := (bf_1024).1.1 1; have h8 : UBw 1 = 24 := (by decide); omega) (by have h9 := (bf_1024).1.1 2; have h8 : UBw 2 = 180 := (by decide); omega) (by have h9 := (bf_1024).1.1 3; have h8 : UBw 3 = 350 := (by decide); omega) (by have h9 := (bf_1024).1.1 7; have h8 : UBw 7 = 600 := (by decide); omega)), (wfr_u (wfr_t (wfr_u (wfr_u (wfr_u (wfr_u (wfr_u wfr_r hf_1005 (ix_wfr bv_1004 (by decide))) hf_1007 (ix_wfr bv_1006 (by decide))) hf_1009 (ix_wfr bv_1008 (by decide))) hf_1014 (ix_wfr bv_1010 (by decide))) hf_1018 (ix_wfr (bkc (x := 8) (c := 8) (by decide)) (by decide))) h_1031) hf_1034 (ix_wfr (bkc (x := 9) (c := 9) (by decide)) (by decide))), rfl, rfl⟩, by rw [ht]; exact hP, hD⟩, hS.F ht⟩) hS.2.2 dX10_notes_94

set_option maxHeartbeats 4000000 in
set_option maxRecDepth 100000 in
theorem hdoes (l : Launch) (G : va_G) (y : Nat → ClassId) (sz : Nat) (ob : Nat) (a1 : Int32) (a2 : Int32) (a3 : Int32) (ob_thrown : Int32) (ob_world : Nat) (ob_images : Nat) (ob_hasImage : Nat) (ob_tape : Nat) (ob_taped : Int32) (ob_five : Nat) (ob_size : Int32) (ob_at : Int32) (ob_from : Int32) (ob_token : Int32) (ob_value : Int32) (ob_faultKind : Int32) (ob_faultPlace : Int32) (ob_fresh : Nat) (ob_parts : Nat) (ob_houses : Nat) (ob_houseMany : Int32) (ob_worthOf : Nat) (ob_byCall : Nat) (ob_over : Nat) (ob_bestSet : Int32) (ob_bestOver : Int32) (ob_bestWorth : Int32) (ob_row : Nat) (ob_tenDebts : Nat) (ob_tenMany : Int32) (ob_fewestBy : Nat) (ob_covered : Nat) (ob_queue : Nat) (ob_cameBy : Nat) (ob_parent : Nat) (ob_met : Nat) (ob_calls : Nat) (ob_callMany : Int32) (ob_calledOn : Nat) (ob_saved : Nat) (ob_many : Nat) (ob_width : Nat) (ob_numbers : Nat) (ob_moving : Nat) (fob_world : Nat → Int32) (fob_parts : Nat → Int32) (p_fob_world : RWw fob_world) (p_ob_taped : (0 : Int) ≤ ob_taped.toInt ∧ ob_taped.toInt ≤ 1400) (p_ob_size : (0 : Int) ≤ ob_size.toInt ∧ ob_size.toInt ≤ 1400) (p_ob_at : (0 : Int) ≤ ob_at.toInt ∧ ob_at.toInt ≤ 1400) (p_ob_from : (0 : Int) ≤ ob_from.toInt ∧ ob_from.toInt ≤ 1400) (p_ob_token : (0 : Int) ≤ ob_token.toInt ∧ ob_token.toInt ≤ 4) (p_ob_value : (0 : Int) ≤ ob_value.toInt ∧ ob_value.toInt ≤ 9999) (p_ob_faultKind : (0 : Int) ≤ ob_faultKind.toInt ∧ ob_faultKind.toInt ≤ 3) (p_ob_houseMany : (0 : Int) ≤ ob_houseMany.toInt ∧ ob_houseMany.toInt ≤ 10) (p_ob_bestSet : (0 : Int) ≤ ob_bestSet.toInt ∧ ob_bestSet.toInt ≤ 1023) (p_ob_bestOver : (-1 : Int) ≤ ob_bestOver.toInt ∧ ob_bestOver.toInt ≤ 180) (p_ob_tenMany : (0 : Int) ≤ ob_tenMany.toInt ∧ ob_tenMany.toInt ≤ 10) (p_ob_callMany : (0 : Int) ≤ ob_callMany.toInt ∧ ob_callMany.toInt ≤ 16) : Met l yX10_does (Cond.code yX10_does cX10_does 4 (some .int) :: wAll) ({ frames := 5, cells := 0, slots := 0, locals := 136 }) (va_Pc [.ref ob, .int a1, .int a2, .int a3] (kp G y sz [(ce_X10 ob ob_thrown ob_world ob_images ob_hasImage ob_tape ob_taped ob_five ob_size ob_at ob_from ob_token ob_value ob_faultKind ob_faultPlace ob_fresh ob_parts ob_houses ob_houseMany ob_worthOf ob_byCall ob_over ob_bestSet ob_bestOver ob_bestWorth ob_row ob_tenDebts ob_tenMany ob_fewestBy ob_covered ob_queue ob_cameBy ob_parent ob_met ob_calls ob_callMany ob_calledOn ob_saved ob_many ob_width ob_numbers ob_moving), (ce_i9080 y ob_world fob_world), (ce_i6 y ob_parts fob_parts)])) (va_Qi (fun (r : Int32) (w : va_W) => ((gda fob_world a1.toInt a2.toInt a3.toInt = -2) ∧ (wfr fob_world fob_world) ∧ r = (-2) ∧ w = [(ce_X10 ob ob_thrown ob_world ob_images ob_hasImage ob_tape ob_taped ob_five ob_size ob_at ob_from ob_token ob_value ob_faultKind ob_faultPlace ob_fresh ob_parts ob_houses ob_houseMany ob_worthOf ob_byCall ob_over ob_bestSet ob_bestOver ob_bestWorth ob_row ob_tenDebts ob_tenMany ob_fewestBy ob_covered ob_queue ob_cameBy ob_parent ob_met ob_calls ob_callMany ob_calledOn ob_saved ob_many ob_width ob_numbers ob_moving), (ce_i9080 y ob_world fob_world), (ce_i6 y ob_parts fob_parts)]) ∨ (((0 : Int) ≤ a1.toInt ∧ a1.toInt ≤ 15) ∧ ((0 : Int) ≤ a2.toInt ∧ a2.toInt ≤ 15) ∧ ((0 : Int) ≤ a3.toInt ∧ a3.toInt ≤ 3) ∧ (gda fob_world a1.toInt a2.toInt a3.toInt = -3) ∧ (wfr fob_world fob_world) ∧ r = (-3) ∧ w = [(ce_X10 ob ob_thrown ob_world ob_images ob_hasImage ob_tape ob_taped ob_five ob_size ob_at ob_from ob_token ob_value ob_faultKind ob_faultPlace ob_fresh ob_parts ob_houses ob_houseMany ob_worthOf ob_byCall ob_over ob_bestSet ob_bestOver ob_bestWorth ob_row ob_tenDebts ob_tenMany ob_fewestBy ob_covered ob_queue ob_cameBy ob_parent ob_met ob_calls ob_callMany ob_calledOn ob_saved ob_many ob_width ob_numbers ob_moving), (ce_i9080 y ob_world fob_world), (ce_i6 y ob_parts fob_parts)]) ∨ (((0 : Int) ≤ a1.toInt ∧ a1.toInt ≤ 15) ∧ ((0 : Int) ≤ a2.toInt ∧ a2.toInt ≤ 15) ∧ ((0 : Int) ≤ a3.toInt ∧ a3.toInt ≤ 3) ∧ (gda fob_world a1.toInt a2.toInt a3.toInt = -5) ∧ (wfr fob_world fob_world) ∧ r = (-5) ∧ w = [(ce_X10 ob ob_thrown ob_world ob_images ob_hasImage ob_tape ob_taped ob_five ob_size ob_at ob_from ob_token ob_value ob_faultKind ob_faultPlace ob_fresh ob_parts ob_houses ob_houseMany ob_worthOf ob_byCall ob_over ob_bestSet ob_bestOver ob_bestWorth ob_row ob_tenDebts ob_tenMany ob_fewestBy ob_covered ob_queue ob_cameBy ob_parent ob_met ob_calls ob_callMany ob_calledOn ob_saved ob_many ob_width ob_numbers ob_moving), (ce_i9080 y ob_world fob_world), (ce_i6 y ob_parts fob_parts)]) ∨ (∃ (v_49 : Int32) (f_50 : Nat → Int32) (f_51 : Nat → Int32), ((0 : Int) ≤ v_49.toInt ∧ v_49.toInt ≤ 600) ∧ (RWw f_50) ∧ ((0 : Int) ≤ a1.toInt ∧ a1.toInt ≤ 15) ∧ ((0 : Int) ≤ a2.toInt ∧ a2.toInt ≤ 15) ∧ ((0 : Int) ≤ a3.toInt ∧ a3.toInt ≤ 3) ∧ (gda fob_world a1.toInt a2.toInt a3.toInt = 0) ∧ (tgd (gdo fob_world a1.toInt a2.toInt a3.toInt) f_50) ∧ (0 ≤ (v_49 : Int32).toInt) ∧ (∀ X : DX, mxt X fob_world → (v_49 : Int32).toInt = gpN X a1.toInt a2.toInt a3.toInt ∧ mxt (gdX fob_world X a1.toInt a2.toInt a3.toInt) f_50) ∧ (wfr fob_world f_50) ∧ r = v_49 ∧ w = [(ce_X10 ob ob_thrown ob_world ob_images ob_hasImage ob_tape ob_taped ob_five ob_size ob_at ob_from ob_token ob_value ob_faultKind ob_faultPlace ob_fresh ob_parts ob_houses ob_houseMany ob_worthOf ob_byCall ob_over ob_bestSet ob_bestOver ob_bestWorth ob_row ob_tenDebts ob_tenMany ob_fewestBy ob_covered ob_queue ob_cameBy ob_parent ob_met ob_calls ob_callMany ob_calledOn ob_saved ob_many ob_width ob_numbers ob_moving), (ce_i9080 y ob_world f_50), (ce_i6 y ob_parts f_51)])) (kq G (va_A [(ce_X10 ob ob_thrown ob_world ob_images ob_hasImage ob_tape ob_taped ob_five ob_size ob_at ob_from ob_token ob_value ob_faultKind ob_faultPlace ob_fresh ob_parts ob_houses ob_houseMany ob_worthOf ob_byCall ob_over ob_bestSet ob_bestOver ob_bestWorth ob_row ob_tenDebts ob_tenMany ob_fewestBy ob_covered ob_queue ob_cameBy ob_parent ob_met ob_calls ob_callMany ob_calledOn ob_saved ob_many ob_width ob_numbers ob_moving), (ce_i9080 y ob_world fob_world), (ce_i6 y ob_parts fob_parts)] sz)) (va_A [(ce_X10 ob ob_thrown ob_world ob_images ob_hasImage ob_tape ob_taped ob_five ob_size ob_at ob_from ob_token ob_value ob_faultKind ob_faultPlace ob_fresh ob_parts ob_houses ob_houseMany ob_worthOf ob_byCall ob_over ob_bestSet ob_bestOver ob_bestWorth ob_row ob_tenDebts ob_tenMany ob_fewestBy ob_covered ob_queue ob_cameBy ob_parent ob_met ob_calls ob_callMany ob_calledOn ob_saved ob_many ob_width ob_numbers ob_moving), (ce_i9080 y ob_world fob_world), (ce_i6 y ob_parts fob_parts)] sz)) 0 0 (va_A [(ce_X10 ob ob_thrown ob_world ob_images ob_hasImage ob_tape ob_taped ob_five ob_size ob_at ob_from ob_token ob_value ob_faultKind ob_faultPlace ob_fresh ob_parts ob_houses ob_houseMany ob_worthOf ob_byCall ob_over ob_bestSet ob_bestOver ob_bestWorth ob_row ob_tenDebts ob_tenMany ob_fewestBy ob_covered ob_queue ob_cameBy ob_parent ob_met ob_calls ob_callMany ob_calledOn ob_saved ob_many ob_width ob_numbers ob_moving), (ce_i9080 y ob_world fob_world), (ce_i6 y ob_parts fob_parts)] sz) := by
  refine Met.ofW (cc := cX10_does) (maxL := 4) (ret := (some .int)) (by decide) rfl ?_
  intro p e s m args below meth c s₁ B hml hv
  obtain ⟨rfl, hsz, hP, hK, hD0⟩ := hv
  have hx := B.exec
  have hb := B.bytes
  have hr := B.returns
  have hw0 : ∀ w ∈ wAll, w.before _ s = true := fun w h => atoms_spec (ws := Cond.code yX10_does cX10_does 4 (some .int) :: wAll) B.pre w (List.mem_cons_of_mem _ h)
  have hown : s.vm.findClass RX10 = some m.cls := findClass_of_methodNamed B.named
  subst hsz
  have hD := hD0.self (sz := s.heap.size)
  generalize hAe : va_A [(ce_X10 ob ob_thrown ob_world ob_images ob_hasImage ob_tape ob_taped ob_five ob_size ob_at ob_from ob_token ob_value ob_faultKind ob_faultPlace ob_fresh ob_parts ob_houses ob_houseMany ob_worthOf ob_byCall ob_over ob_bestSet ob_bestOver ob_bestWorth ob_row ob_tenDebts ob_tenMany ob_fewestBy ob_covered ob_queue ob_cameBy ob_parent ob_met ob_calls ob_callMany ob_calledOn ob_saved ob_many ob_width ob_numbers ob_moving), (ce_i9080 y ob_world fob_world), (ce_i6 y ob_parts fob_parts)] s.heap.size = A at hD ⊢
  have hA : ∀ q : Nat, s.heap.size ≤ q → A q := fun q h => by rw [← hAe]; exact Or.inr h
  have hS : va_S A s.heap s.heap [] := va_S.rf
  have hP : va_P G vwCl [(ce_X10 ob ob_thrown ob_world ob_images ob_hasImage ob_tape ob_taped ob_five ob_size ob_at ob_from ob_token ob_value ob_faultKind ob_faultPlace ob_fresh ob_parts ob_houses ob_houseMany ob_worthOf ob_byCall ob_over ob_bestSet ob_bestOver ob_bestWorth ob_row ob_tenDebts ob_tenMany ob_fewestBy ob_covered ob_queue ob_cameBy ob_parent ob_met ob_calls ob_callMany ob_calledOn ob_saved ob_many ob_width ob_numbers ob_moving), (ce_i9080 y ob_world fob_world), (ce_i6 y ob_parts fob_parts)] s.heap := hP
  have hl := lv_entry ([.ref ob, .int a1, .int a2, .int a3]) (n := 4) (Nat.le_of_ble_eq_true rfl)
  rw [lg_entry_eq]
  generalize (lg_sl ([.ref ob, .int a1, .int a2, .int a3]) ++ List.replicate (4 - (lg_sl ([.ref ob, .int a1, .int a2, .int a3])).length) Slot.unset).toArray = ls at hl ⊢
  have hl : lv_has ls 4 [(0, .ref ob), (1, .int a1), (2, .int a2), (3, .int a3)] := hl
  refine lv_aload_n hx hb dX10_does_0 rfl (lv_at hl 0 rfl) ?_
  refine lv_iload_n hx hb dX10_does_1 rfl (lv_at hl 1 rfl) ?_
  refine lv_iload_n hx hb dX10_does_2 rfl (lv_at hl 2 rfl) ?_
  refine cVim (As := [.int a1, .int a2]) (rest := []) ⟨hx, hb, hml, hown, hw0⟩ hA hK hP hD hS [true, true] (gareTwo l G y _ ob a1 a2 ob_thrown ob_world ob_images ob_hasImage ob_tape ob_taped ob_five ob_size ob_at ob_from ob_token ob_value ob_faultKind ob_faultPlace ob_fresh ob_parts ob_houses ob_houseMany ob_worthOf ob_byCall ob_over ob_bestSet ob_bestOver ob_bestWorth ob_row ob_tenDebts ob_tenMany ob_fewestBy ob_covered ob_queue ob_cameBy ob_parent ob_met ob_calls ob_callMany ob_calledOn ob_saved ob_many ob_width ob_numbers ob_moving fob_world p_fob_world p_ob_taped p_ob_size p_ob_at p_ob_from p_ob_token p_ob_value p_ob_faultKind p_ob_houseMany p_ob_bestSet p_ob_bestOver p_ob_tenMany p_ob_callMany) rfl ⟨(callB_of 2 hw0 (gA m_355) rfl rfl rfl (hw0 _ m_41) (hw0 _ m_364) cb_X10_areTwo ⟨Nat.le_of_ble_eq_true rfl, Nat.le_of_ble_eq_true rfl⟩), (hw0 _ m_365), (hw0 _ m_366)⟩ (ci := 10) (q := (RX10, TX10, 41)) rfl rfl rfl hl.1 (Nat.le_of_ble_eq_true rfl) dX10_does_3 ⟨Nat.le_of_ble_eq_true rfl, Nat.le_of_ble_eq_true rfl⟩ (fun r_1001 w_1001 H locs hw_1001 hP hD hS => ?_)
  rcases hw_1001 with ⟨h_1002, rfl, rfl⟩ | ⟨h_1003, h_1004, h_1005, rfl, rfl⟩
  · skip
    obtain ⟨hP, hD⟩ : vPD G A H [(ce_X10 ob ob_thrown ob_world ob_images ob_hasImage ob_tape ob_taped ob_five ob_size ob_at ob_from ob_token ob_value ob_faultKind ob_faultPlace ob_fresh ob_parts ob_houses ob_houseMany ob_worthOf ob_byCall ob_over ob_bestSet ob_bestOver ob_bestWorth ob_row ob_tenDebts ob_tenMany ob_fewestBy ob_covered ob_queue ob_cameBy ob_parent ob_met ob_calls ob_callMany ob_calledOn ob_saved ob_many ob_width ob_numbers ob_moving), (ce_i9080 y ob_world fob_world), (ce_i6 y ob_parts fob_parts)] := ⟨hP, hD⟩
    refine lv_if_eq (tgt := 16) hx hb dX10_does_6 (by decide) (fun _ => ?_) (fun c9 => absurd (by decide) c9)
    refine lv_bipush (v := (-2)) hx hb dX10_does_16 (by decide) ?_
    exact W.iret (v := (-2)) hx hb hr (fun t ht hW => ⟨⟨(-2), _, rfl, Or.inl (⟨(gda_a (fun q => h_1002 q.1)), wfr_r, rfl, rfl⟩), by rw [ht]; exact hP, hD⟩, hS.F ht⟩) hS.2.2 dX10_does_18
  · skip
    obtain ⟨hP, hD⟩ : vPD G A H [(ce_X10 ob ob_thrown ob_world ob_images ob_hasImage ob_tape ob_taped ob_five ob_size ob_at ob_from ob_token ob_value ob_faultKind ob_faultPlace ob_fresh ob_parts ob_houses ob_houseMany ob_worthOf ob_byCall ob_over ob_bestSet ob_bestOver ob_bestWorth ob_row ob_tenDebts ob_tenMany ob_fewestBy ob_covered ob_queue ob_cameBy ob_parent ob_met ob_calls ob_callMany ob_calledOn ob_saved ob_many ob_width ob_numbers ob_moving), (ce_i9080 y ob_world fob_world), (ce_i6 y ob_parts fob_parts)] := ⟨hP, hD⟩
    refine lv_if_eq (tgt := 16) hx hb dX10_does_6 (by decide) (fun c9 => absurd c9 (by decide)) (fun _ => ?_)
    refine lv_iload_n hx hb dX10_does_9 rfl (lv_at hl 3 rfl) ?_
    refine cSim (As := [.int a3]) (rest := []) ⟨hx, hb, hml, hown, hw0⟩ hA hK hP hD hS [] (gisPaying l G y _ a3 ) rfl ⟨(callB_of 1 hw0 (gA m_540) rfl rfl rfl (hw0 _ m_41) (hw0 _ m_367) cb_X10_isPaying ⟨Nat.le_of_ble_eq_true rfl, Nat.le_of_ble_eq_true rfl⟩), (hw0 _ m_368)⟩ rfl hl.1 (Nat.le_of_ble_eq_true rfl) dX10_does_10 ⟨Nat.le_of_ble_eq_true rfl, Nat.le_of_ble_eq_true rfl⟩ (fun r_1006 w_1006 H locs hw_1006 hP hD hS => ?_)
    rcases hw_1006 with ⟨h_1007, rfl, rfl⟩ | ⟨h_1008, h_1009, rfl, rfl⟩
    · skip
      obtain ⟨hP, hD⟩ : vPD G A H [(ce_X10 ob ob_thrown ob_world ob_images ob_hasImage ob_tape ob_taped ob_five ob_size ob_at ob_from ob_token ob_value ob_faultKind ob_faultPlace ob_fresh ob_parts ob_houses ob_houseMany ob_worthOf ob_byCall ob_over ob_bestSet ob_bestOver ob_bestWorth ob_row ob_tenDebts ob_tenMany ob_fewestBy ob_covered ob_queue ob_cameBy ob_parent ob_met ob_calls ob_callMany ob_calledOn ob_saved ob_many ob_width ob_numbers ob_moving), (ce_i9080 y ob_world fob_world), (ce_i6 y ob_parts fob_parts)] := ⟨hP, hD⟩
      refine lv_if_ne (tgt := 19) hx hb dX10_does_13 (by decide) (fun c9 => absurd (by decide) c9) (fun _ => ?_)
      refine lv_bipush (v := (-2)) hx hb dX10_does_16 (by decide) ?_
      exact W.iret (v := (-2)) hx hb hr (fun t ht hW => ⟨⟨(-2), _, rfl, Or.inl (⟨(gda_a (by exact fun q => absurd q.2 (by omega))), wfr_r, rfl, rfl⟩), by rw [ht]; exact hP, hD⟩, hS.F ht⟩) hS.2.2 dX10_does_18
    · skip
      obtain ⟨hP, hD⟩ : vPD G A H [(ce_X10 ob ob_thrown ob_world ob_images ob_hasImage ob_tape ob_taped ob_five ob_size ob_at ob_from ob_token ob_value ob_faultKind ob_faultPlace ob_fresh ob_parts ob_houses ob_houseMany ob_worthOf ob_byCall ob_over ob_bestSet ob_bestOver ob_bestWorth ob_row ob_tenDebts ob_tenMany ob_fewestBy ob_covered ob_queue ob_cameBy ob_parent ob_met ob_calls ob_callMany ob_calledOn ob_saved ob_many ob_width ob_numbers ob_moving), (ce_i9080 y ob_world fob_world), (ce_i6 y ob_parts fob_parts)] := ⟨hP, hD⟩
      refine lv_if_ne (tgt := 19) hx hb dX10_does_13 (by decide) (fun _ => ?_) (fun c9 => absurd c9 (by decide))
      refine lv_aload_n hx hb dX10_does_19 rfl (lv_at hl 0 rfl) ?_
      refine lv_iload_n hx hb dX10_does_20 rfl (lv_at hl 1 rfl) ?_
      refine lv_iload_n hx hb dX10_does_21 rfl (lv_at hl 2 rfl) ?_
      refine lv_iload_n hx hb dX10_does_22 rfl (lv_at hl 3 rfl) ?_
      refine cVim (As := [.int a1, .int a2, .int a3]) (rest := []) ⟨hx, hb, hml, hown, hw0⟩ hA hK hP hD hS [true, true] (gbarsOf l G y _ ob a1 a2 a3 ob_thrown ob_world ob_images ob_hasImage ob_tape ob_taped ob_five ob_size ob_at ob_from ob_token ob_value ob_faultKind ob_faultPlace ob_fresh ob_parts ob_houses ob_houseMany ob_worthOf ob_byCall ob_over ob_bestSet ob_bestOver ob_bestWorth ob_row ob_tenDebts ob_tenMany ob_fewestBy ob_covered ob_queue ob_cameBy ob_parent ob_met ob_calls ob_callMany ob_calledOn ob_saved ob_many ob_width ob_numbers ob_moving fob_world p_fob_world p_ob_taped p_ob_size p_ob_at p_ob_from p_ob_token p_ob_value p_ob_faultKind p_ob_houseMany p_ob_bestSet p_ob_bestOver p_ob_tenMany p_ob_callMany h_1003 h_1004) rfl ⟨(callB_of 3 hw0 (gA m_372) rfl rfl rfl (hw0 _ m_41) (hw0 _ m_369) cb_X10_barsOf ⟨Nat.le_of_ble_eq_true rfl, Nat.le_of_ble_eq_true rfl⟩), (hw0 _ m_370), (hw0 _ m_371)⟩ (ci := 10) (q := (RX10, TX10, 41)) rfl rfl rfl hl.1 (Nat.le_of_ble_eq_true rfl) dX10_does_23 ⟨Nat.le_of_ble_eq_true rfl, Nat.le_of_ble_eq_true rfl⟩ (fun r_1010 w_1010 H locs hw_1010 hP hD hS => ?_)
      obtain ⟨v_1011, bv_1011, h_1012, er_1010, rfl⟩ := hw_1010
      subst r_1010
      obtain ⟨hP, hD⟩ : vPD G A H [(ce_X10 ob ob_thrown ob_world ob_images ob_hasImage ob_tape ob_taped ob_five ob_size ob_at ob_from ob_token ob_value ob_faultKind ob_faultPlace ob_fresh ob_parts ob_houses ob_houseMany ob_worthOf ob_byCall ob_over ob_bestSet ob_bestOver ob_bestWorth ob_row ob_tenDebts ob_tenMany ob_fewestBy ob_covered ob_queue ob_cameBy ob_parent ob_met ob_calls ob_callMany ob_calledOn ob_saved ob_many ob_width ob_numbers ob_moving), (ce_i9080 y ob_world fob_world), (ce_i6 y ob_parts fob_parts)] := ⟨hP, hD⟩
      refine lv_if_eq (tgt := 32) hx hb dX10_does_26 (by decide) (fun c_1013 => ?_) (fun c_1013 => ?_)
      · skip
        have nc_1013 := nb_eq (0) (0) c_1013 bv_1011 (bkc (x := 0) (c := 0) (by decide)) (by decide)
        refine lv_aload_n hx hb dX10_does_32 rfl (lv_at hl 0 rfl) ?_
        refine va_get (D := G) (ci := 10) (v := .ref ob_world) (C := RX10) (T := TX10) (N := 41) hx hb hw0 inA_wsX100 hown hK.1 hP 0 rfl rfl 1 (by decide) (hw0 _ m_352) (fun _ h9 => h9) rfl dX10_does_33 ?_
        refine lv_bipush (v := 8) hx hb dX10_does_36 (by decide) ?_
        refine va_iald hx hb hK.1 hP 1 1 rfl rfl (vi (bkc (x := 8) (c := 8) (by decide)) (by decide)) dX10_does_38 ?_
        refine lv_topi (fun v_1014 ev_1014 => ?_)
        have bv_1014 : (0 : Int) ≤ v_1014.toInt ∧ v_1014.toInt ≤ 600 := rdk ev_1014 (p_fob_world).1.1 (by decide)
        have yv_1014 : v_1014.toInt = (fob_world 8).toInt := congrArg Int32.toInt ev_1014
        refine lv_sipush (v := 600) hx hb dX10_does_39 (by decide) ?_
        refine lv_icmp_ne (tgt := 48) hx hb dX10_does_42 (by decide) (fun c_1015 => ?_) (fun c_1015 => ?_)
        · skip
          have nc_1015 := nb_ne (0) (599) c_1015 bv_1014 (k := 600) (by decide) (by decide)
          refine lv_aload_n hx hb dX10_does_48 rfl (lv_at hl 0 rfl) ?_
          refine lv_iload_n hx hb dX10_does_49 rfl (lv_at hl 1 rfl) ?_
          refine lv_iload_n hx hb dX10_does_50 rfl (lv_at hl 2 rfl) ?_
          refine lv_iload_n hx hb dX10_does_51 rfl (lv_at hl 3 rfl) ?_
          refine cVim (As := [.int a1, .int a2, .int a3]) (rest := []) ⟨hx, hb, hml, hown, hw0⟩ hA hK hP hD hS [true, true, true] (hnotes l G y _ ob a1 a2 a3 ob_thrown ob_world ob_images ob_hasImage ob_tape ob_taped ob_five ob_size ob_at ob_from ob_token ob_value ob_faultKind ob_faultPlace ob_fresh ob_parts ob_houses ob_houseMany ob_worthOf ob_byCall ob_over ob_bestSet ob_bestOver ob_bestWorth ob_row ob_tenDebts ob_tenMany ob_fewestBy ob_covered ob_queue ob_cameBy ob_parent ob_met ob_calls ob_callMany ob_calledOn ob_saved ob_many ob_width ob_numbers ob_moving fob_world fob_parts p_fob_world p_ob_taped p_ob_size p_ob_at p_ob_from p_ob_token p_ob_value p_ob_faultKind p_ob_houseMany p_ob_bestSet p_ob_bestOver p_ob_tenMany p_ob_callMany h_1003 h_1004 (bw (0) (4) h_1008 (by decide)) (by omega)) rfl ⟨(callB_of 3 hw0 (gA m_571) rfl rfl rfl (hw0 _ m_41) (hw0 _ m_429) cb_X10_notes ⟨Nat.le_of_ble_eq_true rfl, Nat.le_of_ble_eq_true rfl⟩), (hw0 _ m_430), (hw0 _ m_431)⟩ (ci := 10) (q := (RX10, TX10, 41)) rfl rfl rfl hl.1 (Nat.le_of_ble_eq_true rfl) dX10_does_52 ⟨Nat.le_of_ble_eq_true rfl, Nat.le_of_ble_eq_true rfl⟩ (fun r_1016 w_1016 H locs hw_1016 hP hD hS => ?_)
          obtain ⟨v_1017, f_1018, f_1019, bv_1017, bf_1018, h_1020, h_1021, h_1022, h_1023, h_1024, er_1016, rfl⟩ := hw_1016
          subst r_1016
          obtain ⟨hP, hD⟩ : vPD G A H [(ce_X10 ob ob_thrown ob_world ob_images ob_hasImage ob_tape ob_taped ob_five ob_size ob_at ob_from ob_token ob_value ob_faultKind ob_faultPlace ob_fresh ob_parts ob_houses ob_houseMany ob_worthOf ob_byCall ob_over ob_bestSet ob_bestOver ob_bestWorth ob_row ob_tenDebts ob_tenMany ob_fewestBy ob_covered ob_queue ob_cameBy ob_parent ob_met ob_calls ob_callMany ob_calledOn ob_saved ob_many ob_width ob_numbers ob_moving), (ce_i9080 y ob_world f_1018), (ce_i6 y ob_parts f_1019)] := ⟨hP, hD⟩
          exact W.iret (v := v_1017) hx hb hr (fun t ht hW => ⟨⟨v_1017, _, rfl, Or.inr (Or.inr (Or.inr (⟨v_1017, f_1018, f_1019, bv_1017, bf_1018, h_1003, h_1004, h_1008, (gda_d ⟨h_1005, by omega, by omega⟩ (by omega) (by omega)), h_1020, by omega, (by have lm1 : Int32.toInt (-1) = -1 := (by decide); have l91 : Int32.toInt 1 = 1 := (by decide); have l92 : Int32.toInt 2 = 2 := (by decide); have l93 : Int32.toInt 3 = 3 := (by decide); intro X H; obtain ⟨h8, h9⟩ := h_1023 X H; exact ⟨h8.trans (if_neg (by omega)), h9⟩), h_1024, rfl, rfl⟩))), by rw [ht]; exact hP, hD⟩, hS.F ht⟩) hS.2.2 dX10_does_55
        · skip
          have nc_1015 := nb_eq (600) (600) c_1015 bv_1014 (bkc (x := 600) (c := 600) (by decide)) (by decide)
          refine lv_bipush (v := (-3)) hx hb dX10_does_45 (by decide) ?_
          exact W.iret (v := (-3)) hx hb hr (fun t ht hW => ⟨⟨(-3), _, rfl, Or.inr (Or.inl (⟨h_1003, h_1004, h_1008, (gda_c ⟨h_1005, by omega, by omega⟩ (by omega) (by omega)), wfr_r, rfl, rfl⟩)), by rw [ht]; exact hP, hD⟩, hS.F ht⟩) hS.2.2 dX10_does_47
      · skip
        have nc_1013 := nb_ne (1) (3) c_1013 bv_1011 (k := 0) (by decide) (by decide)
        refine lv_bipush (v := (-5)) hx hb dX10_does_29 (by decide) ?_
        exact W.iret (v := (-5)) hx hb hr (fun t ht hW => ⟨⟨(-5), _, rfl, Or.inr (Or.inr (Or.inl (⟨h_1003, h_1004, h_1008, (gda_b ⟨h_1005, by omega, by omega⟩ (by intro q; omega)), wfr_r, rfl, rfl⟩))), by rw [ht]; exact hP, hD⟩, hS.F ht⟩) hS.2.2 dX10_does_31

set_option maxHeartbeats 4000000 in
set_option maxRecDepth 100000 in
theorem hmeet (l : Launch) (G : va_G) (y : Nat → ClassId) (sz : Nat) (ob : Nat) (a1 : Int32) (a2 : Int32) (ob_thrown : Int32) (ob_world : Nat) (ob_images : Nat) (ob_hasImage : Nat) (ob_tape : Nat) (ob_taped : Int32) (ob_five : Nat) (ob_size : Int32) (ob_at : Int32) (ob_from : Int32) (ob_token : Int32) (ob_value : Int32) (ob_faultKind : Int32) (ob_faultPlace : Int32) (ob_fresh : Nat) (ob_parts : Nat) (ob_houses : Nat) (ob_houseMany : Int32) (ob_worthOf : Nat) (ob_byCall : Nat) (ob_over : Nat) (ob_bestSet : Int32) (ob_bestOver : Int32) (ob_bestWorth : Int32) (ob_row : Nat) (ob_tenDebts : Nat) (ob_tenMany : Int32) (ob_fewestBy : Nat) (ob_covered : Nat) (ob_queue : Nat) (ob_cameBy : Nat) (ob_parent : Nat) (ob_met : Nat) (ob_calls : Nat) (ob_callMany : Int32) (ob_calledOn : Nat) (ob_saved : Nat) (ob_many : Nat) (ob_width : Nat) (ob_numbers : Nat) (ob_moving : Nat) (fob_world : Nat → Int32) (fob_parts : Nat → Int32) (p_fob_world : RWw fob_world) (p_ob_taped : (0 : Int) ≤ ob_taped.toInt ∧ ob_taped.toInt ≤ 1400) (p_ob_size : (0 : Int) ≤ ob_size.toInt ∧ ob_size.toInt ≤ 1400) (p_ob_at : (0 : Int) ≤ ob_at.toInt ∧ ob_at.toInt ≤ 1400) (p_ob_from : (0 : Int) ≤ ob_from.toInt ∧ ob_from.toInt ≤ 1400) (p_ob_token : (0 : Int) ≤ ob_token.toInt ∧ ob_token.toInt ≤ 4) (p_ob_value : (0 : Int) ≤ ob_value.toInt ∧ ob_value.toInt ≤ 9999) (p_ob_faultKind : (0 : Int) ≤ ob_faultKind.toInt ∧ ob_faultKind.toInt ≤ 3) (p_ob_houseMany : (0 : Int) ≤ ob_houseMany.toInt ∧ ob_houseMany.toInt ≤ 10) (p_ob_bestSet : (0 : Int) ≤ ob_bestSet.toInt ∧ ob_bestSet.toInt ≤ 1023) (p_ob_bestOver : (-1 : Int) ≤ ob_bestOver.toInt ∧ ob_bestOver.toInt ≤ 180) (p_ob_tenMany : (0 : Int) ≤ ob_tenMany.toInt ∧ ob_tenMany.toInt ≤ 10) (p_ob_callMany : (0 : Int) ≤ ob_callMany.toInt ∧ ob_callMany.toInt ≤ 16) : Met l yX10_meet (Cond.code yX10_meet cX10_meet 4 (some .int) :: wAll) ({ frames := 5, cells := 0, slots := 0, locals := 136 }) (va_Pc [.ref ob, .int a1, .int a2] (kp G y sz [(ce_X10 ob ob_thrown ob_world ob_images ob_hasImage ob_tape ob_taped ob_five ob_size ob_at ob_from ob_token ob_value ob_faultKind ob_faultPlace ob_fresh ob_parts ob_houses ob_houseMany ob_worthOf ob_byCall ob_over ob_bestSet ob_bestOver ob_bestWorth ob_row ob_tenDebts ob_tenMany ob_fewestBy ob_covered ob_queue ob_cameBy ob_parent ob_met ob_calls ob_callMany ob_calledOn ob_saved ob_many ob_width ob_numbers ob_moving), (ce_i9080 y ob_world fob_world), (ce_i6 y ob_parts fob_parts)])) (va_Qi (fun (r : Int32) (w : va_W) => ((gme fob_world a1.toInt a2.toInt = -2) ∧ (wfr fob_world fob_world) ∧ r = (-2) ∧ w = [(ce_X10 ob ob_thrown ob_world ob_images ob_hasImage ob_tape ob_taped ob_five ob_size ob_at ob_from ob_token ob_value ob_faultKind ob_faultPlace ob_fresh ob_parts ob_houses ob_houseMany ob_worthOf ob_byCall ob_over ob_bestSet ob_bestOver ob_bestWorth ob_row ob_tenDebts ob_tenMany ob_fewestBy ob_covered ob_queue ob_cameBy ob_parent ob_met ob_calls ob_callMany ob_calledOn ob_saved ob_many ob_width ob_numbers ob_moving), (ce_i9080 y ob_world fob_world), (ce_i6 y ob_parts fob_parts)]) ∨ (((0 : Int) ≤ a1.toInt ∧ a1.toInt ≤ 15) ∧ ((0 : Int) ≤ a2.toInt ∧ a2.toInt ≤ 15) ∧ (gme fob_world a1.toInt a2.toInt = -3) ∧ (wfr fob_world fob_world) ∧ r = (-3) ∧ w = [(ce_X10 ob ob_thrown ob_world ob_images ob_hasImage ob_tape ob_taped ob_five ob_size ob_at ob_from ob_token ob_value ob_faultKind ob_faultPlace ob_fresh ob_parts ob_houses ob_houseMany ob_worthOf ob_byCall ob_over ob_bestSet ob_bestOver ob_bestWorth ob_row ob_tenDebts ob_tenMany ob_fewestBy ob_covered ob_queue ob_cameBy ob_parent ob_met ob_calls ob_callMany ob_calledOn ob_saved ob_many ob_width ob_numbers ob_moving), (ce_i9080 y ob_world fob_world), (ce_i6 y ob_parts fob_parts)]) ∨ (∃ (v_57 : Int32) (f_58 : Nat → Int32) (f_59 : Nat → Int32), ((0 : Int) ≤ v_57.toInt ∧ v_57.toInt ≤ 1) ∧ (RWw f_58) ∧ ((0 : Int) ≤ a1.toInt ∧ a1.toInt ≤ 15) ∧ ((0 : Int) ≤ a2.toInt ∧ a2.toInt ≤ 15) ∧ ((v_57 : Int32).toInt = gme fob_world a1.toInt a2.toInt) ∧ (tgd (gdo fob_world a1.toInt a2.toInt 4) f_58) ∧ (0 ≤ (v_57 : Int32).toInt) ∧ (∀ X : DX, mxt X fob_world → mxt X f_58) ∧ (wfr fob_world f_58) ∧ r = v_57 ∧ w = [(ce_X10 ob ob_thrown ob_world ob_images ob_hasImage ob_tape ob_taped ob_five ob_size ob_at ob_from ob_token ob_value ob_faultKind ob_faultPlace ob_fresh ob_parts ob_houses ob_houseMany ob_worthOf ob_byCall ob_over ob_bestSet ob_bestOver ob_bestWorth ob_row ob_tenDebts ob_tenMany ob_fewestBy ob_covered ob_queue ob_cameBy ob_parent ob_met ob_calls ob_callMany ob_calledOn ob_saved ob_many ob_width ob_numbers ob_moving), (ce_i9080 y ob_world f_58), (ce_i6 y ob_parts f_59)])) (kq G (va_A [(ce_X10 ob ob_thrown ob_world ob_images ob_hasImage ob_tape ob_taped ob_five ob_size ob_at ob_from ob_token ob_value ob_faultKind ob_faultPlace ob_fresh ob_parts ob_houses ob_houseMany ob_worthOf ob_byCall ob_over ob_bestSet ob_bestOver ob_bestWorth ob_row ob_tenDebts ob_tenMany ob_fewestBy ob_covered ob_queue ob_cameBy ob_parent ob_met ob_calls ob_callMany ob_calledOn ob_saved ob_many ob_width ob_numbers ob_moving), (ce_i9080 y ob_world fob_world), (ce_i6 y ob_parts fob_parts)] sz)) (va_A [(ce_X10 ob ob_thrown ob_world ob_images ob_hasImage ob_tape ob_taped ob_five ob_size ob_at ob_from ob_token ob_value ob_faultKind ob_faultPlace ob_fresh ob_parts ob_houses ob_houseMany ob_worthOf ob_byCall ob_over ob_bestSet ob_bestOver ob_bestWorth ob_row ob_tenDebts ob_tenMany ob_fewestBy ob_covered ob_queue ob_cameBy ob_parent ob_met ob_calls ob_callMany ob_calledOn ob_saved ob_many ob_width ob_numbers ob_moving), (ce_i9080 y ob_world fob_world), (ce_i6 y ob_parts fob_parts)] sz)) 0 0 (va_A [(ce_X10 ob ob_thrown ob_world ob_images ob_hasImage ob_tape ob_taped ob_five ob_size ob_at ob_from ob_token ob_value ob_faultKind ob_faultPlace ob_fresh ob_parts ob_houses ob_houseMany ob_worthOf ob_byCall ob_over ob_bestSet ob_bestOver ob_bestWorth ob_row ob_tenDebts ob_tenMany ob_fewestBy ob_covered ob_queue ob_cameBy ob_parent ob_met ob_calls ob_callMany ob_calledOn ob_saved ob_many ob_width ob_numbers ob_moving), (ce_i9080 y ob_world fob_world), (ce_i6 y ob_parts fob_parts)] sz) := by
  refine Met.ofW (cc := cX10_meet) (maxL := 4) (ret := (some .int)) (by decide) rfl ?_
  intro p e s m args below meth c s₁ B hml hv
  obtain ⟨rfl, hsz, hP, hK, hD0⟩ := hv
  have hx := B.exec
  have hb := B.bytes
  have hr := B.returns
  have hw0 : ∀ w ∈ wAll, w.before _ s = true := fun w h => atoms_spec (ws := Cond.code yX10_meet cX10_meet 4 (some .int) :: wAll) B.pre w (List.mem_cons_of_mem _ h)
  have hown : s.vm.findClass RX10 = some m.cls := findClass_of_methodNamed B.named
  subst hsz
  have hD := hD0.self (sz := s.heap.size)
  generalize hAe : va_A [(ce_X10 ob ob_thrown ob_world ob_images ob_hasImage ob_tape ob_taped ob_five ob_size ob_at ob_from ob_token ob_value ob_faultKind ob_faultPlace ob_fresh ob_parts ob_houses ob_houseMany ob_worthOf ob_byCall ob_over ob_bestSet ob_bestOver ob_bestWorth ob_row ob_tenDebts ob_tenMany ob_fewestBy ob_covered ob_queue ob_cameBy ob_parent ob_met ob_calls ob_callMany ob_calledOn ob_saved ob_many ob_width ob_numbers ob_moving), (ce_i9080 y ob_world fob_world), (ce_i6 y ob_parts fob_parts)] s.heap.size = A at hD ⊢
  have hA : ∀ q : Nat, s.heap.size ≤ q → A q := fun q h => by rw [← hAe]; exact Or.inr h
  have hS : va_S A s.heap s.heap [] := va_S.rf
  have hP : va_P G vwCl [(ce_X10 ob ob_thrown ob_world ob_images ob_hasImage ob_tape ob_taped ob_five ob_size ob_at ob_from ob_token ob_value ob_faultKind ob_faultPlace ob_fresh ob_parts ob_houses ob_houseMany ob_worthOf ob_byCall ob_over ob_bestSet ob_bestOver ob_bestWorth ob_row ob_tenDebts ob_tenMany ob_fewestBy ob_covered ob_queue ob_cameBy ob_parent ob_met ob_calls ob_callMany ob_calledOn ob_saved ob_many ob_width ob_numbers ob_moving), (ce_i9080 y ob_world fob_world), (ce_i6 y ob_parts fob_parts)] s.heap := hP
  have hl := lv_entry ([.ref ob, .int a1, .int a2]) (n := 4) (Nat.le_of_ble_eq_true rfl)
  rw [lg_entry_eq]
  generalize (lg_sl ([.ref ob, .int a1, .int a2]) ++ List.replicate (4 - (lg_sl ([.ref ob, .int a1, .int a2])).length) Slot.unset).toArray = ls at hl ⊢
  have hl : lv_has ls 4 [(0, .ref ob), (1, .int a1), (2, .int a2)] := hl
  refine lv_aload_n hx hb dX10_meet_0 rfl (lv_at hl 0 rfl) ?_
  refine lv_iload_n hx hb dX10_meet_1 rfl (lv_at hl 1 rfl) ?_
  refine lv_iload_n hx hb dX10_meet_2 rfl (lv_at hl 2 rfl) ?_
  refine cVim (As := [.int a1, .int a2]) (rest := []) ⟨hx, hb, hml, hown, hw0⟩ hA hK hP hD hS [true, true] (gareTwo l G y _ ob a1 a2 ob_thrown ob_world ob_images ob_hasImage ob_tape ob_taped ob_five ob_size ob_at ob_from ob_token ob_value ob_faultKind ob_faultPlace ob_fresh ob_parts ob_houses ob_houseMany ob_worthOf ob_byCall ob_over ob_bestSet ob_bestOver ob_bestWorth ob_row ob_tenDebts ob_tenMany ob_fewestBy ob_covered ob_queue ob_cameBy ob_parent ob_met ob_calls ob_callMany ob_calledOn ob_saved ob_many ob_width ob_numbers ob_moving fob_world p_fob_world p_ob_taped p_ob_size p_ob_at p_ob_from p_ob_token p_ob_value p_ob_faultKind p_ob_houseMany p_ob_bestSet p_ob_bestOver p_ob_tenMany p_ob_callMany) rfl ⟨(callB_of 2 hw0 (gA m_355) rfl rfl rfl (hw0 _ m_41) (hw0 _ m_364) cb_X10_areTwo ⟨Nat.le_of_ble_eq_true rfl, Nat.le_of_ble_eq_true rfl⟩), (hw0 _ m_365), (hw0 _ m_366)⟩ (ci := 10) (q := (RX10, TX10, 41)) rfl rfl rfl hl.1 (Nat.le_of_ble_eq_true rfl) dX10_meet_3 ⟨Nat.le_of_ble_eq_true rfl, Nat.le_of_ble_eq_true rfl⟩ (fun r_1001 w_1001 H locs hw_1001 hP hD hS => ?_)
  rcases hw_1001 with ⟨h_1002, rfl, rfl⟩ | ⟨h_1003, h_1004, h_1005, rfl, rfl⟩
  · skip
    obtain ⟨hP, hD⟩ : vPD G A H [(ce_X10 ob ob_thrown ob_world ob_images ob_hasImage ob_tape ob_taped ob_five ob_size ob_at ob_from ob_token ob_value ob_faultKind ob_faultPlace ob_fresh ob_parts ob_houses ob_houseMany ob_worthOf ob_byCall ob_over ob_bestSet ob_bestOver ob_bestWorth ob_row ob_tenDebts ob_tenMany ob_fewestBy ob_covered ob_queue ob_cameBy ob_parent ob_met ob_calls ob_callMany ob_calledOn ob_saved ob_many ob_width ob_numbers ob_moving), (ce_i9080 y ob_world fob_world), (ce_i6 y ob_parts fob_parts)] := ⟨hP, hD⟩
    refine lv_if_ne (tgt := 12) hx hb dX10_meet_6 (by decide) (fun c9 => absurd (by decide) c9) (fun _ => ?_)
    refine lv_bipush (v := (-2)) hx hb dX10_meet_9 (by decide) ?_
    exact W.iret (v := (-2)) hx hb hr (fun t ht hW => ⟨⟨(-2), _, rfl, Or.inl (⟨(gme_a h_1002), wfr_r, rfl, rfl⟩), by rw [ht]; exact hP, hD⟩, hS.F ht⟩) hS.2.2 dX10_meet_11
  · skip
    obtain ⟨hP, hD⟩ : vPD G A H [(ce_X10 ob ob_thrown ob_world ob_images ob_hasImage ob_tape ob_taped ob_five ob_size ob_at ob_from ob_token ob_value ob_faultKind ob_faultPlace ob_fresh ob_parts ob_houses ob_houseMany ob_worthOf ob_byCall ob_over ob_bestSet ob_bestOver ob_bestWorth ob_row ob_tenDebts ob_tenMany ob_fewestBy ob_covered ob_queue ob_cameBy ob_parent ob_met ob_calls ob_callMany ob_calledOn ob_saved ob_many ob_width ob_numbers ob_moving), (ce_i9080 y ob_world fob_world), (ce_i6 y ob_parts fob_parts)] := ⟨hP, hD⟩
    refine lv_if_ne (tgt := 12) hx hb dX10_meet_6 (by decide) (fun _ => ?_) (fun c9 => absurd c9 (by decide))
    refine lv_aload_n hx hb dX10_meet_12 rfl (lv_at hl 0 rfl) ?_
    refine va_get (D := G) (ci := 10) (v := .ref ob_world) (C := RX10) (T := TX10) (N := 41) hx hb hw0 inA_wsX100 hown hK.1 hP 0 rfl rfl 1 (by decide) (hw0 _ m_352) (fun _ h9 => h9) rfl dX10_meet_13 ?_
    refine lv_bipush (v := 8) hx hb dX10_meet_16 (by decide) ?_
    refine va_iald hx hb hK.1 hP 1 1 rfl rfl (vi (bkc (x := 8) (c := 8) (by decide)) (by decide)) dX10_meet_18 ?_
    refine lv_topi (fun v_1006 ev_1006 => ?_)
    have bv_1006 : (0 : Int) ≤ v_1006.toInt ∧ v_1006.toInt ≤ 600 := rdk ev_1006 (p_fob_world).1.1 (by decide)
    have yv_1006 : v_1006.toInt = (fob_world 8).toInt := congrArg Int32.toInt ev_1006
    refine lv_sipush (v := 600) hx hb dX10_meet_19 (by decide) ?_
    refine lv_icmp_ne (tgt := 28) hx hb dX10_meet_22 (by decide) (fun c_1007 => ?_) (fun c_1007 => ?_)
    · skip
      have nc_1007 := nb_ne (0) (599) c_1007 bv_1006 (k := 600) (by decide) (by decide)
      refine lv_aload_n hx hb dX10_meet_28 rfl (lv_at hl 0 rfl) ?_
      refine lv_iload_n hx hb dX10_meet_29 rfl (lv_at hl 1 rfl) ?_
      refine lv_iload_n hx hb dX10_meet_30 rfl (lv_at hl 2 rfl) ?_
      refine cVim (As := [.int a1, .int a2]) (rest := []) ⟨hx, hb, hml, hown, hw0⟩ hA hK hP hD hS [true, true] (gareKnown l G y _ ob a1 a2 ob_thrown ob_world ob_images ob_hasImage ob_tape ob_taped ob_five ob_size ob_at ob_from ob_token ob_value ob_faultKind ob_faultPlace ob_fresh ob_parts ob_houses ob_houseMany ob_worthOf ob_byCall ob_over ob_bestSet ob_bestOver ob_bestWorth ob_row ob_tenDebts ob_tenMany ob_fewestBy ob_covered ob_queue ob_cameBy ob_parent ob_met ob_calls ob_callMany ob_calledOn ob_saved ob_many ob_width ob_numbers ob_moving fob_world p_fob_world p_ob_taped p_ob_size p_ob_at p_ob_from p_ob_token p_ob_value p_ob_faultKind p_ob_houseMany p_ob_bestSet p_ob_bestOver p_ob_tenMany p_ob_callMany h_1003 h_1004) rfl ⟨(callB_of 2 hw0 (gA m_351) rfl rfl rfl (hw0 _ m_41) (hw0 _ m_379) cb_X10_areKnown ⟨Nat.le_of_ble_eq_true rfl, Nat.le_of_ble_eq_true rfl⟩), (hw0 _ m_380), (hw0 _ m_381)⟩ (ci := 10) (q := (RX10, TX10, 41)) rfl rfl rfl hl.1 (Nat.le_of_ble_eq_true rfl) dX10_meet_31 ⟨Nat.le_of_ble_eq_true rfl, Nat.le_of_ble_eq_true rfl⟩ (fun r_1008 w_1008 H locs hw_1008 hP hD hS => ?_)
      rcases hw_1008 with ⟨h_1009, rfl, rfl⟩ | ⟨h_1010, rfl, rfl⟩
      · skip
        obtain ⟨hP, hD⟩ : vPD G A H [(ce_X10 ob ob_thrown ob_world ob_images ob_hasImage ob_tape ob_taped ob_five ob_size ob_at ob_from ob_token ob_value ob_faultKind ob_faultPlace ob_fresh ob_parts ob_houses ob_houseMany ob_worthOf ob_byCall ob_over ob_bestSet ob_bestOver ob_bestWorth ob_row ob_tenDebts ob_tenMany ob_fewestBy ob_covered ob_queue ob_cameBy ob_parent ob_met ob_calls ob_callMany ob_calledOn ob_saved ob_many ob_width ob_numbers ob_moving), (ce_i9080 y ob_world fob_world), (ce_i6 y ob_parts fob_parts)] := ⟨hP, hD⟩
        refine lv_if_eq (tgt := 41) hx hb dX10_meet_34 (by decide) (fun _ => ?_) (fun c9 => absurd (by decide) c9)
        refine lv_iconst (v := 1) hx hb dX10_meet_41 (by decide) ?_
        refine lv_istore_n (lv' := [(3, .int 1), (0, .ref ob), (1, .int a1), (2, .int a2)]) hx hb dX10_meet_42 rfl hl (by decide) rfl (fun ls hl => ?_)
        refine lv_aload_n hx hb dX10_meet_43 rfl (lv_at hl 1 rfl) ?_
        refine lv_iload_n hx hb dX10_meet_44 rfl (lv_at hl 2 rfl) ?_
        refine lv_iload_n hx hb dX10_meet_45 rfl (lv_at hl 3 rfl) ?_
        refine lv_iconst (v := 4) hx hb dX10_meet_46 (by decide) ?_
        refine cVim (As := [.int a1, .int a2, .int 4]) (rest := []) ⟨hx, hb, hml, hown, hw0⟩ hA hK hP hD hS [true, true, true] (hnotes l G y _ ob a1 a2 4 ob_thrown ob_world ob_images ob_hasImage ob_tape ob_taped ob_five ob_size ob_at ob_from ob_token ob_value ob_faultKind ob_faultPlace ob_fresh ob_parts ob_houses ob_houseMany ob_worthOf ob_byCall ob_over ob_bestSet ob_bestOver ob_bestWorth ob_row ob_tenDebts ob_tenMany ob_fewestBy ob_covered ob_queue ob_cameBy ob_parent ob_met ob_calls ob_callMany ob_calledOn ob_saved ob_many ob_width ob_numbers ob_moving fob_world fob_parts p_fob_world p_ob_taped p_ob_size p_ob_at p_ob_from p_ob_token p_ob_value p_ob_faultKind p_ob_houseMany p_ob_bestSet p_ob_bestOver p_ob_tenMany p_ob_callMany h_1003 h_1004 (bw (0) (4) (bkc (x := 4) (c := 4) (by decide)) (by decide)) (by have h90 : Int32.toInt 1 = 1 := (by decide); have h91 : Int32.toInt 4 = 4 := (by decide); omega)) rfl ⟨(callB_of 3 hw0 (gA m_571) rfl rfl rfl (hw0 _ m_41) (hw0 _ m_429) cb_X10_notes ⟨Nat.le_of_ble_eq_true rfl, Nat.le_of_ble_eq_true rfl⟩), (hw0 _ m_430), (hw0 _ m_431)⟩ (ci := 10) (q := (RX10, TX10, 41)) rfl rfl rfl hl.1 (Nat.le_of_ble_eq_true rfl) dX10_meet_47 ⟨Nat.le_of_ble_eq_true rfl, Nat.le_of_ble_eq_true rfl⟩ (fun r_1011 w_1011 H locs hw_1011 hP hD hS => ?_)
        obtain ⟨v_1012, f_1013, f_1014, bv_1012, bf_1013, h_1015, h_1016, h_1017, h_1018, h_1019, er_1011, rfl⟩ := hw_1011
        subst r_1011
        obtain ⟨hP, hD⟩ : vPD G A H [(ce_X10 ob ob_thrown ob_world ob_images ob_hasImage ob_tape ob_taped ob_five ob_size ob_at ob_from ob_token ob_value ob_faultKind ob_faultPlace ob_fresh ob_parts ob_houses ob_houseMany ob_worthOf ob_byCall ob_over ob_bestSet ob_bestOver ob_bestWorth ob_row ob_tenDebts ob_tenMany ob_fewestBy ob_covered ob_queue ob_cameBy ob_parent ob_met ob_calls ob_callMany ob_calledOn ob_saved ob_many ob_width ob_numbers ob_moving), (ce_i9080 y ob_world f_1013), (ce_i6 y ob_parts f_1014)] := ⟨hP, hD⟩
        refine lv_pop hx hb dX10_meet_50 rfl ?_
        refine lv_iload_n hx hb dX10_meet_51 rfl (lv_at hl 0 rfl) ?_
        exact W.iret (v := 1) hx hb hr (fun t ht hW => ⟨⟨1, _, rfl, Or.inr (Or.inr (⟨1, f_1013, f_1014, (bw (0) (1) (bkc (x := 1) (c := 1) (by decide)) (by decide)), bf_1013, h_1003, h_1004, (by have h90 : Int32.toInt 1 = 1 := (by decide); rw [gme_c h_1005 (by omega)]; omega), h_1015, by have h90 : Int32.toInt 1 = 1 := (by decide); omega, (by have lm1 : Int32.toInt (-1) = -1 := (by decide); have l91 : Int32.toInt 1 = 1 := (by decide); have l92 : Int32.toInt 2 = 2 := (by decide); have l93 : Int32.toInt 3 = 3 := (by decide); have h90 : Int32.toInt 1 = 1 := (by decide); intro X H; have h9 := (h_1018 X H).2; rw [show (4 : Int32).toInt = 4 by decide, gdX_4] at h9; exact h9), h_1019, rfl, rfl⟩)), by rw [ht]; exact hP, hD⟩, hS.F ht⟩) hS.2.2 dX10_meet_52
      · skip
        obtain ⟨hP, hD⟩ : vPD G A H [(ce_X10 ob ob_thrown ob_world ob_images ob_hasImage ob_tape ob_taped ob_five ob_size ob_at ob_from ob_token ob_value ob_faultKind ob_faultPlace ob_fresh ob_parts ob_houses ob_houseMany ob_worthOf ob_byCall ob_over ob_bestSet ob_bestOver ob_bestWorth ob_row ob_tenDebts ob_tenMany ob_fewestBy ob_covered ob_queue ob_cameBy ob_parent ob_met ob_calls ob_callMany ob_calledOn ob_saved ob_many ob_width ob_numbers ob_moving), (ce_i9080 y ob_world fob_world), (ce_i6 y ob_parts fob_parts)] := ⟨hP, hD⟩
        refine lv_if_eq (tgt := 41) hx hb dX10_meet_34 (by decide) (fun c9 => absurd c9 (by decide)) (fun _ => ?_)
        refine lv_iconst (v := 0) hx hb dX10_meet_37 (by decide) ?_
        refine lv_goto (tgt := 42) hx hb dX10_meet_38 (by decide) ?_
        refine lv_istore_n (lv' := [(3, .int 0), (0, .ref ob), (1, .int a1), (2, .int a2)]) hx hb dX10_meet_42 rfl hl (by decide) rfl (fun ls hl => ?_)
        refine lv_aload_n hx hb dX10_meet_43 rfl (lv_at hl 1 rfl) ?_
        refine lv_iload_n hx hb dX10_meet_44 rfl (lv_at hl 2 rfl) ?_
        refine lv_iload_n hx hb dX10_meet_45 rfl (lv_at hl 3 rfl) ?_
        refine lv_iconst (v := 4) hx hb dX10_meet_46 (by decide) ?_
        refine cVim (As := [.int a1, .int a2, .int 4]) (rest := []) ⟨hx, hb, hml, hown, hw0⟩ hA hK hP hD hS [true, true, true] (hnotes l G y _ ob a1 a2 4 ob_thrown ob_world ob_images ob_hasImage ob_tape ob_taped ob_five ob_size ob_at ob_from ob_token ob_value ob_faultKind ob_faultPlace ob_fresh ob_parts ob_houses ob_houseMany ob_worthOf ob_byCall ob_over ob_bestSet ob_bestOver ob_bestWorth ob_row ob_tenDebts ob_tenMany ob_fewestBy ob_covered ob_queue ob_cameBy ob_parent ob_met ob_calls ob_callMany ob_calledOn ob_saved ob_many ob_width ob_numbers ob_moving fob_world fob_parts p_fob_world p_ob_taped p_ob_size p_ob_at p_ob_from p_ob_token p_ob_value p_ob_faultKind p_ob_houseMany p_ob_bestSet p_ob_bestOver p_ob_tenMany p_ob_callMany h_1003 h_1004 (bw (0) (4) (bkc (x := 4) (c := 4) (by decide)) (by decide)) (by have h90 : Int32.toInt 0 = 0 := (by decide); have h91 : Int32.toInt 4 = 4 := (by decide); omega)) rfl ⟨(callB_of 3 hw0 (gA m_571) rfl rfl rfl (hw0 _ m_41) (hw0 _ m_429) cb_X10_notes ⟨Nat.le_of_ble_eq_true rfl, Nat.le_of_ble_eq_true rfl⟩), (hw0 _ m_430), (hw0 _ m_431)⟩ (ci := 10) (q := (RX10, TX10, 41)) rfl rfl rfl hl.1 (Nat.le_of_ble_eq_true rfl) dX10_meet_47 ⟨Nat.le_of_ble_eq_true rfl, Nat.le_of_ble_eq_true rfl⟩ (fun r_1020 w_1020 H locs hw_1020 hP hD hS => ?_)
        obtain ⟨v_1021, f_1022, f_1023, bv_1021, bf_1022, h_1024, h_1025, h_1026, h_1027, h_1028, er_1020, rfl⟩ := hw_1020
        subst r_1020
        obtain ⟨hP, hD⟩ : vPD G A H [(ce_X10 ob ob_thrown ob_world ob_images ob_hasImage ob_tape ob_taped ob_five ob_size ob_at ob_from ob_token ob_value ob_faultKind ob_faultPlace ob_fresh ob_parts ob_houses ob_houseMany ob_worthOf ob_byCall ob_over ob_bestSet ob_bestOver ob_bestWorth ob_row ob_tenDebts ob_tenMany ob_fewestBy ob_covered ob_queue ob_cameBy ob_parent ob_met ob_calls ob_callMany ob_calledOn ob_saved ob_many ob_width ob_numbers ob_moving), (ce_i9080 y ob_world f_1022), (ce_i6 y ob_parts f_1023)] := ⟨hP, hD⟩
        refine lv_pop hx hb dX10_meet_50 rfl ?_
        refine lv_iload_n hx hb dX10_meet_51 rfl (lv_at hl 0 rfl) ?_
        exact W.iret (v := 0) hx hb hr (fun t ht hW => ⟨⟨0, _, rfl, Or.inr (Or.inr (⟨0, f_1022, f_1023, (bw (0) (1) (bkc (x := 0) (c := 0) (by decide)) (by decide)), bf_1022, h_1003, h_1004, (by have h90 : Int32.toInt 0 = 0 := (by decide); rw [gme_c h_1005 (by omega)]; omega), h_1024, by have h90 : Int32.toInt 0 = 0 := (by decide); omega, (by have lm1 : Int32.toInt (-1) = -1 := (by decide); have l91 : Int32.toInt 1 = 1 := (by decide); have l92 : Int32.toInt 2 = 2 := (by decide); have l93 : Int32.toInt 3 = 3 := (by decide); have h90 : Int32.toInt 0 = 0 := (by decide); intro X H; have h9 := (h_1027 X H).2; rw [show (4 : Int32).toInt = 4 by decide, gdX_4] at h9; exact h9), h_1028, rfl, rfl⟩)), by rw [ht]; exact hP, hD⟩, hS.F ht⟩) hS.2.2 dX10_meet_52
    · skip
      have nc_1007 := nb_eq (600) (600) c_1007 bv_1006 (bkc (x := 600) (c := 600) (by decide)) (by decide)
      refine lv_bipush (v := (-3)) hx hb dX10_meet_25 (by decide) ?_
      exact W.iret (v := (-3)) hx hb hr (fun t ht hW => ⟨⟨(-3), _, rfl, Or.inr (Or.inl (⟨h_1003, h_1004, (gme_b h_1005 (by omega)), wfr_r, rfl, rfl⟩)), by rw [ht]; exact hP, hD⟩, hS.F ht⟩) hS.2.2 dX10_meet_27

set_option maxHeartbeats 4000000 in
set_option maxRecDepth 100000 in
theorem hisSlotT (l : Launch) (G : va_G) (y : Nat → ClassId) (sz : Nat) (a1 : Int32)  : Met l yX10_isSlot (Cond.code yX10_isSlot cX10_isSlot 1 (some .boolean) :: wAll) ({ frames := 1, cells := 0, slots := 0, locals := 25 }) (va_Pc [.int a1] (kp G y sz [])) (va_Qi (fun (r : Int32) (w : va_W) => ((a1.toInt < 0 ∨ 3 < a1.toInt) ∧ r = 0 ∧ w = []) ∨ (((0 : Int) ≤ a1.toInt ∧ a1.toInt ≤ 3) ∧ (0 ≤ a1.toInt ∧ a1.toInt ≤ 3) ∧ r = 1 ∧ w = [])) (kq G (va_A [] sz)) (va_A [] sz)) 0 0 (va_A [] sz) := by
  refine Met.ofW (cc := cX10_isSlot) (maxL := 1) (ret := (some .boolean)) (by decide) rfl ?_
  intro p e s m args below meth c s₁ B hml hv
  obtain ⟨rfl, hsz, hP, hK, hD0⟩ := hv
  have hx := B.exec
  have hb := B.bytes
  have hr := B.returns
  have hw0 : ∀ w ∈ wAll, w.before _ s = true := fun w h => atoms_spec (ws := Cond.code yX10_isSlot cX10_isSlot 1 (some .boolean) :: wAll) B.pre w (List.mem_cons_of_mem _ h)
  have hown : s.vm.findClass RX10 = some m.cls := findClass_of_methodNamed B.named
  subst hsz
  have hD := hD0.self (sz := s.heap.size)
  generalize hAe : va_A [] s.heap.size = A at hD ⊢
  have hA : ∀ q : Nat, s.heap.size ≤ q → A q := fun q h => by rw [← hAe]; exact Or.inr h
  have hS : va_S A s.heap s.heap [] := va_S.rf
  have hP : va_P G vwCl [] s.heap := hP
  have hl := lv_entry ([.int a1]) (n := 1) (Nat.le_of_ble_eq_true rfl)
  rw [lg_entry_eq]
  generalize (lg_sl ([.int a1]) ++ List.replicate (1 - (lg_sl ([.int a1])).length) Slot.unset).toArray = ls at hl ⊢
  have hl : lv_has ls 1 [(0, .int a1)] := hl
  refine lv_iload_n hx hb dX10_isSlot_0 rfl (lv_at hl 0 rfl) ?_
  refine lv_i2l hx hb dX10_isSlot_1 rfl ?_
  refine lv_lconst (v := 0) hx hb dX10_isSlot_2 (by decide) ?_
  refine lv_ldc2 (own := RX10) (v := 3) hx hb hown (hw0 _ m_398) dX10_isSlot_3 ?_
  refine cSim (As := [.long (a1).toInt64, .long 0, .long 3]) (rest := []) ⟨hx, hb, hml, hown, hw0⟩ hA hK hP hD hS [] (sX10_in l G y _ ((a1).toInt64) 0 3 ) rfl ⟨(callB_of 3 hw0 (gA m_516) rfl rfl rfl (hw0 _ m_41) (hw0 _ m_345) cb_X10_in ⟨Nat.le_of_ble_eq_true rfl, Nat.le_of_ble_eq_true rfl⟩), (hw0 _ m_346)⟩ rfl hl.1 (Nat.le_of_ble_eq_true rfl) dX10_isSlot_6 ⟨Nat.le_of_ble_eq_true rfl, Nat.le_of_ble_eq_true rfl⟩ (fun r_1001 w_1001 H locs hw_1001 hP hD hS => ?_)
  rcases hw_1001 with ⟨h_1002, rfl, rfl⟩ | ⟨h_1003, rfl, rfl⟩
  · skip
    have h_1004 : a1.toInt < (0 : Int) ∨ (3 : Int) < a1.toInt := in_n h_1002 (Int32.toInt_toInt64 _) (by decide) (by decide)
    obtain ⟨hP, hD⟩ : vPD G A H [] := ⟨hP, hD⟩
    exact W.zret (v := 0) hx hb hr rfl (fun t ht hW => ⟨⟨0, _, rfl, Or.inl (⟨by have h90 : Int32.toInt 0 = 0 := (by decide); omega, rfl, rfl⟩), by rw [ht]; exact hP, hD⟩, hS.F ht⟩) hS.2.2 dX10_isSlot_9
  · skip
    have h_1005 : (0 : Int) ≤ a1.toInt ∧ a1.toInt ≤ (3 : Int) := in_y h_1003 (Int32.toInt_toInt64 _) (by decide) (by decide)
    have h_1006_0 := (btop a1)
    have h_1006_1 := True.intro
    have h_1006_2 := True.intro
    have h_1006 : (0 : Int) ≤ a1.toInt ∧ a1.toInt ≤ 3 := by omega
    obtain ⟨hP, hD⟩ : vPD G A H [] := ⟨hP, hD⟩
    exact W.zret (v := 1) hx hb hr rfl (fun t ht hW => ⟨⟨1, _, rfl, Or.inr (⟨h_1006, by have h90 : Int32.toInt 1 = 1 := (by decide); omega, rfl, rfl⟩), by rw [ht]; exact hP, hD⟩, hS.F ht⟩) hS.2.2 dX10_isSlot_9
