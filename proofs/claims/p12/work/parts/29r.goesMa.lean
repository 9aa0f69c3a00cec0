set_option maxHeartbeats 4000000 in
set_option maxRecDepth 100000 in
theorem hmeets (l : Launch) (G : va_G) (y : Nat → ClassId) (sz : Nat) (ob : Nat) (a1 : Int32) (a2 : Int32) (ob_thrown : Int32) (ob_world : Nat) (ob_images : Nat) (ob_hasImage : Nat) (ob_tape : Nat) (ob_taped : Int32) (ob_five : Nat) (ob_size : Int32) (ob_at : Int32) (ob_from : Int32) (ob_token : Int32) (ob_value : Int32) (ob_faultKind : Int32) (ob_faultPlace : Int32) (ob_fresh : Nat) (ob_parts : Nat) (ob_houses : Nat) (ob_houseMany : Int32) (ob_worthOf : Nat) (ob_byCall : Nat) (ob_over : Nat) (ob_bestSet : Int32) (ob_bestOver : Int32) (ob_bestWorth : Int32) (ob_row : Nat) (ob_tenDebts : Nat) (ob_tenMany : Int32) (ob_fewestBy : Nat) (ob_covered : Nat) (ob_queue : Nat) (ob_cameBy : Nat) (ob_parent : Nat) (ob_met : Nat) (ob_calls : Nat) (ob_callMany : Int32) (ob_calledOn : Nat) (ob_saved : Nat) (ob_many : Nat) (ob_width : Nat) (ob_numbers : Nat) (ob_moving : Nat) (fob_world : Nat → Int32) (p_fob_world : RWw fob_world) (p_ob_taped : (0 : Int) ≤ ob_taped.toInt ∧ ob_taped.toInt ≤ 1400) (p_ob_size : (0 : Int) ≤ ob_size.toInt ∧ ob_size.toInt ≤ 1400) (p_ob_at : (0 : Int) ≤ ob_at.toInt ∧ ob_at.toInt ≤ 1400) (p_ob_from : (0 : Int) ≤ ob_from.toInt ∧ ob_from.toInt ≤ 1400) (p_ob_token : (0 : Int) ≤ ob_token.toInt ∧ ob_token.toInt ≤ 4) (p_ob_value : (0 : Int) ≤ ob_value.toInt ∧ ob_value.toInt ≤ 9999) (p_ob_faultKind : (0 : Int) ≤ ob_faultKind.toInt ∧ ob_faultKind.toInt ≤ 3) (p_ob_houseMany : (0 : Int) ≤ ob_houseMany.toInt ∧ ob_houseMany.toInt ≤ 10) (p_ob_bestSet : (0 : Int) ≤ ob_bestSet.toInt ∧ ob_bestSet.toInt ≤ 1023) (p_ob_bestOver : (-1 : Int) ≤ ob_bestOver.toInt ∧ ob_bestOver.toInt ≤ 180) (p_ob_tenMany : (0 : Int) ≤ ob_tenMany.toInt ∧ ob_tenMany.toInt ≤ 10) (p_ob_callMany : (0 : Int) ≤ ob_callMany.toInt ∧ ob_callMany.toInt ≤ 16) (p_a1 : (0 : Int) ≤ a1.toInt ∧ a1.toInt ≤ 15) (p_a2 : (0 : Int) ≤ a2.toInt ∧ a2.toInt ≤ 15) : Met l yX10_meets (Cond.code yX10_meets cX10_meets 3 none :: wAll) ({ frames := 0, cells := 0, slots := 0, locals := 0 }) (va_Pc [.ref ob, .int a1, .int a2] (kp G y sz [(ce_X10 ob ob_thrown ob_world ob_images ob_hasImage ob_tape ob_taped ob_five ob_size ob_at ob_from ob_token ob_value ob_faultKind ob_faultPlace ob_fresh ob_parts ob_houses ob_houseMany ob_worthOf ob_byCall ob_over ob_bestSet ob_bestOver ob_bestWorth ob_row ob_tenDebts ob_tenMany ob_fewestBy ob_covered ob_queue ob_cameBy ob_parent ob_met ob_calls ob_callMany ob_calledOn ob_saved ob_many ob_width ob_numbers ob_moving), (ce_i9080 y ob_world fob_world)])) (va_Qv (fun (w : va_W) => (∃ (f_21 : Nat → Int32), (RWw f_21) ∧ ((f_21 7).toInt = (fob_world 7).toInt ∧ (f_21 8).toInt = (fob_world 8).toInt) ∧ (f_21 = kno fob_world (1864 + a1.toInt.toNat) (1864 + a2.toInt.toNat) a1.toInt a2.toInt) ∧ ((f_21 9).toInt = (fob_world 9).toInt) ∧ (wfr fob_world f_21) ∧ w = [(ce_X10 ob ob_thrown ob_world ob_images ob_hasImage ob_tape ob_taped ob_five ob_size ob_at ob_from ob_token ob_value ob_faultKind ob_faultPlace ob_fresh ob_parts ob_houses ob_houseMany ob_worthOf ob_byCall ob_over ob_bestSet ob_bestOver ob_bestWorth ob_row ob_tenDebts ob_tenMany ob_fewestBy ob_covered ob_queue ob_cameBy ob_parent ob_met ob_calls ob_callMany ob_calledOn ob_saved ob_many ob_width ob_numbers ob_moving), (ce_i9080 y ob_world f_21)])) (kq G (va_A [(ce_X10 ob ob_thrown ob_world ob_images ob_hasImage ob_tape ob_taped ob_five ob_size ob_at ob_from ob_token ob_value ob_faultKind ob_faultPlace ob_fresh ob_parts ob_houses ob_houseMany ob_worthOf ob_byCall ob_over ob_bestSet ob_bestOver ob_bestWorth ob_row ob_tenDebts ob_tenMany ob_fewestBy ob_covered ob_queue ob_cameBy ob_parent ob_met ob_calls ob_callMany ob_calledOn ob_saved ob_many ob_width ob_numbers ob_moving), (ce_i9080 y ob_world fob_world)] sz)) (va_A [(ce_X10 ob ob_thrown ob_world ob_images ob_hasImage ob_tape ob_taped ob_five ob_size ob_at ob_from ob_token ob_value ob_faultKind ob_faultPlace ob_fresh ob_parts ob_houses ob_houseMany ob_worthOf ob_byCall ob_over ob_bestSet ob_bestOver ob_bestWorth ob_row ob_tenDebts ob_tenMany ob_fewestBy ob_covered ob_queue ob_cameBy ob_parent ob_met ob_calls ob_callMany ob_calledOn ob_saved ob_many ob_width ob_numbers ob_moving), (ce_i9080 y ob_world fob_world)] sz)) 0 0 (va_A [(ce_X10 ob ob_thrown ob_world ob_images ob_hasImage ob_tape ob_taped ob_five ob_size ob_at ob_from ob_token ob_value ob_faultKind ob_faultPlace ob_fresh ob_parts ob_houses ob_houseMany ob_worthOf ob_byCall ob_over ob_bestSet ob_bestOver ob_bestWorth ob_row ob_tenDebts ob_tenMany ob_fewestBy ob_covered ob_queue ob_cameBy ob_parent ob_met ob_calls ob_callMany ob_calledOn ob_saved ob_many ob_width ob_numbers ob_moving), (ce_i9080 y ob_world fob_world)] sz) := by
  refine Met.ofW (cc := cX10_meets) (maxL := 3) (ret := none) (by decide) rfl ?_
  intro p e s m args below meth c s₁ B hml hv
  obtain ⟨rfl, hsz, hP, hK, hD0⟩ := hv
  have hx := B.exec
  have hb := B.bytes
  have hr := B.returns
  have hw0 : ∀ w ∈ wAll, w.before _ s = true := fun w h => atoms_spec (ws := Cond.code yX10_meets cX10_meets 3 none :: wAll) B.pre w (List.mem_cons_of_mem _ h)
  have hown : s.vm.findClass RX10 = some m.cls := findClass_of_methodNamed B.named
  subst hsz
  have hD := hD0.self (sz := s.heap.size)
  generalize hAe : va_A [(ce_X10 ob ob_thrown ob_world ob_images ob_hasImage ob_tape ob_taped ob_five ob_size ob_at ob_from ob_token ob_value ob_faultKind ob_faultPlace ob_fresh ob_parts ob_houses ob_houseMany ob_worthOf ob_byCall ob_over ob_bestSet ob_bestOver ob_bestWorth ob_row ob_tenDebts ob_tenMany ob_fewestBy ob_covered ob_queue ob_cameBy ob_parent ob_met ob_calls ob_callMany ob_calledOn ob_saved ob_many ob_width ob_numbers ob_moving), (ce_i9080 y ob_world fob_world)] s.heap.size = A at hD ⊢
  have hA : ∀ q : Nat, s.heap.size ≤ q → A q := fun q h => by rw [← hAe]; exact Or.inr h
  have hS : va_S A s.heap s.heap [] := va_S.rf
  have hP : va_P G vwCl [(ce_X10 ob ob_thrown ob_world ob_images ob_hasImage ob_tape ob_taped ob_five ob_size ob_at ob_from ob_token ob_value ob_faultKind ob_faultPlace ob_fresh ob_parts ob_houses ob_houseMany ob_worthOf ob_byCall ob_over ob_bestSet ob_bestOver ob_bestWorth ob_row ob_tenDebts ob_tenMany ob_fewestBy ob_covered ob_queue ob_cameBy ob_parent ob_met ob_calls ob_callMany ob_calledOn ob_saved ob_many ob_width ob_numbers ob_moving), (ce_i9080 y ob_world fob_world)] s.heap := hP
  have hl := lv_entry ([.ref ob, .int a1, .int a2]) (n := 3) (Nat.le_of_ble_eq_true rfl)
  rw [lg_entry_eq]
  generalize (lg_sl ([.ref ob, .int a1, .int a2]) ++ List.replicate (3 - (lg_sl ([.ref ob, .int a1, .int a2])).length) Slot.unset).toArray = ls at hl ⊢
  have hl : lv_has ls 3 [(0, .ref ob), (1, .int a1), (2, .int a2)] := hl
  refine lv_aload_n hx hb dX10_meets_0 rfl (lv_at hl 0 rfl) ?_
  refine va_get (D := G) (ci := 10) (v := .ref ob_world) (C := RX10) (T := TX10) (N := 41) hx hb hw0 inA_wsX100 hown hK.1 hP 0 rfl rfl 1 (by decide) (hw0 _ m_352) (fun _ h9 => h9) rfl dX10_meets_1 ?_
  refine lv_sipush (v := 1864) hx hb dX10_meets_4 (by decide) ?_
  refine lv_iload_n hx hb dX10_meets_7 rfl (lv_at hl 1 rfl) ?_
  refine lv_iadd hx hb dX10_meets_8 ?_
  refine lv_topi (fun v_1001 ev_1001 => ?_)
  have qv_1001 := ba_add ev_1001 (bkc (x := 1864) (c := 1864) (by decide)) p_a1 (by decide)
  have bv_1001 : (1864 : Int) ≤ v_1001.toInt ∧ v_1001.toInt ≤ 1879 := bq_add qv_1001 (bkc (x := 1864) (c := 1864) (by decide)) p_a1 _ _ (by decide)
  have qv_1001 : v_1001.toInt = (1864) + a1.toInt := qv_1001
  refine lv_dup2_11 hx hb dX10_meets_9 rfl rfl ?_
  refine va_iald hx hb hK.1 hP 1 1 rfl rfl (vi bv_1001 (by decide)) dX10_meets_10 ?_
  refine lv_topi (fun v_1002 ev_1002 => ?_)
  have bv_1002 : (0 : Int) ≤ v_1002.toInt ∧ v_1002.toInt ≤ 65535 := rdw ev_1002 (p_fob_world).1.1 pl_12 (by omega) (p_a1)
  refine lv_iconst (v := 1) hx hb dX10_meets_11 (by decide) ?_
  refine lv_iload_n hx hb dX10_meets_12 rfl (lv_at hl 2 rfl) ?_
  refine lv_ishl hx hb dX10_meets_13 ?_
  refine lv_topi (fun v_1003 ev_1003 => ?_)
  have bv_1003 : (1 : Int) ≤ v_1003.toInt ∧ v_1003.toInt ≤ 32768 := ba_shl 0 15 ev_1003 p_a2 (by decide)
  refine lv_ior hx hb dX10_meets_14 ?_
  refine lv_topi (fun v_1004 ev_1004 => ?_)
  have bv_1004 : (0 : Int) ≤ v_1004.toInt ∧ v_1004.toInt ≤ 65535 := ba_or 16 ev_1004 bv_1002 bv_1003 (by decide)
  refine va_iast hx hb hK.1 hP hD hS 1 1 rfl rfl (vi bv_1001 (by decide)) dX10_meets_15 (fun H locs hP hD hS => ?_)
  generalize hf_1005 : (upd fob_world (v_1001 : Int32).toNatClampNeg v_1004) = f_1005 at hP hD
  have zf_1005_7 : (f_1005 7).toInt = (fob_world 7).toInt := hf_1005 ▸ pin_ne (ix_not bv_1001 (by decide))
  have zf_1005_8 : (f_1005 8).toInt = (fob_world 8).toInt := hf_1005 ▸ pin_ne (ix_not bv_1001 (by decide))
  have zf_1005_9 : (f_1005 9).toInt = (fob_world 9).toInt := hf_1005 ▸ pin_ne (ix_not bv_1001 (by decide))
  have bf_1005 : RBw f_1005 := hf_1005 ▸ upw (p_fob_world).1.1 pl_13 (by omega) (p_a1) bv_1004
  have cf_1005 : RVw f_1005 := hf_1005 ▸ RV_up (p_fob_world).1 (hf_1005 ▸ bf_1005) (ix_out bv_1001 (by decide))
  have df_1005 : RWw f_1005 := ⟨cf_1005, hf_1005 ▸ WQ_up (p_fob_world).1.1 (p_fob_world).2 (qf_ix bv_1001 (by decide))⟩
  obtain ⟨hP, hD⟩ : vPD G A H [(ce_X10 ob ob_thrown ob_world ob_images ob_hasImage ob_tape ob_taped ob_five ob_size ob_at ob_from ob_token ob_value ob_faultKind ob_faultPlace ob_fresh ob_parts ob_houses ob_houseMany ob_worthOf ob_byCall ob_over ob_bestSet ob_bestOver ob_bestWorth ob_row ob_tenDebts ob_tenMany ob_fewestBy ob_covered ob_queue ob_cameBy ob_parent ob_met ob_calls ob_callMany ob_calledOn ob_saved ob_many ob_width ob_numbers ob_moving), (ce_i9080 y ob_world f_1005)] := ⟨hP, hD⟩
  refine lv_aload_n hx hb dX10_meets_16 rfl (lv_at hl 0 rfl) ?_
  refine va_get (D := G) (ci := 10) (v := .ref ob_world) (C := RX10) (T := TX10) (N := 41) hx hb hw0 inA_wsX100 hown hK.1 hP 0 rfl rfl 1 (by decide) (hw0 _ m_352) (fun _ h9 => h9) rfl dX10_meets_17 ?_
  refine lv_sipush (v := 1864) hx hb dX10_meets_20 (by decide) ?_
  refine lv_iload_n hx hb dX10_meets_23 rfl (lv_at hl 2 rfl) ?_
  refine lv_iadd hx hb dX10_meets_24 ?_
  refine lv_topi (fun v_1006 ev_1006 => ?_)
  have qv_1006 := ba_add ev_1006 (bkc (x := 1864) (c := 1864) (by decide)) p_a2 (by decide)
  have bv_1006 : (1864 : Int) ≤ v_1006.toInt ∧ v_1006.toInt ≤ 1879 := bq_add qv_1006 (bkc (x := 1864) (c := 1864) (by decide)) p_a2 _ _ (by decide)
  have qv_1006 : v_1006.toInt = (1864) + a2.toInt := qv_1006
  refine lv_dup2_11 hx hb dX10_meets_25 rfl rfl ?_
  refine va_iald hx hb hK.1 hP 1 1 rfl rfl (vi bv_1006 (by decide)) dX10_meets_26 ?_
  refine lv_topi (fun v_1007 ev_1007 => ?_)
  have bv_1007 : (0 : Int) ≤ v_1007.toInt ∧ v_1007.toInt ≤ 65535 := rdw ev_1007 (df_1005).1.1 pl_12 (by omega) (p_a2)
  refine lv_iconst (v := 1) hx hb dX10_meets_27 (by decide) ?_
  refine lv_iload_n hx hb dX10_meets_28 rfl (lv_at hl 1 rfl) ?_
  refine lv_ishl hx hb dX10_meets_29 ?_
  refine lv_topi (fun v_1008 ev_1008 => ?_)
  have bv_1008 : (1 : Int) ≤ v_1008.toInt ∧ v_1008.toInt ≤ 32768 := ba_shl 0 15 ev_1008 p_a1 (by decide)
  refine lv_ior hx hb dX10_meets_30 ?_
  refine lv_topi (fun v_1009 ev_1009 => ?_)
  have bv_1009 : (0 : Int) ≤ v_1009.toInt ∧ v_1009.toInt ≤ 65535 := ba_or 16 ev_1009 bv_1007 bv_1008 (by decide)
  refine va_iast hx hb hK.1 hP hD hS 1 1 rfl rfl (vi bv_1006 (by decide)) dX10_meets_31 (fun H locs hP hD hS => ?_)
  generalize hf_1010 : (upd f_1005 (v_1006 : Int32).toNatClampNeg v_1009) = f_1010 at hP hD
  have zf_1010_7 : (f_1010 7).toInt = (f_1005 7).toInt := hf_1010 ▸ pin_ne (ix_not bv_1006 (by decide))
  have zf_1010_8 : (f_1010 8).toInt = (f_1005 8).toInt := hf_1010 ▸ pin_ne (ix_not bv_1006 (by decide))
  have zf_1010_9 : (f_1010 9).toInt = (f_1005 9).toInt := hf_1010 ▸ pin_ne (ix_not bv_1006 (by decide))
  have bf_1010 : RBw f_1010 := hf_1010 ▸ upw (df_1005).1.1 pl_13 (by omega) (p_a2) bv_1009
  have cf_1010 : RVw f_1010 := hf_1010 ▸ RV_up (df_1005).1 (hf_1010 ▸ bf_1010) (ix_out bv_1006 (by decide))
  have df_1010 : RWw f_1010 := ⟨cf_1010, hf_1010 ▸ WQ_up (df_1005).1.1 (df_1005).2 (qf_ix bv_1006 (by decide))⟩
  obtain ⟨hP, hD⟩ : vPD G A H [(ce_X10 ob ob_thrown ob_world ob_images ob_hasImage ob_tape ob_taped ob_five ob_size ob_at ob_from ob_token ob_value ob_faultKind ob_faultPlace ob_fresh ob_parts ob_houses ob_houseMany ob_worthOf ob_byCall ob_over ob_bestSet ob_bestOver ob_bestWorth ob_row ob_tenDebts ob_tenMany ob_fewestBy ob_covered ob_queue ob_cameBy ob_parent ob_met ob_calls ob_callMany ob_calledOn ob_saved ob_many ob_width ob_numbers ob_moving), (ce_i9080 y ob_world f_1010)] := ⟨hP, hD⟩
  exact W.vret hx hb hr (fun t ht hW => ⟨⟨_, rfl, ⟨f_1010, df_1010, by omega, (by have lm1 : Int32.toInt (-1) = -1 := (by decide); have l91 : Int32.toInt 1 = 1 := (by decide); have l92 : Int32.toInt 2 = 2 := (by decide); have l93 : Int32.toInt 3 = 3 := (by decide); exact kno_m hf_1005 hf_1010 ev_1004 ev_1009 ev_1002 ev_1007 ev_1003 ev_1008 (by omega) (by omega) (by omega) (by omega)), by omega, (wfr_u (wfr_u wfr_r hf_1005 (ix_wfr bv_1001 (by decide))) hf_1010 (ix_wfr bv_1006 (by decide))), rfl⟩, by rw [ht]; exact hP, hD⟩, hS.F ht⟩) hS.2.2 dX10_meets_32
