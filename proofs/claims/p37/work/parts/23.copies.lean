set_option maxHeartbeats 4000000 in
set_option maxRecDepth 100000 in
theorem skeep0 (l : Launch) (G : va_G) (y : Nat → ClassId) (sz : Nat) (ob : Nat) (ob_thrown : Int32) (ob_world : Nat) (ob_images : Nat) (ob_hasImage : Nat) (ob_tape : Nat) (ob_taped : Int32) (ob_five : Nat) (ob_size : Int32) (ob_at : Int32) (ob_from : Int32) (ob_token : Int32) (ob_value : Int32) (ob_faultKind : Int32) (ob_faultPlace : Int32) (ob_fresh : Nat) (ob_parts : Nat) (ob_houses : Nat) (ob_houseMany : Int32) (ob_worthOf : Nat) (ob_byCall : Nat) (ob_over : Nat) (ob_bestSet : Int32) (ob_bestOver : Int32) (ob_bestWorth : Int32) (ob_row : Nat) (ob_tenDebts : Nat) (ob_tenMany : Int32) (ob_fewestBy : Nat) (ob_covered : Nat) (ob_queue : Nat) (ob_cameBy : Nat) (ob_parent : Nat) (ob_met : Nat) (ob_calls : Nat) (ob_callMany : Int32) (ob_calledOn : Nat) (ob_saved : Nat) (ob_many : Nat) (ob_width : Nat) (ob_numbers : Nat) (ob_moving : Nat) (fob_world : Nat → Int32) (fob_images : Nat → Int32) (fob_hasImage : Nat → Int32) (p_fob_world : RWw fob_world) (p_fob_images : RIw fob_images) (p_fob_hasImage : ∀ i, (0 : Int) ≤ (fob_hasImage i).toInt ∧ (fob_hasImage i).toInt ≤ 1) (p_ob_taped : (0 : Int) ≤ ob_taped.toInt ∧ ob_taped.toInt ≤ 1400) (p_ob_size : (0 : Int) ≤ ob_size.toInt ∧ ob_size.toInt ≤ 1400) (p_ob_at : (0 : Int) ≤ ob_at.toInt ∧ ob_at.toInt ≤ 1400) (p_ob_from : (0 : Int) ≤ ob_from.toInt ∧ ob_from.toInt ≤ 1400) (p_ob_token : (0 : Int) ≤ ob_token.toInt ∧ ob_token.toInt ≤ 4) (p_ob_value : (0 : Int) ≤ ob_value.toInt ∧ ob_value.toInt ≤ 9999) (p_ob_faultKind : (0 : Int) ≤ ob_faultKind.toInt ∧ ob_faultKind.toInt ≤ 3) (p_ob_houseMany : (0 : Int) ≤ ob_houseMany.toInt ∧ ob_houseMany.toInt ≤ 10) (p_ob_bestSet : (0 : Int) ≤ ob_bestSet.toInt ∧ ob_bestSet.toInt ≤ 1023) (p_ob_bestOver : (-1 : Int) ≤ ob_bestOver.toInt ∧ ob_bestOver.toInt ≤ 180) (p_ob_tenMany : (0 : Int) ≤ ob_tenMany.toInt ∧ ob_tenMany.toInt ≤ 10) (p_ob_callMany : (0 : Int) ≤ ob_callMany.toInt ∧ ob_callMany.toInt ≤ 16) : Met l yX10_keep (Cond.code yX10_keep cX10_keep 3 (some .int) :: wAll) ({ frames := 1, cells := 0, slots := 0, locals := 25 }) (va_Pc [.ref ob, .int 0] (kp G y sz [(ce_X10 ob ob_thrown ob_world ob_images ob_hasImage ob_tape ob_taped ob_five ob_size ob_at ob_from ob_token ob_value ob_faultKind ob_faultPlace ob_fresh ob_parts ob_houses ob_houseMany ob_worthOf ob_byCall ob_over ob_bestSet ob_bestOver ob_bestWorth ob_row ob_tenDebts ob_tenMany ob_fewestBy ob_covered ob_queue ob_cameBy ob_parent ob_met ob_calls ob_callMany ob_calledOn ob_saved ob_many ob_width ob_numbers ob_moving), (ce_i9080 y ob_world fob_world), (ce_i27240 y ob_images fob_images), (ce_z3 y ob_hasImage fob_hasImage)])) (va_Qi (fun (r : Int32) (w : va_W) => (∃ (f_207 : Nat → Int32) (f_208 : Nat → Int32), (RIw f_207) ∧ (∀ i, (0 : Int) ≤ (f_208 i).toInt ∧ (f_208 i).toInt ≤ 1) ∧ r = 0 ∧ w = [(ce_X10 ob ob_thrown ob_world ob_images ob_hasImage ob_tape ob_taped ob_five ob_size ob_at ob_from ob_token ob_value ob_faultKind ob_faultPlace ob_fresh ob_parts ob_houses ob_houseMany ob_worthOf ob_byCall ob_over ob_bestSet ob_bestOver ob_bestWorth ob_row ob_tenDebts ob_tenMany ob_fewestBy ob_covered ob_queue ob_cameBy ob_parent ob_met ob_calls ob_callMany ob_calledOn ob_saved ob_many ob_width ob_numbers ob_moving), (ce_i9080 y ob_world fob_world), (ce_i27240 y ob_images f_207), (ce_z3 y ob_hasImage f_208)])) (kq G (va_A [(ce_X10 ob ob_thrown ob_world ob_images ob_hasImage ob_tape ob_taped ob_five ob_size ob_at ob_from ob_token ob_value ob_faultKind ob_faultPlace ob_fresh ob_parts ob_houses ob_houseMany ob_worthOf ob_byCall ob_over ob_bestSet ob_bestOver ob_bestWorth ob_row ob_tenDebts ob_tenMany ob_fewestBy ob_covered ob_queue ob_cameBy ob_parent ob_met ob_calls ob_callMany ob_calledOn ob_saved ob_many ob_width ob_numbers ob_moving), (ce_i9080 y ob_world fob_world), (ce_i27240 y ob_images fob_images), (ce_z3 y ob_hasImage fob_hasImage)] sz)) (va_A [(ce_X10 ob ob_thrown ob_world ob_images ob_hasImage ob_tape ob_taped ob_five ob_size ob_at ob_from ob_token ob_value ob_faultKind ob_faultPlace ob_fresh ob_parts ob_houses ob_houseMany ob_worthOf ob_byCall ob_over ob_bestSet ob_bestOver ob_bestWorth ob_row ob_tenDebts ob_tenMany ob_fewestBy ob_covered ob_queue ob_cameBy ob_parent ob_met ob_calls ob_callMany ob_calledOn ob_saved ob_many ob_width ob_numbers ob_moving), (ce_i9080 y ob_world fob_world), (ce_i27240 y ob_images fob_images), (ce_z3 y ob_hasImage fob_hasImage)] sz)) 0 0 (va_A [(ce_X10 ob ob_thrown ob_world ob_images ob_hasImage ob_tape ob_taped ob_five ob_size ob_at ob_from ob_token ob_value ob_faultKind ob_faultPlace ob_fresh ob_parts ob_houses ob_houseMany ob_worthOf ob_byCall ob_over ob_bestSet ob_bestOver ob_bestWorth ob_row ob_tenDebts ob_tenMany ob_fewestBy ob_covered ob_queue ob_cameBy ob_parent ob_met ob_calls ob_callMany ob_calledOn ob_saved ob_many ob_width ob_numbers ob_moving), (ce_i9080 y ob_world fob_world), (ce_i27240 y ob_images fob_images), (ce_z3 y ob_hasImage fob_hasImage)] sz) := by
  refine Met.ofW (cc := cX10_keep) (maxL := 3) (ret := (some .int)) (by decide) rfl ?_
  intro p e s m args below meth c s₁ B hml hv
  obtain ⟨rfl, hsz, hP, hK, hD0⟩ := hv
  have hx := B.exec
  have hb := B.bytes
  have hr := B.returns
  have hw0 : ∀ w ∈ wAll, w.before _ s = true := fun w h => atoms_spec (ws := Cond.code yX10_keep cX10_keep 3 (some .int) :: wAll) B.pre w (List.mem_cons_of_mem _ h)
  have hown : s.vm.findClass RX10 = some m.cls := findClass_of_methodNamed B.named
  subst hsz
  have hD := hD0.self (sz := s.heap.size)
  generalize hAe : va_A [(ce_X10 ob ob_thrown ob_world ob_images ob_hasImage ob_tape ob_taped ob_five ob_size ob_at ob_from ob_token ob_value ob_faultKind ob_faultPlace ob_fresh ob_parts ob_houses ob_houseMany ob_worthOf ob_byCall ob_over ob_bestSet ob_bestOver ob_bestWorth ob_row ob_tenDebts ob_tenMany ob_fewestBy ob_covered ob_queue ob_cameBy ob_parent ob_met ob_calls ob_callMany ob_calledOn ob_saved ob_many ob_width ob_numbers ob_moving), (ce_i9080 y ob_world fob_world), (ce_i27240 y ob_images fob_images), (ce_z3 y ob_hasImage fob_hasImage)] s.heap.size = A at hD ⊢
  have hA : ∀ q : Nat, s.heap.size ≤ q → A q := fun q h => by rw [← hAe]; exact Or.inr h
  have hS : va_S A s.heap s.heap [] := va_S.rf
  have hP : va_P G vwCl [(ce_X10 ob ob_thrown ob_world ob_images ob_hasImage ob_tape ob_taped ob_five ob_size ob_at ob_from ob_token ob_value ob_faultKind ob_faultPlace ob_fresh ob_parts ob_houses ob_houseMany ob_worthOf ob_byCall ob_over ob_bestSet ob_bestOver ob_bestWorth ob_row ob_tenDebts ob_tenMany ob_fewestBy ob_covered ob_queue ob_cameBy ob_parent ob_met ob_calls ob_callMany ob_calledOn ob_saved ob_many ob_width ob_numbers ob_moving), (ce_i9080 y ob_world fob_world), (ce_i27240 y ob_images fob_images), (ce_z3 y ob_hasImage fob_hasImage)] s.heap := hP
  have hl := lv_entry ([.ref ob, .int 0]) (n := 3) (Nat.le_of_ble_eq_true rfl)
  rw [lg_entry_eq]
  generalize (lg_sl ([.ref ob, .int 0]) ++ List.replicate (3 - (lg_sl ([.ref ob, .int 0])).length) Slot.unset).toArray = ls at hl ⊢
  have hl : lv_has ls 3 [(0, .ref ob), (1, .int 0)] := hl
  refine lv_iload_n hx hb dX10_keep_0 rfl (lv_at hl 1 rfl) ?_
  refine lv_i2l (v := 0) hx hb dX10_keep_1 (by decide) ?_
  refine lv_lconst (v := 0) hx hb dX10_keep_2 (by decide) ?_
  refine lv_ldc2 (own := RX10) (v := 2) hx hb hown (hw0 _ m_360) dX10_keep_3 ?_
  refine cSim (As := [.long 0, .long 0, .long 2]) (rest := []) ⟨hx, hb, hml, hown, hw0⟩ hA hK hP hD hS [] (sX10_in l G y _ 0 0 2 ) rfl ⟨(callB_of 3 hw0 (gA m_516) rfl rfl rfl (hw0 _ m_41) (hw0 _ m_345) cb_X10_in ⟨Nat.le_of_ble_eq_true rfl, Nat.le_of_ble_eq_true rfl⟩), (hw0 _ m_346)⟩ rfl hl.1 (Nat.le_of_ble_eq_true rfl) dX10_keep_6 ⟨Nat.le_of_ble_eq_true rfl, Nat.le_of_ble_eq_true rfl⟩ (fun r_1001 w_1001 H locs hw_1001 hP hD hS => ?_)
  rcases hw_1001 with ⟨h_1002, rfl, rfl⟩ | ⟨h_1003, rfl, rfl⟩
  · skip
    have h_1004 : 0 < (0 : Int) ∨ (2 : Int) < 0 := in_n h_1002 (by decide) (by decide) (by decide)
    omega
  · skip
    have h_1005 : (0 : Int) ≤ 0 ∧ 0 ≤ (2 : Int) := in_y h_1003 (by decide) (by decide) (by decide)
    obtain ⟨hP, hD⟩ : vPD G A H [(ce_X10 ob ob_thrown ob_world ob_images ob_hasImage ob_tape ob_taped ob_five ob_size ob_at ob_from ob_token ob_value ob_faultKind ob_faultPlace ob_fresh ob_parts ob_houses ob_houseMany ob_worthOf ob_byCall ob_over ob_bestSet ob_bestOver ob_bestWorth ob_row ob_tenDebts ob_tenMany ob_fewestBy ob_covered ob_queue ob_cameBy ob_parent ob_met ob_calls ob_callMany ob_calledOn ob_saved ob_many ob_width ob_numbers ob_moving), (ce_i9080 y ob_world fob_world), (ce_i27240 y ob_images fob_images), (ce_z3 y ob_hasImage fob_hasImage)] := ⟨hP, hD⟩
    refine lv_if_ne (tgt := 15) hx hb dX10_keep_9 (by decide) (fun _ => ?_) (fun c9 => absurd c9 (by decide))
    refine lv_iconst (v := 0) hx hb dX10_keep_15 (by decide) ?_
    refine lv_istore_n (lv' := [(2, .int 0), (0, .ref ob), (1, .int 0)]) hx hb dX10_keep_16 rfl hl (by decide) rfl (fun ls hl => ?_)
    refine loopX (fun n H locs ls st => ∃ (v_1089 : Int32) (f_1090 : Nat → Int32), (9080 - v_1089.toInt).toNat = n ∧ ((0 : Int) ≤ v_1089.toInt ∧ v_1089.toInt ≤ 9080) ∧ (cpR f_1090 fob_images fob_world 0 0 0 v_1089.toInt) ∧ st = [] ∧ vPD G A H [(ce_X10 ob ob_thrown ob_world ob_images ob_hasImage ob_tape ob_taped ob_five ob_size ob_at ob_from ob_token ob_value ob_faultKind ob_faultPlace ob_fresh ob_parts ob_houses ob_houseMany ob_worthOf ob_byCall ob_over ob_bestSet ob_bestOver ob_bestWorth ob_row ob_tenDebts ob_tenMany ob_fewestBy ob_covered ob_queue ob_cameBy ob_parent ob_met ob_calls ob_callMany ob_calledOn ob_saved ob_many ob_width ob_numbers ob_moving), (ce_i9080 y ob_world fob_world), (ce_i27240 y ob_images f_1090), (ce_z3 y ob_hasImage fob_hasImage)] ∧ va_S A s.heap H locs ∧ lv_has ls 3 [(2, .int v_1089), (0, .ref ob), (1, .int 0)]) ?_ (n := (9080 - (0 : Int32).toInt).toNat) ⟨0, fob_images, rfl, (bw (0) (9080) (bkc (x := 0) (c := 0) (by decide)) (by decide)), (cp_0 (by have h90 : Int32.toInt 0 = 0 := (by decide); omega)), rfl, ⟨hP, hD⟩, hS, lv_sub hl [0, 1, 2] rfl⟩
    rintro n ih_1096 H locs ls st ⟨v_1089, f_1090, hn_1096, bv_1089, rl1090_0, rfl, ⟨hP, hD⟩, hS, hl⟩
    refine lv_iload_n hx hb dX10_keep_17 rfl (lv_at hl 0 rfl) ?_
    refine lv_sipush (v := 9080) hx hb dX10_keep_18 (by decide) ?_
    refine lv_icmp_ge (tgt := 48) hx hb dX10_keep_21 (by decide) (fun c_1097 => ?_) (fun c_1097 => ?_)
    · skip
      have nc_1097 := nb_le (9080) (9080) c_1097 (bkc (x := 9080) (c := 9080) (by decide)) bv_1089 (by decide)
      have kf_1090 : RIw f_1090 := RI_keep (k := 0) rl1090_0 (by omega) p_fob_world p_fob_images
      refine lv_aload_n hx hb dX10_keep_48 rfl (lv_at hl 1 rfl) ?_
      refine va_get (D := G) (ci := 10) (v := .ref ob_hasImage) (C := RX10) (T := TX10) (N := 41) hx hb hw0 inA_wsX100 hown hK.1 hP 0 rfl rfl 3 (by decide) (hw0 _ m_361) (fun _ h9 => h9) rfl dX10_keep_49 ?_
      refine lv_iload_n hx hb dX10_keep_52 rfl (lv_at hl 2 rfl) ?_
      refine lv_iconst (v := 1) hx hb dX10_keep_53 (by decide) ?_
      refine va_zast hx hb hK.1 hP hD hS 3 3 rfl rfl (vi (bkc (x := 0) (c := 0) (by decide)) (by decide)) dX10_keep_54 (fun H locs hP hD hS => ?_)
      generalize hf_1098 : (upd fob_hasImage (0 : Int32).toNatClampNeg (vp_nar .boolean 1)) = f_1098 at hP hD
      have bf_1098 : ∀ i, (0 : Int) ≤ (f_1098 i).toInt ∧ (f_1098 i).toInt ≤ 1 := hf_1098 ▸ up_z p_fob_hasImage (bw (0) (1) (bkc (x := 1) (c := 1) (by decide)) (by decide))
      obtain ⟨hP, hD⟩ : vPD G A H [(ce_X10 ob ob_thrown ob_world ob_images ob_hasImage ob_tape ob_taped ob_five ob_size ob_at ob_from ob_token ob_value ob_faultKind ob_faultPlace ob_fresh ob_parts ob_houses ob_houseMany ob_worthOf ob_byCall ob_over ob_bestSet ob_bestOver ob_bestWorth ob_row ob_tenDebts ob_tenMany ob_fewestBy ob_covered ob_queue ob_cameBy ob_parent ob_met ob_calls ob_callMany ob_calledOn ob_saved ob_many ob_width ob_numbers ob_moving), (ce_i9080 y ob_world fob_world), (ce_i27240 y ob_images f_1090), (ce_z3 y ob_hasImage f_1098)] := ⟨hP, hD⟩
      refine lv_iconst (v := 0) hx hb dX10_keep_55 (by decide) ?_
      exact W.iret (v := 0) hx hb hr (fun t ht hW => ⟨⟨0, _, rfl, ⟨f_1090, f_1098, kf_1090, bf_1098, rfl, rfl⟩, by rw [ht]; exact hP, hD⟩, hS.F ht⟩) hS.2.2 dX10_keep_56
    · skip
      have nc_1097 := nb_nle (9079) (9080) c_1097 bv_1089 (bkc (x := 9080) (c := 9080) (by decide)) (by decide)
      refine lv_aload_n hx hb dX10_keep_24 rfl (lv_at hl 1 rfl) ?_
      refine va_get (D := G) (ci := 10) (v := .ref ob_images) (C := RX10) (T := TX10) (N := 41) hx hb hw0 inA_wsX100 hown hK.1 hP 0 rfl rfl 2 (by decide) (hw0 _ m_362) (fun _ h9 => h9) rfl dX10_keep_25 ?_
      refine lv_sipush (v := 9080) hx hb dX10_keep_28 (by decide) ?_
      refine lv_iload_n hx hb dX10_keep_31 rfl (lv_at hl 2 rfl) ?_
      refine lv_imul hx hb dX10_keep_32 ?_
      refine lv_topi (fun v_1099 ev_1099 => ?_)
      obtain rfl : 0 = v_1099 := (ev_1099.trans (by decide)).symm
      refine lv_iload_n hx hb dX10_keep_33 rfl (lv_at hl 0 rfl) ?_
      refine lv_iadd hx hb dX10_keep_34 ?_
      refine lv_topi (fun v_1100 ev_1100 => ?_)
      have qv_1100 := ba_add ev_1100 (bkc (x := 0) (c := 0) (by decide)) nc_1097.1 (by decide)
      have bv_1100 : (0 : Int) ≤ v_1100.toInt ∧ v_1100.toInt ≤ 9079 := bq_add qv_1100 (bkc (x := 0) (c := 0) (by decide)) nc_1097.1 _ _ (by decide)
      have qv_1100 : v_1100.toInt = (0) + v_1089.toInt := qv_1100
      refine lv_aload_n hx hb dX10_keep_35 rfl (lv_at hl 1 rfl) ?_
      refine va_get (D := G) (ci := 10) (v := .ref ob_world) (C := RX10) (T := TX10) (N := 41) hx hb hw0 inA_wsX100 hown hK.1 hP 0 rfl rfl 1 (by decide) (hw0 _ m_352) (fun _ h9 => h9) rfl dX10_keep_36 ?_
      refine lv_iload_n hx hb dX10_keep_39 rfl (lv_at hl 0 rfl) ?_
      refine va_iald hx hb hK.1 hP 1 1 rfl rfl (vi nc_1097.1 (by decide)) dX10_keep_40 ?_
      refine lv_topi (fun v_1101 ev_1101 => ?_)
      refine va_iast hx hb hK.1 hP hD hS 2 1 rfl rfl (vi bv_1100 (by decide)) dX10_keep_41 (fun H locs hP hD hS => ?_)
      generalize hf_1102 : (upd f_1090 (v_1100 : Int32).toNatClampNeg v_1101) = f_1102 at hP hD
      obtain ⟨hP, hD⟩ : vPD G A H [(ce_X10 ob ob_thrown ob_world ob_images ob_hasImage ob_tape ob_taped ob_five ob_size ob_at ob_from ob_token ob_value ob_faultKind ob_faultPlace ob_fresh ob_parts ob_houses ob_houseMany ob_worthOf ob_byCall ob_over ob_bestSet ob_bestOver ob_bestWorth ob_row ob_tenDebts ob_tenMany ob_fewestBy ob_covered ob_queue ob_cameBy ob_parent ob_met ob_calls ob_callMany ob_calledOn ob_saved ob_many ob_width ob_numbers ob_moving), (ce_i9080 y ob_world fob_world), (ce_i27240 y ob_images f_1102), (ce_z3 y ob_hasImage fob_hasImage)] := ⟨hP, hD⟩
      obtain ⟨v_1103, ev_1103⟩ : ∃ z : Int32, z = v_1089 + 1 := ⟨_, rfl⟩
      have qv_1103 := ba_add ev_1103 nc_1097.1 (bkc (x := 1) (c := 1) (by decide)) (by decide)
      have bv_1103 : (1 : Int) ≤ v_1103.toInt ∧ v_1103.toInt ≤ 9080 := bq_add qv_1103 nc_1097.1 (bkc (x := 1) (c := 1) (by decide)) _ _ (by decide)
      have qv_1103 : v_1103.toInt = v_1089.toInt + (1) := qv_1103
      refine lv_iinc (v := v_1103) (lv' := [(2, .int v_1103), (0, .ref ob), (1, .int 0)]) hx hb dX10_keep_42 hl (k := 0) rfl (ev_1103.symm) (by decide) rfl (fun ls hl => ?_)
      refine lv_goto (tgt := 17) hx hb dX10_keep_45 (by decide) ?_
      exact ih_1096 _ (ml_inc (hi := 9080) hn_1096 qv_1103 (by decide) ((bw (0) (9080) bv_1103 (by decide))).2) _ _ _ _ ⟨v_1103, f_1102, rfl, (bw (0) (9080) bv_1103 (by decide)), (cp_s rl1090_0 hf_1102 ev_1101 ((cl_to (by omega)).trans (by omega)) ((cl_to (by omega)).trans (by omega)) (by omega) (by omega)), rfl, ⟨hP, hD⟩, hS, lv_sub hl [0, 1, 2] rfl⟩

set_option maxHeartbeats 4000000 in
set_option maxRecDepth 100000 in
theorem sback0 (l : Launch) (G : va_G) (y : Nat → ClassId) (sz : Nat) (ob : Nat) (ob_thrown : Int32) (ob_world : Nat) (ob_images : Nat) (ob_hasImage : Nat) (ob_tape : Nat) (ob_taped : Int32) (ob_five : Nat) (ob_size : Int32) (ob_at : Int32) (ob_from : Int32) (ob_token : Int32) (ob_value : Int32) (ob_faultKind : Int32) (ob_faultPlace : Int32) (ob_fresh : Nat) (ob_parts : Nat) (ob_houses : Nat) (ob_houseMany : Int32) (ob_worthOf : Nat) (ob_byCall : Nat) (ob_over : Nat) (ob_bestSet : Int32) (ob_bestOver : Int32) (ob_bestWorth : Int32) (ob_row : Nat) (ob_tenDebts : Nat) (ob_tenMany : Int32) (ob_fewestBy : Nat) (ob_covered : Nat) (ob_queue : Nat) (ob_cameBy : Nat) (ob_parent : Nat) (ob_met : Nat) (ob_calls : Nat) (ob_callMany : Int32) (ob_calledOn : Nat) (ob_saved : Nat) (ob_many : Nat) (ob_width : Nat) (ob_numbers : Nat) (ob_moving : Nat) (fob_world : Nat → Int32) (fob_images : Nat → Int32) (fob_hasImage : Nat → Int32) (p_fob_world : RWw fob_world) (p_fob_images : RIw fob_images) (p_fob_hasImage : ∀ i, (0 : Int) ≤ (fob_hasImage i).toInt ∧ (fob_hasImage i).toInt ≤ 1) (p_ob_taped : (0 : Int) ≤ ob_taped.toInt ∧ ob_taped.toInt ≤ 1400) (p_ob_size : (0 : Int) ≤ ob_size.toInt ∧ ob_size.toInt ≤ 1400) (p_ob_at : (0 : Int) ≤ ob_at.toInt ∧ ob_at.toInt ≤ 1400) (p_ob_from : (0 : Int) ≤ ob_from.toInt ∧ ob_from.toInt ≤ 1400) (p_ob_token : (0 : Int) ≤ ob_token.toInt ∧ ob_token.toInt ≤ 4) (p_ob_value : (0 : Int) ≤ ob_value.toInt ∧ ob_value.toInt ≤ 9999) (p_ob_faultKind : (0 : Int) ≤ ob_faultKind.toInt ∧ ob_faultKind.toInt ≤ 3) (p_ob_houseMany : (0 : Int) ≤ ob_houseMany.toInt ∧ ob_houseMany.toInt ≤ 10) (p_ob_bestSet : (0 : Int) ≤ ob_bestSet.toInt ∧ ob_bestSet.toInt ≤ 1023) (p_ob_bestOver : (-1 : Int) ≤ ob_bestOver.toInt ∧ ob_bestOver.toInt ≤ 180) (p_ob_tenMany : (0 : Int) ≤ ob_tenMany.toInt ∧ ob_tenMany.toInt ≤ 10) (p_ob_callMany : (0 : Int) ≤ ob_callMany.toInt ∧ ob_callMany.toInt ≤ 16) : Met l yX10_back (Cond.code yX10_back cX10_back 3 (some .int) :: wAll) ({ frames := 1, cells := 0, slots := 0, locals := 25 }) (va_Pc [.ref ob, .int 0] (kp G y sz [(ce_X10 ob ob_thrown ob_world ob_images ob_hasImage ob_tape ob_taped ob_five ob_size ob_at ob_from ob_token ob_value ob_faultKind ob_faultPlace ob_fresh ob_parts ob_houses ob_houseMany ob_worthOf ob_byCall ob_over ob_bestSet ob_bestOver ob_bestWorth ob_row ob_tenDebts ob_tenMany ob_fewestBy ob_covered ob_queue ob_cameBy ob_parent ob_met ob_calls ob_callMany ob_calledOn ob_saved ob_many ob_width ob_numbers ob_moving), (ce_i9080 y ob_world fob_world), (ce_i27240 y ob_images fob_images), (ce_z3 y ob_hasImage fob_hasImage)])) (va_Qi (fun (r : Int32) (w : va_W) => (∃ (v_209 : Int32) (f_210 : Nat → Int32), ((-6 : Int) ≤ v_209.toInt ∧ v_209.toInt ≤ 0) ∧ (RWw f_210) ∧ r = v_209 ∧ w = [(ce_X10 ob ob_thrown ob_world ob_images ob_hasImage ob_tape ob_taped ob_five ob_size ob_at ob_from ob_token ob_value ob_faultKind ob_faultPlace ob_fresh ob_parts ob_houses ob_houseMany ob_worthOf ob_byCall ob_over ob_bestSet ob_bestOver ob_bestWorth ob_row ob_tenDebts ob_tenMany ob_fewestBy ob_covered ob_queue ob_cameBy ob_parent ob_met ob_calls ob_callMany ob_calledOn ob_saved ob_many ob_width ob_numbers ob_moving), (ce_i9080 y ob_world f_210), (ce_i27240 y ob_images fob_images), (ce_z3 y ob_hasImage fob_hasImage)])) (kq G (va_A [(ce_X10 ob ob_thrown ob_world ob_images ob_hasImage ob_tape ob_taped ob_five ob_size ob_at ob_from ob_token ob_value ob_faultKind ob_faultPlace ob_fresh ob_parts ob_houses ob_houseMany ob_worthOf ob_byCall ob_over ob_bestSet ob_bestOver ob_bestWorth ob_row ob_tenDebts ob_tenMany ob_fewestBy ob_covered ob_queue ob_cameBy ob_parent ob_met ob_calls ob_callMany ob_calledOn ob_saved ob_many ob_width ob_numbers ob_moving), (ce_i9080 y ob_world fob_world), (ce_i27240 y ob_images fob_images), (ce_z3 y ob_hasImage fob_hasImage)] sz)) (va_A [(ce_X10 ob ob_thrown ob_world ob_images ob_hasImage ob_tape ob_taped ob_five ob_size ob_at ob_from ob_token ob_value ob_faultKind ob_faultPlace ob_fresh ob_parts ob_houses ob_houseMany ob_worthOf ob_byCall ob_over ob_bestSet ob_bestOver ob_bestWorth ob_row ob_tenDebts ob_tenMany ob_fewestBy ob_covered ob_queue ob_cameBy ob_parent ob_met ob_calls ob_callMany ob_calledOn ob_saved ob_many ob_width ob_numbers ob_moving), (ce_i9080 y ob_world fob_world), (ce_i27240 y ob_images fob_images), (ce_z3 y ob_hasImage fob_hasImage)] sz)) 0 0 (va_A [(ce_X10 ob ob_thrown ob_world ob_images ob_hasImage ob_tape ob_taped ob_five ob_size ob_at ob_from ob_token ob_value ob_faultKind ob_faultPlace ob_fresh ob_parts ob_houses ob_houseMany ob_worthOf ob_byCall ob_over ob_bestSet ob_bestOver ob_bestWorth ob_row ob_tenDebts ob_tenMany ob_fewestBy ob_covered ob_queue ob_cameBy ob_parent ob_met ob_calls ob_callMany ob_calledOn ob_saved ob_many ob_width ob_numbers ob_moving), (ce_i9080 y ob_world fob_world), (ce_i27240 y ob_images fob_images), (ce_z3 y ob_hasImage fob_hasImage)] sz) := by
  refine Met.ofW (cc := cX10_back) (maxL := 3) (ret := (some .int)) (by decide) rfl ?_
  intro p e s m args below meth c s₁ B hml hv
  obtain ⟨rfl, hsz, hP, hK, hD0⟩ := hv
  have hx := B.exec
  have hb := B.bytes
  have hr := B.returns
  have hw0 : ∀ w ∈ wAll, w.before _ s = true := fun w h => atoms_spec (ws := Cond.code yX10_back cX10_back 3 (some .int) :: wAll) B.pre w (List.mem_cons_of_mem _ h)
  have hown : s.vm.findClass RX10 = some m.cls := findClass_of_methodNamed B.named
  subst hsz
  have hD := hD0.self (sz := s.heap.size)
  generalize hAe : va_A [(ce_X10 ob ob_thrown ob_world ob_images ob_hasImage ob_tape ob_taped ob_five ob_size ob_at ob_from ob_token ob_value ob_faultKind ob_faultPlace ob_fresh ob_parts ob_houses ob_houseMany ob_worthOf ob_byCall ob_over ob_bestSet ob_bestOver ob_bestWorth ob_row ob_tenDebts ob_tenMany ob_fewestBy ob_covered ob_queue ob_cameBy ob_parent ob_met ob_calls ob_callMany ob_calledOn ob_saved ob_many ob_width ob_numbers ob_moving), (ce_i9080 y ob_world fob_world), (ce_i27240 y ob_images fob_images), (ce_z3 y ob_hasImage fob_hasImage)] s.heap.size = A at hD ⊢
  have hA : ∀ q : Nat, s.heap.size ≤ q → A q := fun q h => by rw [← hAe]; exact Or.inr h
  have hS : va_S A s.heap s.heap [] := va_S.rf
  have hP : va_P G vwCl [(ce_X10 ob ob_thrown ob_world ob_images ob_hasImage ob_tape ob_taped ob_five ob_size ob_at ob_from ob_token ob_value ob_faultKind ob_faultPlace ob_fresh ob_parts ob_houses ob_houseMany ob_worthOf ob_byCall ob_over ob_bestSet ob_bestOver ob_bestWorth ob_row ob_tenDebts ob_tenMany ob_fewestBy ob_covered ob_queue ob_cameBy ob_parent ob_met ob_calls ob_callMany ob_calledOn ob_saved ob_many ob_width ob_numbers ob_moving), (ce_i9080 y ob_world fob_world), (ce_i27240 y ob_images fob_images), (ce_z3 y ob_hasImage fob_hasImage)] s.heap := hP
  have hl := lv_entry ([.ref ob, .int 0]) (n := 3) (Nat.le_of_ble_eq_true rfl)
  rw [lg_entry_eq]
  generalize (lg_sl ([.ref ob, .int 0]) ++ List.replicate (3 - (lg_sl ([.ref ob, .int 0])).length) Slot.unset).toArray = ls at hl ⊢
  have hl : lv_has ls 3 [(0, .ref ob), (1, .int 0)] := hl
  refine lv_iload_n hx hb dX10_back_0 rfl (lv_at hl 1 rfl) ?_
  refine lv_i2l (v := 0) hx hb dX10_back_1 (by decide) ?_
  refine lv_lconst (v := 0) hx hb dX10_back_2 (by decide) ?_
  refine lv_ldc2 (own := RX10) (v := 2) hx hb hown (hw0 _ m_360) dX10_back_3 ?_
  refine cSim (As := [.long 0, .long 0, .long 2]) (rest := []) ⟨hx, hb, hml, hown, hw0⟩ hA hK hP hD hS [] (sX10_in l G y _ 0 0 2 ) rfl ⟨(callB_of 3 hw0 (gA m_516) rfl rfl rfl (hw0 _ m_41) (hw0 _ m_345) cb_X10_in ⟨Nat.le_of_ble_eq_true rfl, Nat.le_of_ble_eq_true rfl⟩), (hw0 _ m_346)⟩ rfl hl.1 (Nat.le_of_ble_eq_true rfl) dX10_back_6 ⟨Nat.le_of_ble_eq_true rfl, Nat.le_of_ble_eq_true rfl⟩ (fun r_1001 w_1001 H locs hw_1001 hP hD hS => ?_)
  rcases hw_1001 with ⟨h_1002, rfl, rfl⟩ | ⟨h_1003, rfl, rfl⟩
  · skip
    have h_1004 : 0 < (0 : Int) ∨ (2 : Int) < 0 := in_n h_1002 (by decide) (by decide) (by decide)
    omega
  · skip
    have h_1005 : (0 : Int) ≤ 0 ∧ 0 ≤ (2 : Int) := in_y h_1003 (by decide) (by decide) (by decide)
    obtain ⟨hP, hD⟩ : vPD G A H [(ce_X10 ob ob_thrown ob_world ob_images ob_hasImage ob_tape ob_taped ob_five ob_size ob_at ob_from ob_token ob_value ob_faultKind ob_faultPlace ob_fresh ob_parts ob_houses ob_houseMany ob_worthOf ob_byCall ob_over ob_bestSet ob_bestOver ob_bestWorth ob_row ob_tenDebts ob_tenMany ob_fewestBy ob_covered ob_queue ob_cameBy ob_parent ob_met ob_calls ob_callMany ob_calledOn ob_saved ob_many ob_width ob_numbers ob_moving), (ce_i9080 y ob_world fob_world), (ce_i27240 y ob_images fob_images), (ce_z3 y ob_hasImage fob_hasImage)] := ⟨hP, hD⟩
    refine lv_if_ne (tgt := 15) hx hb dX10_back_9 (by decide) (fun _ => ?_) (fun c9 => absurd c9 (by decide))
    refine lv_aload_n hx hb dX10_back_15 rfl (lv_at hl 0 rfl) ?_
    refine va_get (D := G) (ci := 10) (v := .ref ob_hasImage) (C := RX10) (T := TX10) (N := 41) hx hb hw0 inA_wsX100 hown hK.1 hP 0 rfl rfl 3 (by decide) (hw0 _ m_361) (fun _ h9 => h9) rfl dX10_back_16 ?_
    refine lv_iload_n hx hb dX10_back_19 rfl (lv_at hl 1 rfl) ?_
    refine va_zald hx hb hK.1 hP 3 3 rfl rfl (vi (bkc (x := 0) (c := 0) (by decide)) (by decide)) dX10_back_20 ?_
    refine lv_topi (fun v_1006 ev_1006 => ?_)
    have bv_1006 : (0 : Int) ≤ v_1006.toInt ∧ v_1006.toInt ≤ 1 := rd_b ev_1006 p_fob_hasImage
    refine lv_if_ne (tgt := 27) hx hb dX10_back_21 (by decide) (fun c_1007 => ?_) (fun c_1007 => ?_)
    · skip
      have nc_1007 := nb_ne (1) (1) c_1007 bv_1006 (k := 0) (by decide) (by decide)
      refine lv_iconst (v := 0) hx hb dX10_back_27 (by decide) ?_
      refine lv_istore_n (lv' := [(2, .int 0), (0, .ref ob), (1, .int 0)]) hx hb dX10_back_28 rfl hl (by decide) rfl (fun ls hl => ?_)
      refine loopX (fun n H locs ls st => ∃ (v_1091 : Int32) (f_1092 : Nat → Int32), (9080 - v_1091.toInt).toNat = n ∧ ((0 : Int) ≤ v_1091.toInt ∧ v_1091.toInt ≤ 9080) ∧ (cpR f_1092 fob_world fob_images 0 0 0 v_1091.toInt) ∧ st = [] ∧ vPD G A H [(ce_X10 ob ob_thrown ob_world ob_images ob_hasImage ob_tape ob_taped ob_five ob_size ob_at ob_from ob_token ob_value ob_faultKind ob_faultPlace ob_fresh ob_parts ob_houses ob_houseMany ob_worthOf ob_byCall ob_over ob_bestSet ob_bestOver ob_bestWorth ob_row ob_tenDebts ob_tenMany ob_fewestBy ob_covered ob_queue ob_cameBy ob_parent ob_met ob_calls ob_callMany ob_calledOn ob_saved ob_many ob_width ob_numbers ob_moving), (ce_i9080 y ob_world f_1092), (ce_i27240 y ob_images fob_images), (ce_z3 y ob_hasImage fob_hasImage)] ∧ va_S A s.heap H locs ∧ lv_has ls 3 [(2, .int v_1091), (0, .ref ob), (1, .int 0)]) ?_ (n := (9080 - (0 : Int32).toInt).toNat) ⟨0, fob_world, rfl, (bw (0) (9080) (bkc (x := 0) (c := 0) (by decide)) (by decide)), (cp_0 (by have h90 : Int32.toInt 0 = 0 := (by decide); omega)), rfl, ⟨hP, hD⟩, hS, lv_sub hl [0, 1, 2] rfl⟩
      rintro n ih_1098 H locs ls st ⟨v_1091, f_1092, hn_1098, bv_1091, rl1092_0, rfl, ⟨hP, hD⟩, hS, hl⟩
      refine lv_iload_n hx hb dX10_back_29 rfl (lv_at hl 0 rfl) ?_
      refine lv_sipush (v := 9080) hx hb dX10_back_30 (by decide) ?_
      refine lv_icmp_ge (tgt := 60) hx hb dX10_back_33 (by decide) (fun c_1099 => ?_) (fun c_1099 => ?_)
      · skip
        have nc_1099 := nb_le (9080) (9080) c_1099 (bkc (x := 9080) (c := 9080) (by decide)) bv_1091 (by decide)
        have kf_1092 : RWw f_1092 := RW_back rl1092_0 (by omega) (RI_at p_fob_images 0 (by decide))
        refine lv_iconst (v := 0) hx hb dX10_back_60 (by decide) ?_
        exact W.iret (v := 0) hx hb hr (fun t ht hW => ⟨⟨0, _, rfl, ⟨0, f_1092, (bw (-6) (0) (bkc (x := 0) (c := 0) (by decide)) (by decide)), kf_1092, rfl, rfl⟩, by rw [ht]; exact hP, hD⟩, hS.F ht⟩) hS.2.2 dX10_back_61
      · skip
        have nc_1099 := nb_nle (9079) (9080) c_1099 bv_1091 (bkc (x := 9080) (c := 9080) (by decide)) (by decide)
        refine lv_aload_n hx hb dX10_back_36 rfl (lv_at hl 1 rfl) ?_
        refine va_get (D := G) (ci := 10) (v := .ref ob_world) (C := RX10) (T := TX10) (N := 41) hx hb hw0 inA_wsX100 hown hK.1 hP 0 rfl rfl 1 (by decide) (hw0 _ m_352) (fun _ h9 => h9) rfl dX10_back_37 ?_
        refine lv_iload_n hx hb dX10_back_40 rfl (lv_at hl 0 rfl) ?_
        refine lv_aload_n hx hb dX10_back_41 rfl (lv_at hl 1 rfl) ?_
        refine va_get (D := G) (ci := 10) (v := .ref ob_images) (C := RX10) (T := TX10) (N := 41) hx hb hw0 inA_wsX100 hown hK.1 hP 0 rfl rfl 2 (by decide) (hw0 _ m_362) (fun _ h9 => h9) rfl dX10_back_42 ?_
        refine lv_sipush (v := 9080) hx hb dX10_back_45 (by decide) ?_
        refine lv_iload_n hx hb dX10_back_48 rfl (lv_at hl 2 rfl) ?_
        refine lv_imul hx hb dX10_back_49 ?_
        refine lv_topi (fun v_1100 ev_1100 => ?_)
        obtain rfl : 0 = v_1100 := (ev_1100.trans (by decide)).symm
        refine lv_iload_n hx hb dX10_back_50 rfl (lv_at hl 0 rfl) ?_
        refine lv_iadd hx hb dX10_back_51 ?_
        refine lv_topi (fun v_1101 ev_1101 => ?_)
        have qv_1101 := ba_add ev_1101 (bkc (x := 0) (c := 0) (by decide)) nc_1099.1 (by decide)
        have bv_1101 : (0 : Int) ≤ v_1101.toInt ∧ v_1101.toInt ≤ 9079 := bq_add qv_1101 (bkc (x := 0) (c := 0) (by decide)) nc_1099.1 _ _ (by decide)
        have qv_1101 : v_1101.toInt = (0) + v_1091.toInt := qv_1101
        refine va_iald hx hb hK.1 hP 2 1 rfl rfl (vi bv_1101 (by decide)) dX10_back_52 ?_
        refine lv_topi (fun v_1102 ev_1102 => ?_)
        refine va_iast hx hb hK.1 hP hD hS 1 1 rfl rfl (vi nc_1099.1 (by decide)) dX10_back_53 (fun H locs hP hD hS => ?_)
        generalize hf_1103 : (upd f_1092 (v_1091 : Int32).toNatClampNeg v_1102) = f_1103 at hP hD
        obtain ⟨hP, hD⟩ : vPD G A H [(ce_X10 ob ob_thrown ob_world ob_images ob_hasImage ob_tape ob_taped ob_five ob_size ob_at ob_from ob_token ob_value ob_faultKind ob_faultPlace ob_fresh ob_parts ob_houses ob_houseMany ob_worthOf ob_byCall ob_over ob_bestSet ob_bestOver ob_bestWorth ob_row ob_tenDebts ob_tenMany ob_fewestBy ob_covered ob_queue ob_cameBy ob_parent ob_met ob_calls ob_callMany ob_calledOn ob_saved ob_many ob_width ob_numbers ob_moving), (ce_i9080 y ob_world f_1103), (ce_i27240 y ob_images fob_images), (ce_z3 y ob_hasImage fob_hasImage)] := ⟨hP, hD⟩
        obtain ⟨v_1104, ev_1104⟩ : ∃ z : Int32, z = v_1091 + 1 := ⟨_, rfl⟩
        have qv_1104 := ba_add ev_1104 nc_1099.1 (bkc (x := 1) (c := 1) (by decide)) (by decide)
        have bv_1104 : (1 : Int) ≤ v_1104.toInt ∧ v_1104.toInt ≤ 9080 := bq_add qv_1104 nc_1099.1 (bkc (x := 1) (c := 1) (by decide)) _ _ (by decide)
        have qv_1104 : v_1104.toInt = v_1091.toInt + (1) := qv_1104
        refine lv_iinc (v := v_1104) (lv' := [(2, .int v_1104), (0, .ref ob), (1, .int 0)]) hx hb dX10_back_54 hl (k := 0) rfl (ev_1104.symm) (by decide) rfl (fun ls hl => ?_)
        refine lv_goto (tgt := 29) hx hb dX10_back_57 (by decide) ?_
        exact ih_1098 _ (ml_inc (hi := 9080) hn_1098 qv_1104 (by decide) ((bw (0) (9080) bv_1104 (by decide))).2) _ _ _ _ ⟨v_1104, f_1103, rfl, (bw (0) (9080) bv_1104 (by decide)), (cp_s rl1092_0 hf_1103 ev_1102 ((cl_to (by omega)).trans (by omega)) ((cl_to (by omega)).trans (by omega)) (by omega) (by omega)), rfl, ⟨hP, hD⟩, hS, lv_sub hl [0, 1, 2] rfl⟩
    · skip
      have nc_1007 := nb_eq (0) (0) c_1007 bv_1006 (bkc (x := 0) (c := 0) (by decide)) (by decide)
      refine lv_bipush (v := (-6)) hx hb dX10_back_24 (by decide) ?_
      exact W.iret (v := (-6)) hx hb hr (fun t ht hW => ⟨⟨(-6), _, rfl, ⟨(-6), fob_world, (bw (-6) (0) (bkc (x := (-6)) (c := -6) (by decide)) (by decide)), p_fob_world, rfl, rfl⟩, by rw [ht]; exact hP, hD⟩, hS.F ht⟩) hS.2.2 dX10_back_26

set_option maxHeartbeats 4000000 in
set_option maxRecDepth 100000 in
theorem skeep1 (l : Launch) (G : va_G) (y : Nat → ClassId) (sz : Nat) (ob : Nat) (ob_thrown : Int32) (ob_world : Nat) (ob_images : Nat) (ob_hasImage : Nat) (ob_tape : Nat) (ob_taped : Int32) (ob_five : Nat) (ob_size : Int32) (ob_at : Int32) (ob_from : Int32) (ob_token : Int32) (ob_value : Int32) (ob_faultKind : Int32) (ob_faultPlace : Int32) (ob_fresh : Nat) (ob_parts : Nat) (ob_houses : Nat) (ob_houseMany : Int32) (ob_worthOf : Nat) (ob_byCall : Nat) (ob_over : Nat) (ob_bestSet : Int32) (ob_bestOver : Int32) (ob_bestWorth : Int32) (ob_row : Nat) (ob_tenDebts : Nat) (ob_tenMany : Int32) (ob_fewestBy : Nat) (ob_covered : Nat) (ob_queue : Nat) (ob_cameBy : Nat) (ob_parent : Nat) (ob_met : Nat) (ob_calls : Nat) (ob_callMany : Int32) (ob_calledOn : Nat) (ob_saved : Nat) (ob_many : Nat) (ob_width : Nat) (ob_numbers : Nat) (ob_moving : Nat) (fob_world : Nat → Int32) (fob_images : Nat → Int32) (fob_hasImage : Nat → Int32) (p_fob_world : RWw fob_world) (p_fob_images : RIw fob_images) (p_fob_hasImage : ∀ i, (0 : Int) ≤ (fob_hasImage i).toInt ∧ (fob_hasImage i).toInt ≤ 1) (p_ob_taped : (0 : Int) ≤ ob_taped.toInt ∧ ob_taped.toInt ≤ 1400) (p_ob_size : (0 : Int) ≤ ob_size.toInt ∧ ob_size.toInt ≤ 1400) (p_ob_at : (0 : Int) ≤ ob_at.toInt ∧ ob_at.toInt ≤ 1400) (p_ob_from : (0 : Int) ≤ ob_from.toInt ∧ ob_from.toInt ≤ 1400) (p_ob_token : (0 : Int) ≤ ob_token.toInt ∧ ob_token.toInt ≤ 4) (p_ob_value : (0 : Int) ≤ ob_value.toInt ∧ ob_value.toInt ≤ 9999) (p_ob_faultKind : (0 : Int) ≤ ob_faultKind.toInt ∧ ob_faultKind.toInt ≤ 3) (p_ob_houseMany : (0 : Int) ≤ ob_houseMany.toInt ∧ ob_houseMany.toInt ≤ 10) (p_ob_bestSet : (0 : Int) ≤ ob_bestSet.toInt ∧ ob_bestSet.toInt ≤ 1023) (p_ob_bestOver : (-1 : Int) ≤ ob_bestOver.toInt ∧ ob_bestOver.toInt ≤ 180) (p_ob_tenMany : (0 : Int) ≤ ob_tenMany.toInt ∧ ob_tenMany.toInt ≤ 10) (p_ob_callMany : (0 : Int) ≤ ob_callMany.toInt ∧ ob_callMany.toInt ≤ 16) : Met l yX10_keep (Cond.code yX10_keep cX10_keep 3 (some .int) :: wAll) ({ frames := 1, cells := 0, slots := 0, locals := 25 }) (va_Pc [.ref ob, .int 1] (kp G y sz [(ce_X10 ob ob_thrown ob_world ob_images ob_hasImage ob_tape ob_taped ob_five ob_size ob_at ob_from ob_token ob_value ob_faultKind ob_faultPlace ob_fresh ob_parts ob_houses ob_houseMany ob_worthOf ob_byCall ob_over ob_bestSet ob_bestOver ob_bestWorth ob_row ob_tenDebts ob_tenMany ob_fewestBy ob_covered ob_queue ob_cameBy ob_parent ob_met ob_calls ob_callMany ob_calledOn ob_saved ob_many ob_width ob_numbers ob_moving), (ce_i9080 y ob_world fob_world), (ce_i27240 y ob_images fob_images), (ce_z3 y ob_hasImage fob_hasImage)])) (va_Qi (fun (r : Int32) (w : va_W) => (∃ (f_207 : Nat → Int32) (f_208 : Nat → Int32), (RIw f_207) ∧ (∀ i, (0 : Int) ≤ (f_208 i).toInt ∧ (f_208 i).toInt ≤ 1) ∧ r = 0 ∧ w = [(ce_X10 ob ob_thrown ob_world ob_images ob_hasImage ob_tape ob_taped ob_five ob_size ob_at ob_from ob_token ob_value ob_faultKind ob_faultPlace ob_fresh ob_parts ob_houses ob_houseMany ob_worthOf ob_byCall ob_over ob_bestSet ob_bestOver ob_bestWorth ob_row ob_tenDebts ob_tenMany ob_fewestBy ob_covered ob_queue ob_cameBy ob_parent ob_met ob_calls ob_callMany ob_calledOn ob_saved ob_many ob_width ob_numbers ob_moving), (ce_i9080 y ob_world fob_world), (ce_i27240 y ob_images f_207), (ce_z3 y ob_hasImage f_208)])) (kq G (va_A [(ce_X10 ob ob_thrown ob_world ob_images ob_hasImage ob_tape ob_taped ob_five ob_size ob_at ob_from ob_token ob_value ob_faultKind ob_faultPlace ob_fresh ob_parts ob_houses ob_houseMany ob_worthOf ob_byCall ob_over ob_bestSet ob_bestOver ob_bestWorth ob_row ob_tenDebts ob_tenMany ob_fewestBy ob_covered ob_queue ob_cameBy ob_parent ob_met ob_calls ob_callMany ob_calledOn ob_saved ob_many ob_width ob_numbers ob_moving), (ce_i9080 y ob_world fob_world), (ce_i27240 y ob_images fob_images), (ce_z3 y ob_hasImage fob_hasImage)] sz)) (va_A [(ce_X10 ob ob_thrown ob_world ob_images ob_hasImage ob_tape ob_taped ob_five ob_size ob_at ob_from ob_token ob_value ob_faultKind ob_faultPlace ob_fresh ob_parts ob_houses ob_houseMany ob_worthOf ob_byCall ob_over ob_bestSet ob_bestOver ob_bestWorth ob_row ob_tenDebts ob_tenMany ob_fewestBy ob_covered ob_queue ob_cameBy ob_parent ob_met ob_calls ob_callMany ob_calledOn ob_saved ob_many ob_width ob_numbers ob_moving), (ce_i9080 y ob_world fob_world), (ce_i27240 y ob_images fob_images), (ce_z3 y ob_hasImage fob_hasImage)] sz)) 0 0 (va_A [(ce_X10 ob ob_thrown ob_world ob_images ob_hasImage ob_tape ob_taped ob_five ob_size ob_at ob_from ob_token ob_value ob_faultKind ob_faultPlace ob_fresh ob_parts ob_houses ob_houseMany ob_worthOf ob_byCall ob_over ob_bestSet ob_bestOver ob_bestWorth ob_row ob_tenDebts ob_tenMany ob_fewestBy ob_covered ob_queue ob_cameBy ob_parent ob_met ob_calls ob_callMany ob_calledOn ob_saved ob_many ob_width ob_numbers ob_moving), (ce_i9080 y ob_world fob_world), (ce_i27240 y ob_images fob_images), (ce_z3 y ob_hasImage fob_hasImage)] sz) := by
  refine Met.ofW (cc := cX10_keep) (maxL := 3) (ret := (some .int)) (by decide) rfl ?_
  intro p e s m args below meth c s₁ B hml hv
  obtain ⟨rfl, hsz, hP, hK, hD0⟩ := hv
  have hx := B.exec
  have hb := B.bytes
  have hr := B.returns
  have hw0 : ∀ w ∈ wAll, w.before _ s = true := fun w h => atoms_spec (ws := Cond.code yX10_keep cX10_keep 3 (some .int) :: wAll) B.pre w (List.mem_cons_of_mem _ h)
  have hown : s.vm.findClass RX10 = some m.cls := findClass_of_methodNamed B.named
  subst hsz
  have hD := hD0.self (sz := s.heap.size)
  generalize hAe : va_A [(ce_X10 ob ob_thrown ob_world ob_images ob_hasImage ob_tape ob_taped ob_five ob_size ob_at ob_from ob_token ob_value ob_faultKind ob_faultPlace ob_fresh ob_parts ob_houses ob_houseMany ob_worthOf ob_byCall ob_over ob_bestSet ob_bestOver ob_bestWorth ob_row ob_tenDebts ob_tenMany ob_fewestBy ob_covered ob_queue ob_cameBy ob_parent ob_met ob_calls ob_callMany ob_calledOn ob_saved ob_many ob_width ob_numbers ob_moving), (ce_i9080 y ob_world fob_world), (ce_i27240 y ob_images fob_images), (ce_z3 y ob_hasImage fob_hasImage)] s.heap.size = A at hD ⊢
  have hA : ∀ q : Nat, s.heap.size ≤ q → A q := fun q h => by rw [← hAe]; exact Or.inr h
  have hS : va_S A s.heap s.heap [] := va_S.rf
  have hP : va_P G vwCl [(ce_X10 ob ob_thrown ob_world ob_images ob_hasImage ob_tape ob_taped ob_five ob_size ob_at ob_from ob_token ob_value ob_faultKind ob_faultPlace ob_fresh ob_parts ob_houses ob_houseMany ob_worthOf ob_byCall ob_over ob_bestSet ob_bestOver ob_bestWorth ob_row ob_tenDebts ob_tenMany ob_fewestBy ob_covered ob_queue ob_cameBy ob_parent ob_met ob_calls ob_callMany ob_calledOn ob_saved ob_many ob_width ob_numbers ob_moving), (ce_i9080 y ob_world fob_world), (ce_i27240 y ob_images fob_images), (ce_z3 y ob_hasImage fob_hasImage)] s.heap := hP
  have hl := lv_entry ([.ref ob, .int 1]) (n := 3) (Nat.le_of_ble_eq_true rfl)
  rw [lg_entry_eq]
  generalize (lg_sl ([.ref ob, .int 1]) ++ List.replicate (3 - (lg_sl ([.ref ob, .int 1])).length) Slot.unset).toArray = ls at hl ⊢
  have hl : lv_has ls 3 [(0, .ref ob), (1, .int 1)] := hl
  refine lv_iload_n hx hb dX10_keep_0 rfl (lv_at hl 1 rfl) ?_
  refine lv_i2l (v := 1) hx hb dX10_keep_1 (by decide) ?_
  refine lv_lconst (v := 0) hx hb dX10_keep_2 (by decide) ?_
  refine lv_ldc2 (own := RX10) (v := 2) hx hb hown (hw0 _ m_360) dX10_keep_3 ?_
  refine cSim (As := [.long 1, .long 0, .long 2]) (rest := []) ⟨hx, hb, hml, hown, hw0⟩ hA hK hP hD hS [] (sX10_in l G y _ 1 0 2 ) rfl ⟨(callB_of 3 hw0 (gA m_516) rfl rfl rfl (hw0 _ m_41) (hw0 _ m_345) cb_X10_in ⟨Nat.le_of_ble_eq_true rfl, Nat.le_of_ble_eq_true rfl⟩), (hw0 _ m_346)⟩ rfl hl.1 (Nat.le_of_ble_eq_true rfl) dX10_keep_6 ⟨Nat.le_of_ble_eq_true rfl, Nat.le_of_ble_eq_true rfl⟩ (fun r_1001 w_1001 H locs hw_1001 hP hD hS => ?_)
  rcases hw_1001 with ⟨h_1002, rfl, rfl⟩ | ⟨h_1003, rfl, rfl⟩
  · skip
    have h_1004 : 1 < (0 : Int) ∨ (2 : Int) < 1 := in_n h_1002 (by decide) (by decide) (by decide)
    omega
  · skip
    have h_1005 : (0 : Int) ≤ 1 ∧ 1 ≤ (2 : Int) := in_y h_1003 (by decide) (by decide) (by decide)
    obtain ⟨hP, hD⟩ : vPD G A H [(ce_X10 ob ob_thrown ob_world ob_images ob_hasImage ob_tape ob_taped ob_five ob_size ob_at ob_from ob_token ob_value ob_faultKind ob_faultPlace ob_fresh ob_parts ob_houses ob_houseMany ob_worthOf ob_byCall ob_over ob_bestSet ob_bestOver ob_bestWorth ob_row ob_tenDebts ob_tenMany ob_fewestBy ob_covered ob_queue ob_cameBy ob_parent ob_met ob_calls ob_callMany ob_calledOn ob_saved ob_many ob_width ob_numbers ob_moving), (ce_i9080 y ob_world fob_world), (ce_i27240 y ob_images fob_images), (ce_z3 y ob_hasImage fob_hasImage)] := ⟨hP, hD⟩
    refine lv_if_ne (tgt := 15) hx hb dX10_keep_9 (by decide) (fun _ => ?_) (fun c9 => absurd c9 (by decide))
    refine lv_iconst (v := 0) hx hb dX10_keep_15 (by decide) ?_
    refine lv_istore_n (lv' := [(2, .int 0), (0, .ref ob), (1, .int 1)]) hx hb dX10_keep_16 rfl hl (by decide) rfl (fun ls hl => ?_)
    refine loopX (fun n H locs ls st => ∃ (v_1089 : Int32) (f_1090 : Nat → Int32), (9080 - v_1089.toInt).toNat = n ∧ ((0 : Int) ≤ v_1089.toInt ∧ v_1089.toInt ≤ 9080) ∧ (cpR f_1090 fob_images fob_world 9080 0 0 v_1089.toInt) ∧ st = [] ∧ vPD G A H [(ce_X10 ob ob_thrown ob_world ob_images ob_hasImage ob_tape ob_taped ob_five ob_size ob_at ob_from ob_token ob_value ob_faultKind ob_faultPlace ob_fresh ob_parts ob_houses ob_houseMany ob_worthOf ob_byCall ob_over ob_bestSet ob_bestOver ob_bestWorth ob_row ob_tenDebts ob_tenMany ob_fewestBy ob_covered ob_queue ob_cameBy ob_parent ob_met ob_calls ob_callMany ob_calledOn ob_saved ob_many ob_width ob_numbers ob_moving), (ce_i9080 y ob_world fob_world), (ce_i27240 y ob_images f_1090), (ce_z3 y ob_hasImage fob_hasImage)] ∧ va_S A s.heap H locs ∧ lv_has ls 3 [(2, .int v_1089), (0, .ref ob), (1, .int 1)]) ?_ (n := (9080 - (0 : Int32).toInt).toNat) ⟨0, fob_images, rfl, (bw (0) (9080) (bkc (x := 0) (c := 0) (by decide)) (by decide)), (cp_0 (by have h90 : Int32.toInt 0 = 0 := (by decide); have h91 : Int32.toInt 1 = 1 := (by decide); omega)), rfl, ⟨hP, hD⟩, hS, lv_sub hl [0, 1, 2] rfl⟩
    rintro n ih_1096 H locs ls st ⟨v_1089, f_1090, hn_1096, bv_1089, rl1090_0, rfl, ⟨hP, hD⟩, hS, hl⟩
    refine lv_iload_n hx hb dX10_keep_17 rfl (lv_at hl 0 rfl) ?_
    refine lv_sipush (v := 9080) hx hb dX10_keep_18 (by decide) ?_
    refine lv_icmp_ge (tgt := 48) hx hb dX10_keep_21 (by decide) (fun c_1097 => ?_) (fun c_1097 => ?_)
    · skip
      have nc_1097 := nb_le (9080) (9080) c_1097 (bkc (x := 9080) (c := 9080) (by decide)) bv_1089 (by decide)
      have kf_1090 : RIw f_1090 := RI_keep (k := 1) rl1090_0 (by omega) p_fob_world p_fob_images
      refine lv_aload_n hx hb dX10_keep_48 rfl (lv_at hl 1 rfl) ?_
      refine va_get (D := G) (ci := 10) (v := .ref ob_hasImage) (C := RX10) (T := TX10) (N := 41) hx hb hw0 inA_wsX100 hown hK.1 hP 0 rfl rfl 3 (by decide) (hw0 _ m_361) (fun _ h9 => h9) rfl dX10_keep_49 ?_
      refine lv_iload_n hx hb dX10_keep_52 rfl (lv_at hl 2 rfl) ?_
      refine lv_iconst (v := 1) hx hb dX10_keep_53 (by decide) ?_
      refine va_zast hx hb hK.1 hP hD hS 3 3 rfl rfl (vi (bkc (x := 1) (c := 1) (by decide)) (by decide)) dX10_keep_54 (fun H locs hP hD hS => ?_)
      generalize hf_1098 : (upd fob_hasImage (1 : Int32).toNatClampNeg (vp_nar .boolean 1)) = f_1098 at hP hD
      have bf_1098 : ∀ i, (0 : Int) ≤ (f_1098 i).toInt ∧ (f_1098 i).toInt ≤ 1 := hf_1098 ▸ up_z p_fob_hasImage (bw (0) (1) (bkc (x := 1) (c := 1) (by decide)) (by decide))
      obtain ⟨hP, hD⟩ : vPD G A H [(ce_X10 ob ob_thrown ob_world ob_images ob_hasImage ob_tape ob_taped ob_five ob_size ob_at ob_from ob_token ob_value ob_faultKind ob_faultPlace ob_fresh ob_parts ob_houses ob_houseMany ob_worthOf ob_byCall ob_over ob_bestSet ob_bestOver ob_bestWorth ob_row ob_tenDebts ob_tenMany ob_fewestBy ob_covered ob_queue ob_cameBy ob_parent ob_met ob_calls ob_callMany ob_calledOn ob_saved ob_many ob_width ob_numbers ob_moving), (ce_i9080 y ob_world fob_world), (ce_i27240 y ob_images f_1090), (ce_z3 y ob_hasImage f_1098)] := ⟨hP, hD⟩
      refine lv_iconst (v := 0) hx hb dX10_keep_55 (by decide) ?_
      exact W.iret (v := 0) hx hb hr (fun t ht hW => ⟨⟨0, _, rfl, ⟨f_1090, f_1098, kf_1090, bf_1098, rfl, rfl⟩, by rw [ht]; exact hP, hD⟩, hS.F ht⟩) hS.2.2 dX10_keep_56
    · skip
      have nc_1097 := nb_nle (9079) (9080) c_1097 bv_1089 (bkc (x := 9080) (c := 9080) (by decide)) (by decide)
      refine lv_aload_n hx hb dX10_keep_24 rfl (lv_at hl 1 rfl) ?_
      refine va_get (D := G) (ci := 10) (v := .ref ob_images) (C := RX10) (T := TX10) (N := 41) hx hb hw0 inA_wsX100 hown hK.1 hP 0 rfl rfl 2 (by decide) (hw0 _ m_362) (fun _ h9 => h9) rfl dX10_keep_25 ?_
      refine lv_sipush (v := 9080) hx hb dX10_keep_28 (by decide) ?_
      refine lv_iload_n hx hb dX10_keep_31 rfl (lv_at hl 2 rfl) ?_
      refine lv_imul hx hb dX10_keep_32 ?_
      refine lv_topi (fun v_1099 ev_1099 => ?_)
      obtain rfl : 9080 = v_1099 := (ev_1099.trans (by decide)).symm
      refine lv_iload_n hx hb dX10_keep_33 rfl (lv_at hl 0 rfl) ?_
      refine lv_iadd hx hb dX10_keep_34 ?_
      refine lv_topi (fun v_1100 ev_1100 => ?_)
      have qv_1100 := ba_add ev_1100 (bkc (x := 9080) (c := 9080) (by decide)) nc_1097.1 (by decide)
      have bv_1100 : (9080 : Int) ≤ v_1100.toInt ∧ v_1100.toInt ≤ 18159 := bq_add qv_1100 (bkc (x := 9080) (c := 9080) (by decide)) nc_1097.1 _ _ (by decide)
      have qv_1100 : v_1100.toInt = (9080) + v_1089.toInt := qv_1100
      refine lv_aload_n hx hb dX10_keep_35 rfl (lv_at hl 1 rfl) ?_
      refine va_get (D := G) (ci := 10) (v := .ref ob_world) (C := RX10) (T := TX10) (N := 41) hx hb hw0 inA_wsX100 hown hK.1 hP 0 rfl rfl 1 (by decide) (hw0 _ m_352) (fun _ h9 => h9) rfl dX10_keep_36 ?_
      refine lv_iload_n hx hb dX10_keep_39 rfl (lv_at hl 0 rfl) ?_
      refine va_iald hx hb hK.1 hP 1 1 rfl rfl (vi nc_1097.1 (by decide)) dX10_keep_40 ?_
      refine lv_topi (fun v_1101 ev_1101 => ?_)
      refine va_iast hx hb hK.1 hP hD hS 2 1 rfl rfl (vi bv_1100 (by decide)) dX10_keep_41 (fun H locs hP hD hS => ?_)
      generalize hf_1102 : (upd f_1090 (v_1100 : Int32).toNatClampNeg v_1101) = f_1102 at hP hD
      obtain ⟨hP, hD⟩ : vPD G A H [(ce_X10 ob ob_thrown ob_world ob_images ob_hasImage ob_tape ob_taped ob_five ob_size ob_at ob_from ob_token ob_value ob_faultKind ob_faultPlace ob_fresh ob_parts ob_houses ob_houseMany ob_worthOf ob_byCall ob_over ob_bestSet ob_bestOver ob_bestWorth ob_row ob_tenDebts ob_tenMany ob_fewestBy ob_covered ob_queue ob_cameBy ob_parent ob_met ob_calls ob_callMany ob_calledOn ob_saved ob_many ob_width ob_numbers ob_moving), (ce_i9080 y ob_world fob_world), (ce_i27240 y ob_images f_1102), (ce_z3 y ob_hasImage fob_hasImage)] := ⟨hP, hD⟩
      obtain ⟨v_1103, ev_1103⟩ : ∃ z : Int32, z = v_1089 + 1 := ⟨_, rfl⟩
      have qv_1103 := ba_add ev_1103 nc_1097.1 (bkc (x := 1) (c := 1) (by decide)) (by decide)
      have bv_1103 : (1 : Int) ≤ v_1103.toInt ∧ v_1103.toInt ≤ 9080 := bq_add qv_1103 nc_1097.1 (bkc (x := 1) (c := 1) (by decide)) _ _ (by decide)
      have qv_1103 : v_1103.toInt = v_1089.toInt + (1) := qv_1103
      refine lv_iinc (v := v_1103) (lv' := [(2, .int v_1103), (0, .ref ob), (1, .int 1)]) hx hb dX10_keep_42 hl (k := 0) rfl (ev_1103.symm) (by decide) rfl (fun ls hl => ?_)
      refine lv_goto (tgt := 17) hx hb dX10_keep_45 (by decide) ?_
      exact ih_1096 _ (ml_inc (hi := 9080) hn_1096 qv_1103 (by decide) ((bw (0) (9080) bv_1103 (by decide))).2) _ _ _ _ ⟨v_1103, f_1102, rfl, (bw (0) (9080) bv_1103 (by decide)), (cp_s rl1090_0 hf_1102 ev_1101 ((cl_to (by omega)).trans (by omega)) ((cl_to (by omega)).trans (by omega)) (by omega) (by omega)), rfl, ⟨hP, hD⟩, hS, lv_sub hl [0, 1, 2] rfl⟩

set_option maxHeartbeats 4000000 in
set_option maxRecDepth 100000 in
theorem sback1 (l : Launch) (G : va_G) (y : Nat → ClassId) (sz : Nat) (ob : Nat) (ob_thrown : Int32) (ob_world : Nat) (ob_images : Nat) (ob_hasImage : Nat) (ob_tape : Nat) (ob_taped : Int32) (ob_five : Nat) (ob_size : Int32) (ob_at : Int32) (ob_from : Int32) (ob_token : Int32) (ob_value : Int32) (ob_faultKind : Int32) (ob_faultPlace : Int32) (ob_fresh : Nat) (ob_parts : Nat) (ob_houses : Nat) (ob_houseMany : Int32) (ob_worthOf : Nat) (ob_byCall : Nat) (ob_over : Nat) (ob_bestSet : Int32) (ob_bestOver : Int32) (ob_bestWorth : Int32) (ob_row : Nat) (ob_tenDebts : Nat) (ob_tenMany : Int32) (ob_fewestBy : Nat) (ob_covered : Nat) (ob_queue : Nat) (ob_cameBy : Nat) (ob_parent : Nat) (ob_met : Nat) (ob_calls : Nat) (ob_callMany : Int32) (ob_calledOn : Nat) (ob_saved : Nat) (ob_many : Nat) (ob_width : Nat) (ob_numbers : Nat) (ob_moving : Nat) (fob_world : Nat → Int32) (fob_images : Nat → Int32) (fob_hasImage : Nat → Int32) (p_fob_world : RWw fob_world) (p_fob_images : RIw fob_images) (p_fob_hasImage : ∀ i, (0 : Int) ≤ (fob_hasImage i).toInt ∧ (fob_hasImage i).toInt ≤ 1) (p_ob_taped : (0 : Int) ≤ ob_taped.toInt ∧ ob_taped.toInt ≤ 1400) (p_ob_size : (0 : Int) ≤ ob_size.toInt ∧ ob_size.toInt ≤ 1400) (p_ob_at : (0 : Int) ≤ ob_at.toInt ∧ ob_at.toInt ≤ 1400) (p_ob_from : (0 : Int) ≤ ob_from.toInt ∧ ob_from.toInt ≤ 1400) (p_ob_token : (0 : Int) ≤ ob_token.toInt ∧ ob_token.toInt ≤ 4) (p_ob_value : (0 : Int) ≤ ob_value.toInt ∧ ob_value.toInt ≤ 9999) (p_ob_faultKind : (0 : Int) ≤ ob_faultKind.toInt ∧ ob_faultKind.toInt ≤ 3) (p_ob_houseMany : (0 : Int) ≤ ob_houseMany.toInt ∧ ob_houseMany.toInt ≤ 10) (p_ob_bestSet : (0 : Int) ≤ ob_bestSet.toInt ∧ ob_bestSet.toInt ≤ 1023) (p_ob_bestOver : (-1 : Int) ≤ ob_bestOver.toInt ∧ ob_bestOver.toInt ≤ 180) (p_ob_tenMany : (0 : Int) ≤ ob_tenMany.toInt ∧ ob_tenMany.toInt ≤ 10) (p_ob_callMany : (0 : Int) ≤ ob_callMany.toInt ∧ ob_callMany.toInt ≤ 16) : Met l yX10_back (Cond.code yX10_back cX10_back 3 (some .int) :: wAll) ({ frames := 1, cells := 0, slots := 0, locals := 25 }) (va_Pc [.ref ob, .int 1] (kp G y sz [(ce_X10 ob ob_thrown ob_world ob_images ob_hasImage ob_tape ob_taped ob_five ob_size ob_at ob_from ob_token ob_value ob_faultKind ob_faultPlace ob_fresh ob_parts ob_houses ob_houseMany ob_worthOf ob_byCall ob_over ob_bestSet ob_bestOver ob_bestWorth ob_row ob_tenDebts ob_tenMany ob_fewestBy ob_covered ob_queue ob_cameBy ob_parent ob_met ob_calls ob_callMany ob_calledOn ob_saved ob_many ob_width ob_numbers ob_moving), (ce_i9080 y ob_world fob_world), (ce_i27240 y ob_images fob_images), (ce_z3 y ob_hasImage fob_hasImage)])) (va_Qi (fun (r : Int32) (w : va_W) => (∃ (v_209 : Int32) (f_210 : Nat → Int32), ((-6 : Int) ≤ v_209.toInt ∧ v_209.toInt ≤ 0) ∧ (RWw f_210) ∧ r = v_209 ∧ w = [(ce_X10 ob ob_thrown ob_world ob_images ob_hasImage ob_tape ob_taped ob_five ob_size ob_at ob_from ob_token ob_value ob_faultKind ob_faultPlace ob_fresh ob_parts ob_houses ob_houseMany ob_worthOf ob_byCall ob_over ob_bestSet ob_bestOver ob_bestWorth ob_row ob_tenDebts ob_tenMany ob_fewestBy ob_covered ob_queue ob_cameBy ob_parent ob_met ob_calls ob_callMany ob_calledOn ob_saved ob_many ob_width ob_numbers ob_moving), (ce_i9080 y ob_world f_210), (ce_i27240 y ob_images fob_images), (ce_z3 y ob_hasImage fob_hasImage)])) (kq G (va_A [(ce_X10 ob ob_thrown ob_world ob_images ob_hasImage ob_tape ob_taped ob_five ob_size ob_at ob_from ob_token ob_value ob_faultKind ob_faultPlace ob_fresh ob_parts ob_houses ob_houseMany ob_worthOf ob_byCall ob_over ob_bestSet ob_bestOver ob_bestWorth ob_row ob_tenDebts ob_tenMany ob_fewestBy ob_covered ob_queue ob_cameBy ob_parent ob_met ob_calls ob_callMany ob_calledOn ob_saved ob_many ob_width ob_numbers ob_moving), (ce_i9080 y ob_world fob_world), (ce_i27240 y ob_images fob_images), (ce_z3 y ob_hasImage fob_hasImage)] sz)) (va_A [(ce_X10 ob ob_thrown ob_world ob_images ob_hasImage ob_tape ob_taped ob_five ob_size ob_at ob_from ob_token ob_value ob_faultKind ob_faultPlace ob_fresh ob_parts ob_houses ob_houseMany ob_worthOf ob_byCall ob_over ob_bestSet ob_bestOver ob_bestWorth ob_row ob_tenDebts ob_tenMany ob_fewestBy ob_covered ob_queue ob_cameBy ob_parent ob_met ob_calls ob_callMany ob_calledOn ob_saved ob_many ob_width ob_numbers ob_moving), (ce_i9080 y ob_world fob_world), (ce_i27240 y ob_images fob_images), (ce_z3 y ob_hasImage fob_hasImage)] sz)) 0 0 (va_A [(ce_X10 ob ob_thrown ob_world ob_images ob_hasImage ob_tape ob_taped ob_five ob_size ob_at ob_from ob_token ob_value ob_faultKind ob_faultPlace ob_fresh ob_parts ob_houses ob_houseMany ob_worthOf ob_byCall ob_over ob_bestSet ob_bestOver ob_bestWorth ob_row ob_tenDebts ob_tenMany ob_fewestBy ob_covered ob_queue ob_cameBy ob_parent ob_met ob_calls ob_callMany ob_calledOn ob_saved ob_many ob_width ob_numbers ob_moving), (ce_i9080 y ob_world fob_world), (ce_i27240 y ob_images fob_images), (ce_z3 y ob_hasImage fob_hasImage)] sz) := by
  refine Met.ofW (cc := cX10_back) (maxL := 3) (ret := (some .int)) (by decide) rfl ?_
  intro p e s m args below meth c s₁ B hml hv
  obtain ⟨rfl, hsz, hP, hK, hD0⟩ := hv
  have hx := B.exec
  have hb := B.bytes
  have hr := B.returns
  have hw0 : ∀ w ∈ wAll, w.before _ s = true := fun w h => atoms_spec (ws := Cond.code yX10_back cX10_back 3 (some .int) :: wAll) B.pre w (List.mem_cons_of_mem _ h)
  have hown : s.vm.findClass RX10 = some m.cls := findClass_of_methodNamed B.named
  subst hsz
  have hD := hD0.self (sz := s.heap.size)
  generalize hAe : va_A [(ce_X10 ob ob_thrown ob_world ob_images ob_hasImage ob_tape ob_taped ob_five ob_size ob_at ob_from ob_token ob_value ob_faultKind ob_faultPlace ob_fresh ob_parts ob_houses ob_houseMany ob_worthOf ob_byCall ob_over ob_bestSet ob_bestOver ob_bestWorth ob_row ob_tenDebts ob_tenMany ob_fewestBy ob_covered ob_queue ob_cameBy ob_parent ob_met ob_calls ob_callMany ob_calledOn ob_saved ob_many ob_width ob_numbers ob_moving), (ce_i9080 y ob_world fob_world), (ce_i27240 y ob_images fob_images), (ce_z3 y ob_hasImage fob_hasImage)] s.heap.size = A at hD ⊢
  have hA : ∀ q : Nat, s.heap.size ≤ q → A q := fun q h => by rw [← hAe]; exact Or.inr h
  have hS : va_S A s.heap s.heap [] := va_S.rf
  have hP : va_P G vwCl [(ce_X10 ob ob_thrown ob_world ob_images ob_hasImage ob_tape ob_taped ob_five ob_size ob_at ob_from ob_token ob_value ob_faultKind ob_faultPlace ob_fresh ob_parts ob_houses ob_houseMany ob_worthOf ob_byCall ob_over ob_bestSet ob_bestOver ob_bestWorth ob_row ob_tenDebts ob_tenMany ob_fewestBy ob_covered ob_queue ob_cameBy ob_parent ob_met ob_calls ob_callMany ob_calledOn ob_saved ob_many ob_width ob_numbers ob_moving), (ce_i9080 y ob_world fob_world), (ce_i27240 y ob_images fob_images), (ce_z3 y ob_hasImage fob_hasImage)] s.heap := hP
  have hl := lv_entry ([.ref ob, .int 1]) (n := 3) (Nat.le_of_ble_eq_true rfl)
  rw [lg_entry_eq]
  generalize (lg_sl ([.ref ob, .int 1]) ++ List.replicate (3 - (lg_sl ([.ref ob, .int 1])).length) Slot.unset).toArray = ls at hl ⊢
  have hl : lv_has ls 3 [(0, .ref ob), (1, .int 1)] := hl
  refine lv_iload_n hx hb dX10_back_0 rfl (lv_at hl 1 rfl) ?_
  refine lv_i2l (v := 1) hx hb dX10_back_1 (by decide) ?_
  refine lv_lconst (v := 0) hx hb dX10_back_2 (by decide) ?_
  refine lv_ldc2 (own := RX10) (v := 2) hx hb hown (hw0 _ m_360) dX10_back_3 ?_
  refine cSim (As := [.long 1, .long 0, .long 2]) (rest := []) ⟨hx, hb, hml, hown, hw0⟩ hA hK hP hD hS [] (sX10_in l G y _ 1 0 2 ) rfl ⟨(callB_of 3 hw0 (gA m_516) rfl rfl rfl (hw0 _ m_41) (hw0 _ m_345) cb_X10_in ⟨Nat.le_of_ble_eq_true rfl, Nat.le_of_ble_eq_true rfl⟩), (hw0 _ m_346)⟩ rfl hl.1 (Nat.le_of_ble_eq_true rfl) dX10_back_6 ⟨Nat.le_of_ble_eq_true rfl, Nat.le_of_ble_eq_true rfl⟩ (fun r_1001 w_1001 H locs hw_1001 hP hD hS => ?_)
  rcases hw_1001 with ⟨h_1002, rfl, rfl⟩ | ⟨h_1003, rfl, rfl⟩
  · skip
    have h_1004 : 1 < (0 : Int) ∨ (2 : Int) < 1 := in_n h_1002 (by decide) (by decide) (by decide)
    omega
  · skip
    have h_1005 : (0 : Int) ≤ 1 ∧ 1 ≤ (2 : Int) := in_y h_1003 (by decide) (by decide) (by decide)
    obtain ⟨hP, hD⟩ : vPD G A H [(ce_X10 ob ob_thrown ob_world ob_images ob_hasImage ob_tape ob_taped ob_five ob_size ob_at ob_from ob_token ob_value ob_faultKind ob_faultPlace ob_fresh ob_parts ob_houses ob_houseMany ob_worthOf ob_byCall ob_over ob_bestSet ob_bestOver ob_bestWorth ob_row ob_tenDebts ob_tenMany ob_fewestBy ob_covered ob_queue ob_cameBy ob_parent ob_met ob_calls ob_callMany ob_calledOn ob_saved ob_many ob_width ob_numbers ob_moving), (ce_i9080 y ob_world fob_world), (ce_i27240 y ob_images fob_images), (ce_z3 y ob_hasImage fob_hasImage)] := ⟨hP, hD⟩
    refine lv_if_ne (tgt := 15) hx hb dX10_back_9 (by decide) (fun _ => ?_) (fun c9 => absurd c9 (by decide))
    refine lv_aload_n hx hb dX10_back_15 rfl (lv_at hl 0 rfl) ?_
    refine va_get (D := G) (ci := 10) (v := .ref ob_hasImage) (C := RX10) (T := TX10) (N := 41) hx hb hw0 inA_wsX100 hown hK.1 hP 0 rfl rfl 3 (by decide) (hw0 _ m_361) (fun _ h9 => h9) rfl dX10_back_16 ?_
    refine lv_iload_n hx hb dX10_back_19 rfl (lv_at hl 1 rfl) ?_
    refine va_zald hx hb hK.1 hP 3 3 rfl rfl (vi (bkc (x := 1) (c := 1) (by decide)) (by decide)) dX10_back_20 ?_
    refine lv_topi (fun v_1006 ev_1006 => ?_)
    have bv_1006 : (0 : Int) ≤ v_1006.toInt ∧ v_1006.toInt ≤ 1 := rd_b ev_1006 p_fob_hasImage
    refine lv_if_ne (tgt := 27) hx hb dX10_back_21 (by decide) (fun c_1007 => ?_) (fun c_1007 => ?_)
    · skip
      have nc_1007 := nb_ne (1) (1) c_1007 bv_1006 (k := 0) (by decide) (by decide)
      refine lv_iconst (v := 0) hx hb dX10_back_27 (by decide) ?_
      refine lv_istore_n (lv' := [(2, .int 0), (0, .ref ob), (1, .int 1)]) hx hb dX10_back_28 rfl hl (by decide) rfl (fun ls hl => ?_)
      refine loopX (fun n H locs ls st => ∃ (v_1091 : Int32) (f_1092 : Nat → Int32), (9080 - v_1091.toInt).toNat = n ∧ ((0 : Int) ≤ v_1091.toInt ∧ v_1091.toInt ≤ 9080) ∧ (cpR f_1092 fob_world fob_images 0 9080 0 v_1091.toInt) ∧ st = [] ∧ vPD G A H [(ce_X10 ob ob_thrown ob_world ob_images ob_hasImage ob_tape ob_taped ob_five ob_size ob_at ob_from ob_token ob_value ob_faultKind ob_faultPlace ob_fresh ob_parts ob_houses ob_houseMany ob_worthOf ob_byCall ob_over ob_bestSet ob_bestOver ob_bestWorth ob_row ob_tenDebts ob_tenMany ob_fewestBy ob_covered ob_queue ob_cameBy ob_parent ob_met ob_calls ob_callMany ob_calledOn ob_saved ob_many ob_width ob_numbers ob_moving), (ce_i9080 y ob_world f_1092), (ce_i27240 y ob_images fob_images), (ce_z3 y ob_hasImage fob_hasImage)] ∧ va_S A s.heap H locs ∧ lv_has ls 3 [(2, .int v_1091), (0, .ref ob), (1, .int 1)]) ?_ (n := (9080 - (0 : Int32).toInt).toNat) ⟨0, fob_world, rfl, (bw (0) (9080) (bkc (x := 0) (c := 0) (by decide)) (by decide)), (cp_0 (by have h90 : Int32.toInt 0 = 0 := (by decide); have h91 : Int32.toInt 1 = 1 := (by decide); omega)), rfl, ⟨hP, hD⟩, hS, lv_sub hl [0, 1, 2] rfl⟩
      rintro n ih_1098 H locs ls st ⟨v_1091, f_1092, hn_1098, bv_1091, rl1092_0, rfl, ⟨hP, hD⟩, hS, hl⟩
      refine lv_iload_n hx hb dX10_back_29 rfl (lv_at hl 0 rfl) ?_
      refine lv_sipush (v := 9080) hx hb dX10_back_30 (by decide) ?_
      refine lv_icmp_ge (tgt := 60) hx hb dX10_back_33 (by decide) (fun c_1099 => ?_) (fun c_1099 => ?_)
      · skip
        have nc_1099 := nb_le (9080) (9080) c_1099 (bkc (x := 9080) (c := 9080) (by decide)) bv_1091 (by decide)
        have kf_1092 : RWw f_1092 := RW_back rl1092_0 (by omega) (RI_at p_fob_images 1 (by decide))
        refine lv_iconst (v := 0) hx hb dX10_back_60 (by decide) ?_
        exact W.iret (v := 0) hx hb hr (fun t ht hW => ⟨⟨0, _, rfl, ⟨0, f_1092, (bw (-6) (0) (bkc (x := 0) (c := 0) (by decide)) (by decide)), kf_1092, rfl, rfl⟩, by rw [ht]; exact hP, hD⟩, hS.F ht⟩) hS.2.2 dX10_back_61
      · skip
        have nc_1099 := nb_nle (9079) (9080) c_1099 bv_1091 (bkc (x := 9080) (c := 9080) (by decide)) (by decide)
        refine lv_aload_n hx hb dX10_back_36 rfl (lv_at hl 1 rfl) ?_
        refine va_get (D := G) (ci := 10) (v := .ref ob_world) (C := RX10) (T := TX10) (N := 41) hx hb hw0 inA_wsX100 hown hK.1 hP 0 rfl rfl 1 (by decide) (hw0 _ m_352) (fun _ h9 => h9) rfl dX10_back_37 ?_
        refine lv_iload_n hx hb dX10_back_40 rfl (lv_at hl 0 rfl) ?_
        refine lv_aload_n hx hb dX10_back_41 rfl (lv_at hl 1 rfl) ?_
        refine va_get (D := G) (ci := 10) (v := .ref ob_images) (C := RX10) (T := TX10) (N := 41) hx hb hw0 inA_wsX100 hown hK.1 hP 0 rfl rfl 2 (by decide) (hw0 _ m_362) (fun _ h9 => h9) rfl dX10_back_42 ?_
        refine lv_sipush (v := 9080) hx hb dX10_back_45 (by decide) ?_
        refine lv_iload_n hx hb dX10_back_48 rfl (lv_at hl 2 rfl) ?_
        refine lv_imul hx hb dX10_back_49 ?_
        refine lv_topi (fun v_1100 ev_1100 => ?_)
        obtain rfl : 9080 = v_1100 := (ev_1100.trans (by decide)).symm
        refine lv_iload_n hx hb dX10_back_50 rfl (lv_at hl 0 rfl) ?_
        refine lv_iadd hx hb dX10_back_51 ?_
        refine lv_topi (fun v_1101 ev_1101 => ?_)
        have qv_1101 := ba_add ev_1101 (bkc (x := 9080) (c := 9080) (by decide)) nc_1099.1 (by decide)
        have bv_1101 : (9080 : Int) ≤ v_1101.toInt ∧ v_1101.toInt ≤ 18159 := bq_add qv_1101 (bkc (x := 9080) (c := 9080) (by decide)) nc_1099.1 _ _ (by decide)
        have qv_1101 : v_1101.toInt = (9080) + v_1091.toInt := qv_1101
        refine va_iald hx hb hK.1 hP 2 1 rfl rfl (vi bv_1101 (by decide)) dX10_back_52 ?_
        refine lv_topi (fun v_1102 ev_1102 => ?_)
        refine va_iast hx hb hK.1 hP hD hS 1 1 rfl rfl (vi nc_1099.1 (by decide)) dX10_back_53 (fun H locs hP hD hS => ?_)
        generalize hf_1103 : (upd f_1092 (v_1091 : Int32).toNatClampNeg v_1102) = f_1103 at hP hD
        obtain ⟨hP, hD⟩ : vPD G A H [(ce_X10 ob ob_thrown ob_world ob_images ob_hasImage ob_tape ob_taped ob_five ob_size ob_at ob_from ob_token ob_value ob_faultKind ob_faultPlace ob_fresh ob_parts ob_houses ob_houseMany ob_worthOf ob_byCall ob_over ob_bestSet ob_bestOver ob_bestWorth ob_row ob_tenDebts ob_tenMany ob_fewestBy ob_covered ob_queue ob_cameBy ob_parent ob_met ob_calls ob_callMany ob_calledOn ob_saved ob_many ob_width ob_numbers ob_moving), (ce_i9080 y ob_world f_1103), (ce_i27240 y ob_images fob_images), (ce_z3 y ob_hasImage fob_hasImage)] := ⟨hP, hD⟩
        obtain ⟨v_1104, ev_1104⟩ : ∃ z : Int32, z = v_1091 + 1 := ⟨_, rfl⟩
        have qv_1104 := ba_add ev_1104 nc_1099.1 (bkc (x := 1) (c := 1) (by decide)) (by decide)
        have bv_1104 : (1 : Int) ≤ v_1104.toInt ∧ v_1104.toInt ≤ 9080 := bq_add qv_1104 nc_1099.1 (bkc (x := 1) (c := 1) (by decide)) _ _ (by decide)
        have qv_1104 : v_1104.toInt = v_1091.toInt + (1) := qv_1104
        refine lv_iinc (v := v_1104) (lv' := [(2, .int v_1104), (0, .ref ob), (1, .int 1)]) hx hb dX10_back_54 hl (k := 0) rfl (ev_1104.symm) (by decide) rfl (fun ls hl => ?_)
        refine lv_goto (tgt := 29) hx hb dX10_back_57 (by decide) ?_
        exact ih_1098 _ (ml_inc (hi := 9080) hn_1098 qv_1104 (by decide) ((bw (0) (9080) bv_1104 (by decide))).2) _ _ _ _ ⟨v_1104, f_1103, rfl, (bw (0) (9080) bv_1104 (by decide)), (cp_s rl1092_0 hf_1103 ev_1102 ((cl_to (by omega)).trans (by omega)) ((cl_to (by omega)).trans (by omega)) (by omega) (by omega)), rfl, ⟨hP, hD⟩, hS, lv_sub hl [0, 1, 2] rfl⟩
    · skip
      have nc_1007 := nb_eq (0) (0) c_1007 bv_1006 (bkc (x := 0) (c := 0) (by decide)) (by decide)
      refine lv_bipush (v := (-6)) hx hb dX10_back_24 (by decide) ?_
      exact W.iret (v := (-6)) hx hb hr (fun t ht hW => ⟨⟨(-6), _, rfl, ⟨(-6), fob_world, (bw (-6) (0) (bkc (x := (-6)) (c := -6) (by decide)) (by decide)), p_fob_world, rfl, rfl⟩, by rw [ht]; exact hP, hD⟩, hS.F ht⟩) hS.2.2 dX10_back_26

set_option maxHeartbeats 4000000 in
set_option maxRecDepth 100000 in
theorem skeep2 (l : Launch) (G : va_G) (y : Nat → ClassId) (sz : Nat) (ob : Nat) (ob_thrown : Int32) (ob_world : Nat) (ob_images : Nat) (ob_hasImage : Nat) (ob_tape : Nat) (ob_taped : Int32) (ob_five : Nat) (ob_size : Int32) (ob_at : Int32) (ob_from : Int32) (ob_token : Int32) (ob_value : Int32) (ob_faultKind : Int32) (ob_faultPlace : Int32) (ob_fresh : Nat) (ob_parts : Nat) (ob_houses : Nat) (ob_houseMany : Int32) (ob_worthOf : Nat) (ob_byCall : Nat) (ob_over : Nat) (ob_bestSet : Int32) (ob_bestOver : Int32) (ob_bestWorth : Int32) (ob_row : Nat) (ob_tenDebts : Nat) (ob_tenMany : Int32) (ob_fewestBy : Nat) (ob_covered : Nat) (ob_queue : Nat) (ob_cameBy : Nat) (ob_parent : Nat) (ob_met : Nat) (ob_calls : Nat) (ob_callMany : Int32) (ob_calledOn : Nat) (ob_saved : Nat) (ob_many : Nat) (ob_width : Nat) (ob_numbers : Nat) (ob_moving : Nat) (fob_world : Nat → Int32) (fob_images : Nat → Int32) (fob_hasImage : Nat → Int32) (p_fob_world : RWw fob_world) (p_fob_images : RIw fob_images) (p_fob_hasImage : ∀ i, (0 : Int) ≤ (fob_hasImage i).toInt ∧ (fob_hasImage i).toInt ≤ 1) (p_ob_taped : (0 : Int) ≤ ob_taped.toInt ∧ ob_taped.toInt ≤ 1400) (p_ob_size : (0 : Int) ≤ ob_size.toInt ∧ ob_size.toInt ≤ 1400) (p_ob_at : (0 : Int) ≤ ob_at.toInt ∧ ob_at.toInt ≤ 1400) (p_ob_from : (0 : Int) ≤ ob_from.toInt ∧ ob_from.toInt ≤ 1400) (p_ob_token : (0 : Int) ≤ ob_token.toInt ∧ ob_token.toInt ≤ 4) (p_ob_value : (0 : Int) ≤ ob_value.toInt ∧ ob_value.toInt ≤ 9999) (p_ob_faultKind : (0 : Int) ≤ ob_faultKind.toInt ∧ ob_faultKind.toInt ≤ 3) (p_ob_houseMany : (0 : Int) ≤ ob_houseMany.toInt ∧ ob_houseMany.toInt ≤ 10) (p_ob_bestSet : (0 : Int) ≤ ob_bestSet.toInt ∧ ob_bestSet.toInt ≤ 1023) (p_ob_bestOver : (-1 : Int) ≤ ob_bestOver.toInt ∧ ob_bestOver.toInt ≤ 180) (p_ob_tenMany : (0 : Int) ≤ ob_tenMany.toInt ∧ ob_tenMany.toInt ≤ 10) (p_ob_callMany : (0 : Int) ≤ ob_callMany.toInt ∧ ob_callMany.toInt ≤ 16) : Met l yX10_keep (Cond.code yX10_keep cX10_keep 3 (some .int) :: wAll) ({ frames := 1, cells := 0, slots := 0, locals := 25 }) (va_Pc [.ref ob, .int 2] (kp G y sz [(ce_X10 ob ob_thrown ob_world ob_images ob_hasImage ob_tape ob_taped ob_five ob_size ob_at ob_from ob_token ob_value ob_faultKind ob_faultPlace ob_fresh ob_parts ob_houses ob_houseMany ob_worthOf ob_byCall ob_over ob_bestSet ob_bestOver ob_bestWorth ob_row ob_tenDebts ob_tenMany ob_fewestBy ob_covered ob_queue ob_cameBy ob_parent ob_met ob_calls ob_callMany ob_calledOn ob_saved ob_many ob_width ob_numbers ob_moving), (ce_i9080 y ob_world fob_world), (ce_i27240 y ob_images fob_images), (ce_z3 y ob_hasImage fob_hasImage)])) (va_Qi (fun (r : Int32) (w : va_W) => (∃ (f_207 : Nat → Int32) (f_208 : Nat → Int32), (RIw f_207) ∧ (∀ i, (0 : Int) ≤ (f_208 i).toInt ∧ (f_208 i).toInt ≤ 1) ∧ r = 0 ∧ w = [(ce_X10 ob ob_thrown ob_world ob_images ob_hasImage ob_tape ob_taped ob_five ob_size ob_at ob_from ob_token ob_value ob_faultKind ob_faultPlace ob_fresh ob_parts ob_houses ob_houseMany ob_worthOf ob_byCall ob_over ob_bestSet ob_bestOver ob_bestWorth ob_row ob_tenDebts ob_tenMany ob_fewestBy ob_covered ob_queue ob_cameBy ob_parent ob_met ob_calls ob_callMany ob_calledOn ob_saved ob_many ob_width ob_numbers ob_moving), (ce_i9080 y ob_world fob_world), (ce_i27240 y ob_images f_207), (ce_z3 y ob_hasImage f_208)])) (kq G (va_A [(ce_X10 ob ob_thrown ob_world ob_images ob_hasImage ob_tape ob_taped ob_five ob_size ob_at ob_from ob_token ob_value ob_faultKind ob_faultPlace ob_fresh ob_parts ob_houses ob_houseMany ob_worthOf ob_byCall ob_over ob_bestSet ob_bestOver ob_bestWorth ob_row ob_tenDebts ob_tenMany ob_fewestBy ob_covered ob_queue ob_cameBy ob_parent ob_met ob_calls ob_callMany ob_calledOn ob_saved ob_many ob_width ob_numbers ob_moving), (ce_i9080 y ob_world fob_world), (ce_i27240 y ob_images fob_images), (ce_z3 y ob_hasImage fob_hasImage)] sz)) (va_A [(ce_X10 ob ob_thrown ob_world ob_images ob_hasImage ob_tape ob_taped ob_five ob_size ob_at ob_from ob_token ob_value ob_faultKind ob_faultPlace ob_fresh ob_parts ob_houses ob_houseMany ob_worthOf ob_byCall ob_over ob_bestSet ob_bestOver ob_bestWorth ob_row ob_tenDebts ob_tenMany ob_fewestBy ob_covered ob_queue ob_cameBy ob_parent ob_met ob_calls ob_callMany ob_calledOn ob_saved ob_many ob_width ob_numbers ob_moving), (ce_i9080 y ob_world fob_world), (ce_i27240 y ob_images fob_images), (ce_z3 y ob_hasImage fob_hasImage)] sz)) 0 0 (va_A [(ce_X10 ob ob_thrown ob_world ob_images ob_hasImage ob_tape ob_taped ob_five ob_size ob_at ob_from ob_token ob_value ob_faultKind ob_faultPlace ob_fresh ob_parts ob_houses ob_houseMany ob_worthOf ob_byCall ob_over ob_bestSet ob_bestOver ob_bestWorth ob_row ob_tenDebts ob_tenMany ob_fewestBy ob_covered ob_queue ob_cameBy ob_parent ob_met ob_calls ob_callMany ob_calledOn ob_saved ob_many ob_width ob_numbers ob_moving), (ce_i9080 y ob_world fob_world), (ce_i27240 y ob_images fob_images), (ce_z3 y ob_hasImage fob_hasImage)] sz) := by
  refine Met.ofW (cc := cX10_keep) (maxL := 3) (ret := (some .int)) (by decide) rfl ?_
  intro p e s m args below meth c s₁ B hml hv
  obtain ⟨rfl, hsz, hP, hK, hD0⟩ := hv
  have hx := B.exec
  have hb := B.bytes
  have hr := B.returns
  have hw0 : ∀ w ∈ wAll, w.before _ s = true := fun w h => atoms_spec (ws := Cond.code yX10_keep cX10_keep 3 (some .int) :: wAll) B.pre w (List.mem_cons_of_mem _ h)
  have hown : s.vm.findClass RX10 = some m.cls := findClass_of_methodNamed B.named
  subst hsz
  have hD := hD0.self (sz := s.heap.size)
  generalize hAe : va_A [(ce_X10 ob ob_thrown ob_world ob_images ob_hasImage ob_tape ob_taped ob_five ob_size ob_at ob_from ob_token ob_value ob_faultKind ob_faultPlace ob_fresh ob_parts ob_houses ob_houseMany ob_worthOf ob_byCall ob_over ob_bestSet ob_bestOver ob_bestWorth ob_row ob_tenDebts ob_tenMany ob_fewestBy ob_covered ob_queue ob_cameBy ob_parent ob_met ob_calls ob_callMany ob_calledOn ob_saved ob_many ob_width ob_numbers ob_moving), (ce_i9080 y ob_world fob_world), (ce_i27240 y ob_images fob_images), (ce_z3 y ob_hasImage fob_hasImage)] s.heap.size = A at hD ⊢
  have hA : ∀ q : Nat, s.heap.size ≤ q → A q := fun q h => by rw [← hAe]; exact Or.inr h
  have hS : va_S A s.heap s.heap [] := va_S.rf
  have hP : va_P G vwCl [(ce_X10 ob ob_thrown ob_world ob_images ob_hasImage ob_tape ob_taped ob_five ob_size ob_at ob_from ob_token ob_value ob_faultKind ob_faultPlace ob_fresh ob_parts ob_houses ob_houseMany ob_worthOf ob_byCall ob_over ob_bestSet ob_bestOver ob_bestWorth ob_row ob_tenDebts ob_tenMany ob_fewestBy ob_covered ob_queue ob_cameBy ob_parent ob_met ob_calls ob_callMany ob_calledOn ob_saved ob_many ob_width ob_numbers ob_moving), (ce_i9080 y ob_world fob_world), (ce_i27240 y ob_images fob_images), (ce_z3 y ob_hasImage fob_hasImage)] s.heap := hP
  have hl := lv_entry ([.ref ob, .int 2]) (n := 3) (Nat.le_of_ble_eq_true rfl)
  rw [lg_entry_eq]
  generalize (lg_sl ([.ref ob, .int 2]) ++ List.replicate (3 - (lg_sl ([.ref ob, .int 2])).length) Slot.unset).toArray = ls at hl ⊢
  have hl : lv_has ls 3 [(0, .ref ob), (1, .int 2)] := hl
  refine lv_iload_n hx hb dX10_keep_0 rfl (lv_at hl 1 rfl) ?_
  refine lv_i2l (v := 2) hx hb dX10_keep_1 (by decide) ?_
  refine lv_lconst (v := 0) hx hb dX10_keep_2 (by decide) ?_
  refine lv_ldc2 (own := RX10) (v := 2) hx hb hown (hw0 _ m_360) dX10_keep_3 ?_
  refine cSim (As := [.long 2, .long 0, .long 2]) (rest := []) ⟨hx, hb, hml, hown, hw0⟩ hA hK hP hD hS [] (sX10_in l G y _ 2 0 2 ) rfl ⟨(callB_of 3 hw0 (gA m_516) rfl rfl rfl (hw0 _ m_41) (hw0 _ m_345) cb_X10_in ⟨Nat.le_of_ble_eq_true rfl, Nat.le_of_ble_eq_true rfl⟩), (hw0 _ m_346)⟩ rfl hl.1 (Nat.le_of_ble_eq_true rfl) dX10_keep_6 ⟨Nat.le_of_ble_eq_true rfl, Nat.le_of_ble_eq_true rfl⟩ (fun r_1001 w_1001 H locs hw_1001 hP hD hS => ?_)
  rcases hw_1001 with ⟨h_1002, rfl, rfl⟩ | ⟨h_1003, rfl, rfl⟩
  · skip
    have h_1004 : 2 < (0 : Int) ∨ (2 : Int) < 2 := in_n h_1002 (by decide) (by decide) (by decide)
    omega
  · skip
    have h_1005 : (0 : Int) ≤ 2 ∧ 2 ≤ (2 : Int) := in_y h_1003 (by decide) (by decide) (by decide)
    obtain ⟨hP, hD⟩ : vPD G A H [(ce_X10 ob ob_thrown ob_world ob_images ob_hasImage ob_tape ob_taped ob_five ob_size ob_at ob_from ob_token ob_value ob_faultKind ob_faultPlace ob_fresh ob_parts ob_houses ob_houseMany ob_worthOf ob_byCall ob_over ob_bestSet ob_bestOver ob_bestWorth ob_row ob_tenDebts ob_tenMany ob_fewestBy ob_covered ob_queue ob_cameBy ob_parent ob_met ob_calls ob_callMany ob_calledOn ob_saved ob_many ob_width ob_numbers ob_moving), (ce_i9080 y ob_world fob_world), (ce_i27240 y ob_images fob_images), (ce_z3 y ob_hasImage fob_hasImage)] := ⟨hP, hD⟩
    refine lv_if_ne (tgt := 15) hx hb dX10_keep_9 (by decide) (fun _ => ?_) (fun c9 => absurd c9 (by decide))
    refine lv_iconst (v := 0) hx hb dX10_keep_15 (by decide) ?_
    refine lv_istore_n (lv' := [(2, .int 0), (0, .ref ob), (1, .int 2)]) hx hb dX10_keep_16 rfl hl (by decide) rfl (fun ls hl => ?_)
    refine loopX (fun n H locs ls st => ∃ (v_1089 : Int32) (f_1090 : Nat → Int32), (9080 - v_1089.toInt).toNat = n ∧ ((0 : Int) ≤ v_1089.toInt ∧ v_1089.toInt ≤ 9080) ∧ (cpR f_1090 fob_images fob_world 18160 0 0 v_1089.toInt) ∧ st = [] ∧ vPD G A H [(ce_X10 ob ob_thrown ob_world ob_images ob_hasImage ob_tape ob_taped ob_five ob_size ob_at ob_from ob_token ob_value ob_faultKind ob_faultPlace ob_fresh ob_parts ob_houses ob_houseMany ob_worthOf ob_byCall ob_over ob_bestSet ob_bestOver ob_bestWorth ob_row ob_tenDebts ob_tenMany ob_fewestBy ob_covered ob_queue ob_cameBy ob_parent ob_met ob_calls ob_callMany ob_calledOn ob_saved ob_many ob_width ob_numbers ob_moving), (ce_i9080 y ob_world fob_world), (ce_i27240 y ob_images f_1090), (ce_z3 y ob_hasImage fob_hasImage)] ∧ va_S A s.heap H locs ∧ lv_has ls 3 [(2, .int v_1089), (0, .ref ob), (1, .int 2)]) ?_ (n := (9080 - (0 : Int32).toInt).toNat) ⟨0, fob_images, rfl, (bw (0) (9080) (bkc (x := 0) (c := 0) (by decide)) (by decide)), (cp_0 (by have h90 : Int32.toInt 0 = 0 := (by decide); have h91 : Int32.toInt 2 = 2 := (by decide); omega)), rfl, ⟨hP, hD⟩, hS, lv_sub hl [0, 1, 2] rfl⟩
    rintro n ih_1096 H locs ls st ⟨v_1089, f_1090, hn_1096, bv_1089, rl1090_0, rfl, ⟨hP, hD⟩, hS, hl⟩
    refine lv_iload_n hx hb dX10_keep_17 rfl (lv_at hl 0 rfl) ?_
    refine lv_sipush (v := 9080) hx hb dX10_keep_18 (by decide) ?_
    refine lv_icmp_ge (tgt := 48) hx hb dX10_keep_21 (by decide) (fun c_1097 => ?_) (fun c_1097 => ?_)
    · skip
      have nc_1097 := nb_le (9080) (9080) c_1097 (bkc (x := 9080) (c := 9080) (by decide)) bv_1089 (by decide)
      have kf_1090 : RIw f_1090 := RI_keep (k := 2) rl1090_0 (by omega) p_fob_world p_fob_images
      refine lv_aload_n hx hb dX10_keep_48 rfl (lv_at hl 1 rfl) ?_
      refine va_get (D := G) (ci := 10) (v := .ref ob_hasImage) (C := RX10) (T := TX10) (N := 41) hx hb hw0 inA_wsX100 hown hK.1 hP 0 rfl rfl 3 (by decide) (hw0 _ m_361) (fun _ h9 => h9) rfl dX10_keep_49 ?_
      refine lv_iload_n hx hb dX10_keep_52 rfl (lv_at hl 2 rfl) ?_
      refine lv_iconst (v := 1) hx hb dX10_keep_53 (by decide) ?_
      refine va_zast hx hb hK.1 hP hD hS 3 3 rfl rfl (vi (bkc (x := 2) (c := 2) (by decide)) (by decide)) dX10_keep_54 (fun H locs hP hD hS => ?_)
      generalize hf_1098 : (upd fob_hasImage (2 : Int32).toNatClampNeg (vp_nar .boolean 1)) = f_1098 at hP hD
      have bf_1098 : ∀ i, (0 : Int) ≤ (f_1098 i).toInt ∧ (f_1098 i).toInt ≤ 1 := hf_1098 ▸ up_z p_fob_hasImage (bw (0) (1) (bkc (x := 1) (c := 1) (by decide)) (by decide))
      obtain ⟨hP, hD⟩ : vPD G A H [(ce_X10 ob ob_thrown ob_world ob_images ob_hasImage ob_tape ob_taped ob_five ob_size ob_at ob_from ob_token ob_value ob_faultKind ob_faultPlace ob_fresh ob_parts ob_houses ob_houseMany ob_worthOf ob_byCall ob_over ob_bestSet ob_bestOver ob_bestWorth ob_row ob_tenDebts ob_tenMany ob_fewestBy ob_covered ob_queue ob_cameBy ob_parent ob_met ob_calls ob_callMany ob_calledOn ob_saved ob_many ob_width ob_numbers ob_moving), (ce_i9080 y ob_world fob_world), (ce_i27240 y ob_images f_1090), (ce_z3 y ob_hasImage f_1098)] := ⟨hP, hD⟩
      refine lv_iconst (v := 0) hx hb dX10_keep_55 (by decide) ?_
      exact W.iret (v := 0) hx hb hr (fun t ht hW => ⟨⟨0, _, rfl, ⟨f_1090, f_1098, kf_1090, bf_1098, rfl, rfl⟩, by rw [ht]; exact hP, hD⟩, hS.F ht⟩) hS.2.2 dX10_keep_56
    · skip
      have nc_1097 := nb_nle (9079) (9080) c_1097 bv_1089 (bkc (x := 9080) (c := 9080) (by decide)) (by decide)
      refine lv_aload_n hx hb dX10_keep_24 rfl (lv_at hl 1 rfl) ?_
      refine va_get (D := G) (ci := 10) (v := .ref ob_images) (C := RX10) (T := TX10) (N := 41) hx hb hw0 inA_wsX100 hown hK.1 hP 0 rfl rfl 2 (by decide) (hw0 _ m_362) (fun _ h9 => h9) rfl dX10_keep_25 ?_
      refine lv_sipush (v := 9080) hx hb dX10_keep_28 (by decide) ?_
      refine lv_iload_n hx hb dX10_keep_31 rfl (lv_at hl 2 rfl) ?_
      refine lv_imul hx hb dX10_keep_32 ?_
      refine lv_topi (fun v_1099 ev_1099 => ?_)
      obtain rfl : 18160 = v_1099 := (ev_1099.trans (by decide)).symm
      refine lv_iload_n hx hb dX10_keep_33 rfl (lv_at hl 0 rfl) ?_
      refine lv_iadd hx hb dX10_keep_34 ?_
      refine lv_topi (fun v_1100 ev_1100 => ?_)
      have qv_1100 := ba_add ev_1100 (bkc (x := 18160) (c := 18160) (by decide)) nc_1097.1 (by decide)
      have bv_1100 : (18160 : Int) ≤ v_1100.toInt ∧ v_1100.toInt ≤ 27239 := bq_add qv_1100 (bkc (x := 18160) (c := 18160) (by decide)) nc_1097.1 _ _ (by decide)
      have qv_1100 : v_1100.toInt = (18160) + v_1089.toInt := qv_1100
      refine lv_aload_n hx hb dX10_keep_35 rfl (lv_at hl 1 rfl) ?_
      refine va_get (D := G) (ci := 10) (v := .ref ob_world) (C := RX10) (T := TX10) (N := 41) hx hb hw0 inA_wsX100 hown hK.1 hP 0 rfl rfl 1 (by decide) (hw0 _ m_352) (fun _ h9 => h9) rfl dX10_keep_36 ?_
      refine lv_iload_n hx hb dX10_keep_39 rfl (lv_at hl 0 rfl) ?_
      refine va_iald hx hb hK.1 hP 1 1 rfl rfl (vi nc_1097.1 (by decide)) dX10_keep_40 ?_
      refine lv_topi (fun v_1101 ev_1101 => ?_)
      refine va_iast hx hb hK.1 hP hD hS 2 1 rfl rfl (vi bv_1100 (by decide)) dX10_keep_41 (fun H locs hP hD hS => ?_)
      generalize hf_1102 : (upd f_1090 (v_1100 : Int32).toNatClampNeg v_1101) = f_1102 at hP hD
      obtain ⟨hP, hD⟩ : vPD G A H [(ce_X10 ob ob_thrown ob_world ob_images ob_hasImage ob_tape ob_taped ob_five ob_size ob_at ob_from ob_token ob_value ob_faultKind ob_faultPlace ob_fresh ob_parts ob_houses ob_houseMany ob_worthOf ob_byCall ob_over ob_bestSet ob_bestOver ob_bestWorth ob_row ob_tenDebts ob_tenMany ob_fewestBy ob_covered ob_queue ob_cameBy ob_parent ob_met ob_calls ob_callMany ob_calledOn ob_saved ob_many ob_width ob_numbers ob_moving), (ce_i9080 y ob_world fob_world), (ce_i27240 y ob_images f_1102), (ce_z3 y ob_hasImage fob_hasImage)] := ⟨hP, hD⟩
      obtain ⟨v_1103, ev_1103⟩ : ∃ z : Int32, z = v_1089 + 1 := ⟨_, rfl⟩
      have qv_1103 := ba_add ev_1103 nc_1097.1 (bkc (x := 1) (c := 1) (by decide)) (by decide)
      have bv_1103 : (1 : Int) ≤ v_1103.toInt ∧ v_1103.toInt ≤ 9080 := bq_add qv_1103 nc_1097.1 (bkc (x := 1) (c := 1) (by decide)) _ _ (by decide)
      have qv_1103 : v_1103.toInt = v_1089.toInt + (1) := qv_1103
      refine lv_iinc (v := v_1103) (lv' := [(2, .int v_1103), (0, .ref ob), (1, .int 2)]) hx hb dX10_keep_42 hl (k := 0) rfl (ev_1103.symm) (by decide) rfl (fun ls hl => ?_)
      refine lv_goto (tgt := 17) hx hb dX10_keep_45 (by decide) ?_
      exact ih_1096 _ (ml_inc (hi := 9080) hn_1096 qv_1103 (by decide) ((bw (0) (9080) bv_1103 (by decide))).2) _ _ _ _ ⟨v_1103, f_1102, rfl, (bw (0) (9080) bv_1103 (by decide)), (cp_s rl1090_0 hf_1102 ev_1101 ((cl_to (by omega)).trans (by omega)) ((cl_to (by omega)).trans (by omega)) (by omega) (by omega)), rfl, ⟨hP, hD⟩, hS, lv_sub hl [0, 1, 2] rfl⟩

set_option maxHeartbeats 4000000 in
set_option maxRecDepth 100000 in
theorem sback2 (l : Launch) (G : va_G) (y : Nat → ClassId) (sz : Nat) (ob : Nat) (ob_thrown : Int32) (ob_world : Nat) (ob_images : Nat) (ob_hasImage : Nat) (ob_tape : Nat) (ob_taped : Int32) (ob_five : Nat) (ob_size : Int32) (ob_at : Int32) (ob_from : Int32) (ob_token : Int32) (ob_value : Int32) (ob_faultKind : Int32) (ob_faultPlace : Int32) (ob_fresh : Nat) (ob_parts : Nat) (ob_houses : Nat) (ob_houseMany : Int32) (ob_worthOf : Nat) (ob_byCall : Nat) (ob_over : Nat) (ob_bestSet : Int32) (ob_bestOver : Int32) (ob_bestWorth : Int32) (ob_row : Nat) (ob_tenDebts : Nat) (ob_tenMany : Int32) (ob_fewestBy : Nat) (ob_covered : Nat) (ob_queue : Nat) (ob_cameBy : Nat) (ob_parent : Nat) (ob_met : Nat) (ob_calls : Nat) (ob_callMany : Int32) (ob_calledOn : Nat) (ob_saved : Nat) (ob_many : Nat) (ob_width : Nat) (ob_numbers : Nat) (ob_moving : Nat) (fob_world : Nat → Int32) (fob_images : Nat → Int32) (fob_hasImage : Nat → Int32) (p_fob_world : RWw fob_world) (p_fob_images : RIw fob_images) (p_fob_hasImage : ∀ i, (0 : Int) ≤ (fob_hasImage i).toInt ∧ (fob_hasImage i).toInt ≤ 1) (p_ob_taped : (0 : Int) ≤ ob_taped.toInt ∧ ob_taped.toInt ≤ 1400) (p_ob_size : (0 : Int) ≤ ob_size.toInt ∧ ob_size.toInt ≤ 1400) (p_ob_at : (0 : Int) ≤ ob_at.toInt ∧ ob_at.toInt ≤ 1400) (p_ob_from : (0 : Int) ≤ ob_from.toInt ∧ ob_from.toInt ≤ 1400) (p_ob_token : (0 : Int) ≤ ob_token.toInt ∧ ob_token.toInt ≤ 4) (p_ob_value : (0 : Int) ≤ ob_value.toInt ∧ ob_value.toInt ≤ 9999) (p_ob_faultKind : (0 : Int) ≤ ob_faultKind.toInt ∧ ob_faultKind.toInt ≤ 3) (p_ob_houseMany : (0 : Int) ≤ ob_houseMany.toInt ∧ ob_houseMany.toInt ≤ 10) (p_ob_bestSet : (0 : Int) ≤ ob_bestSet.toInt ∧ ob_bestSet.toInt ≤ 1023) (p_ob_bestOver : (-1 : Int) ≤ ob_bestOver.toInt ∧ ob_bestOver.toInt ≤ 180) (p_ob_tenMany : (0 : Int) ≤ ob_tenMany.toInt ∧ ob_tenMany.toInt ≤ 10) (p_ob_callMany : (0 : Int) ≤ ob_callMany.toInt ∧ ob_callMany.toInt ≤ 16) : Met l yX10_back (Cond.code yX10_back cX10_back 3 (some .int) :: wAll) ({ frames := 1, cells := 0, slots := 0, locals := 25 }) (va_Pc [.ref ob, .int 2] (kp G y sz [(ce_X10 ob ob_thrown ob_world ob_images ob_hasImage ob_tape ob_taped ob_five ob_size ob_at ob_from ob_token ob_value ob_faultKind ob_faultPlace ob_fresh ob_parts ob_houses ob_houseMany ob_worthOf ob_byCall ob_over ob_bestSet ob_bestOver ob_bestWorth ob_row ob_tenDebts ob_tenMany ob_fewestBy ob_covered ob_queue ob_cameBy ob_parent ob_met ob_calls ob_callMany ob_calledOn ob_saved ob_many ob_width ob_numbers ob_moving), (ce_i9080 y ob_world fob_world), (ce_i27240 y ob_images fob_images), (ce_z3 y ob_hasImage fob_hasImage)])) (va_Qi (fun (r : Int32) (w : va_W) => (∃ (v_209 : Int32) (f_210 : Nat → Int32), ((-6 : Int) ≤ v_209.toInt ∧ v_209.toInt ≤ 0) ∧ (RWw f_210) ∧ r = v_209 ∧ w = [(ce_X10 ob ob_thrown ob_world ob_images ob_hasImage ob_tape ob_taped ob_five ob_size ob_at ob_from ob_token ob_value ob_faultKind ob_faultPlace ob_fresh ob_parts ob_houses ob_houseMany ob_worthOf ob_byCall ob_over ob_bestSet ob_bestOver ob_bestWorth ob_row ob_tenDebts ob_tenMany ob_fewestBy ob_covered ob_queue ob_cameBy ob_parent ob_met ob_calls ob_callMany ob_calledOn ob_saved ob_many ob_width ob_numbers ob_moving), (ce_i9080 y ob_world f_210), (ce_i27240 y ob_images fob_images), (ce_z3 y ob_hasImage fob_hasImage)])) (kq G (va_A [(ce_X10 ob ob_thrown ob_world ob_images ob_hasImage ob_tape ob_taped ob_five ob_size ob_at ob_from ob_token ob_value ob_faultKind ob_faultPlace ob_fresh ob_parts ob_houses ob_houseMany ob_worthOf ob_byCall ob_over ob_bestSet ob_bestOver ob_bestWorth ob_row ob_tenDebts ob_tenMany ob_fewestBy ob_covered ob_queue ob_cameBy ob_parent ob_met ob_calls ob_callMany ob_calledOn ob_saved ob_many ob_width ob_numbers ob_moving), (ce_i9080 y ob_world fob_world), (ce_i27240 y ob_images fob_images), (ce_z3 y ob_hasImage fob_hasImage)] sz)) (va_A [(ce_X10 ob ob_thrown ob_world ob_images ob_hasImage ob_tape ob_taped ob_five ob_size ob_at ob_from ob_token ob_value ob_faultKind ob_faultPlace ob_fresh ob_parts ob_houses ob_houseMany ob_worthOf ob_byCall ob_over ob_bestSet ob_bestOver ob_bestWorth ob_row ob_tenDebts ob_tenMany ob_fewestBy ob_covered ob_queue ob_cameBy ob_parent ob_met ob_calls ob_callMany ob_calledOn ob_saved ob_many ob_width ob_numbers ob_moving), (ce_i9080 y ob_world fob_world), (ce_i27240 y ob_images fob_images), (ce_z3 y ob_hasImage fob_hasImage)] sz)) 0 0 (va_A [(ce_X10 ob ob_thrown ob_world ob_images ob_hasImage ob_tape ob_taped ob_five ob_size ob_at ob_from ob_token ob_value ob_faultKind ob_faultPlace ob_fresh ob_parts ob_houses ob_houseMany ob_worthOf ob_byCall ob_over ob_bestSet ob_bestOver ob_bestWorth ob_row ob_tenDebts ob_tenMany ob_fewestBy ob_covered ob_queue ob_cameBy ob_parent ob_met ob_calls ob_callMany ob_calledOn ob_saved ob_many ob_width ob_numbers ob_moving), (ce_i9080 y ob_world fob_world), (ce_i27240 y ob_images fob_images), (ce_z3 y ob_hasImage fob_hasImage)] sz) := by
  refine Met.ofW (cc := cX10_back) (maxL := 3) (ret := (some .int)) (by decide) rfl ?_
  intro p e s m args below meth c s₁ B hml hv
  obtain ⟨rfl, hsz, hP, hK, hD0⟩ := hv
  have hx := B.exec
  have hb := B.bytes
  have hr := B.returns
  have hw0 : ∀ w ∈ wAll, w.before _ s = true := fun w h => atoms_spec (ws := Cond.code yX10_back cX10_back 3 (some .int) :: wAll) B.pre w (List.mem_cons_of_mem _ h)
  have hown : s.vm.findClass RX10 = some m.cls := findClass_of_methodNamed B.named
  subst hsz
  have hD := hD0.self (sz := s.heap.size)
  generalize hAe : va_A [(ce_X10 ob ob_thrown ob_world ob_images ob_hasImage ob_tape ob_taped ob_five ob_size ob_at ob_from ob_token ob_value ob_faultKind ob_faultPlace ob_fresh ob_parts ob_houses ob_houseMany ob_worthOf ob_byCall ob_over ob_bestSet ob_bestOver ob_bestWorth ob_row ob_tenDebts ob_tenMany ob_fewestBy ob_covered ob_queue ob_cameBy ob_parent ob_met ob_calls ob_callMany ob_calledOn ob_saved ob_many ob_width ob_numbers ob_moving), (ce_i9080 y ob_world fob_world), (ce_i27240 y ob_images fob_images), (ce_z3 y ob_hasImage fob_hasImage)] s.heap.size = A at hD ⊢
  have hA : ∀ q : Nat, s.heap.size ≤ q → A q := fun q h => by rw [← hAe]; exact Or.inr h
  have hS : va_S A s.heap s.heap [] := va_S.rf
  have hP : va_P G vwCl [(ce_X10 ob ob_thrown ob_world ob_images ob_hasImage ob_tape ob_taped ob_five ob_size ob_at ob_from ob_token ob_value ob_faultKind ob_faultPlace ob_fresh ob_parts ob_houses ob_houseMany ob_worthOf ob_byCall ob_over ob_bestSet ob_bestOver ob_bestWorth ob_row ob_tenDebts ob_tenMany ob_fewestBy ob_covered ob_queue ob_cameBy ob_parent ob_met ob_calls ob_callMany ob_calledOn ob_saved ob_many ob_width ob_numbers ob_moving), (ce_i9080 y ob_world fob_world), (ce_i27240 y ob_images fob_images), (ce_z3 y ob_hasImage fob_hasImage)] s.heap := hP
  have hl := lv_entry ([.ref ob, .int 2]) (n := 3) (Nat.le_of_ble_eq_true rfl)
  rw [lg_entry_eq]
  generalize (lg_sl ([.ref ob, .int 2]) ++ List.replicate (3 - (lg_sl ([.ref ob, .int 2])).length) Slot.unset).toArray = ls at hl ⊢
  have hl : lv_has ls 3 [(0, .ref ob), (1, .int 2)] := hl
  refine lv_iload_n hx hb dX10_back_0 rfl (lv_at hl 1 rfl) ?_
  refine lv_i2l (v := 2) hx hb dX10_back_1 (by decide) ?_
  refine lv_lconst (v := 0) hx hb dX10_back_2 (by decide) ?_
  refine lv_ldc2 (own := RX10) (v := 2) hx hb hown (hw0 _ m_360) dX10_back_3 ?_
  refine cSim (As := [.long 2, .long 0, .long 2]) (rest := []) ⟨hx, hb, hml, hown, hw0⟩ hA hK hP hD hS [] (sX10_in l G y _ 2 0 2 ) rfl ⟨(callB_of 3 hw0 (gA m_516) rfl rfl rfl (hw0 _ m_41) (hw0 _ m_345) cb_X10_in ⟨Nat.le_of_ble_eq_true rfl, Nat.le_of_ble_eq_true rfl⟩), (hw0 _ m_346)⟩ rfl hl.1 (Nat.le_of_ble_eq_true rfl) dX10_back_6 ⟨Nat.le_of_ble_eq_true rfl, Nat.le_of_ble_eq_true rfl⟩ (fun r_1001 w_1001 H locs hw_1001 hP hD hS => ?_)
  rcases hw_1001 with ⟨h_1002, rfl, rfl⟩ | ⟨h_1003, rfl, rfl⟩
  · skip
    have h_1004 : 2 < (0 : Int) ∨ (2 : Int) < 2 := in_n h_1002 (by decide) (by decide) (by decide)
    omega
  · skip
    have h_1005 : (0 : Int) ≤ 2 ∧ 2 ≤ (2 : Int) := in_y h_1003 (by decide) (by decide) (by decide)
    obtain ⟨hP, hD⟩ : vPD G A H [(ce_X10 ob ob_thrown ob_world ob_images ob_hasImage ob_tape ob_taped ob_five ob_size ob_at ob_from ob_token ob_value ob_faultKind ob_faultPlace ob_fresh ob_parts ob_houses ob_houseMany ob_worthOf ob_byCall ob_over ob_bestSet ob_bestOver ob_bestWorth ob_row ob_tenDebts ob_tenMany ob_fewestBy ob_covered ob_queue ob_cameBy ob_parent ob_met ob_calls ob_callMany ob_calledOn ob_saved ob_many ob_width ob_numbers ob_moving), (ce_i9080 y ob_world fob_world), (ce_i27240 y ob_images fob_images), (ce_z3 y ob_hasImage fob_hasImage)] := ⟨hP, hD⟩
    refine lv_if_ne (tgt := 15) hx hb dX10_back_9 (by decide) (fun _ => ?_) (fun c9 => absurd c9 (by decide))
    refine lv_aload_n hx hb dX10_back_15 rfl (lv_at hl 0 rfl) ?_
    refine va_get (D := G) (ci := 10) (v := .ref ob_hasImage) (C := RX10) (T := TX10) (N := 41) hx hb hw0 inA_wsX100 hown hK.1 hP 0 rfl rfl 3 (by decide) (hw0 _ m_361) (fun _ h9 => h9) rfl dX10_back_16 ?_
    refine lv_iload_n hx hb dX10_back_19 rfl (lv_at hl 1 rfl) ?_
    refine va_zald hx hb hK.1 hP 3 3 rfl rfl (vi (bkc (x := 2) (c := 2) (by decide)) (by decide)) dX10_back_20 ?_
    refine lv_topi (fun v_1006 ev_1006 => ?_)
    have bv_1006 : (0 : Int) ≤ v_1006.toInt ∧ v_1006.toInt ≤ 1 := rd_b ev_1006 p_fob_hasImage
    refine lv_if_ne (tgt := 27) hx hb dX10_back_21 (by decide) (fun c_1007 => ?_) (fun c_1007 => ?_)
    · skip
      have nc_1007 := nb_ne (1) (1) c_1007 bv_1006 (k := 0) (by decide) (by decide)
      refine lv_iconst (v := 0) hx hb dX10_back_27 (by decide) ?_
      refine lv_istore_n (lv' := [(2, .int 0), (0, .ref ob), (1, .int 2)]) hx hb dX10_back_28 rfl hl (by decide) rfl (fun ls hl => ?_)
      refine loopX (fun n H locs ls st => ∃ (v_1091 : Int32) (f_1092 : Nat → Int32), (9080 - v_1091.toInt).toNat = n ∧ ((0 : Int) ≤ v_1091.toInt ∧ v_1091.toInt ≤ 9080) ∧ (cpR f_1092 fob_world fob_images 0 18160 0 v_1091.toInt) ∧ st = [] ∧ vPD G A H [(ce_X10 ob ob_thrown ob_world ob_images ob_hasImage ob_tape ob_taped ob_five ob_size ob_at ob_from ob_token ob_value ob_faultKind ob_faultPlace ob_fresh ob_parts ob_houses ob_houseMany ob_worthOf ob_byCall ob_over ob_bestSet ob_bestOver ob_bestWorth ob_row ob_tenDebts ob_tenMany ob_fewestBy ob_covered ob_queue ob_cameBy ob_parent ob_met ob_calls ob_callMany ob_calledOn ob_saved ob_many ob_width ob_numbers ob_moving), (ce_i9080 y ob_world f_1092), (ce_i27240 y ob_images fob_images), (ce_z3 y ob_hasImage fob_hasImage)] ∧ va_S A s.heap H locs ∧ lv_has ls 3 [(2, .int v_1091), (0, .ref ob), (1, .int 2)]) ?_ (n := (9080 - (0 : Int32).toInt).toNat) ⟨0, fob_world, rfl, (bw (0) (9080) (bkc (x := 0) (c := 0) (by decide)) (by decide)), (cp_0 (by have h90 : Int32.toInt 0 = 0 := (by decide); have h91 : Int32.toInt 2 = 2 := (by decide); omega)), rfl, ⟨hP, hD⟩, hS, lv_sub hl [0, 1, 2] rfl⟩
      rintro n ih_1098 H locs ls st ⟨v_1091, f_1092, hn_1098, bv_1091, rl1092_0, rfl, ⟨hP, hD⟩, hS, hl⟩
      refine lv_iload_n hx hb dX10_back_29 rfl (lv_at hl 0 rfl) ?_
      refine lv_sipush (v := 9080) hx hb dX10_back_30 (by decide) ?_
      refine lv_icmp_ge (tgt := 60) hx hb dX10_back_33 (by decide) (fun c_1099 => ?_) (fun c_1099 => ?_)
      · skip
        have nc_1099 := nb_le (9080) (9080) c_1099 (bkc (x := 9080) (c := 9080) (by decide)) bv_1091 (by decide)
        have kf_1092 : RWw f_1092 := RW_back rl1092_0 (by omega) (RI_at p_fob_images 2 (by decide))
        refine lv_iconst (v := 0) hx hb dX10_back_60 (by decide) ?_
        exact W.iret (v := 0) hx hb hr (fun t ht hW => ⟨⟨0, _, rfl, ⟨0, f_1092, (bw (-6) (0) (bkc (x := 0) (c := 0) (by decide)) (by decide)), kf_1092, rfl, rfl⟩, by rw [ht]; exact hP, hD⟩, hS.F ht⟩) hS.2.2 dX10_back_61
      · skip
        have nc_1099 := nb_nle (9079) (9080) c_1099 bv_1091 (bkc (x := 9080) (c := 9080) (by decide)) (by decide)
        refine lv_aload_n hx hb dX10_back_36 rfl (lv_at hl 1 rfl) ?_
        refine va_get (D := G) (ci := 10) (v := .ref ob_world) (C := RX10) (T := TX10) (N := 41) hx hb hw0 inA_wsX100 hown hK.1 hP 0 rfl rfl 1 (by decide) (hw0 _ m_352) (fun _ h9 => h9) rfl dX10_back_37 ?_
        refine lv_iload_n hx hb dX10_back_40 rfl (lv_at hl 0 rfl) ?_
        refine lv_aload_n hx hb dX10_back_41 rfl (lv_at hl 1 rfl) ?_
        refine va_get (D := G) (ci := 10) (v := .ref ob_images) (C := RX10) (T := TX10) (N := 41) hx hb hw0 inA_wsX100 hown hK.1 hP 0 rfl rfl 2 (by decide) (hw0 _ m_362) (fun _ h9 => h9) rfl dX10_back_42 ?_
        refine lv_sipush (v := 9080) hx hb dX10_back_45 (by decide) ?_
        refine lv_iload_n hx hb dX10_back_48 rfl (lv_at hl 2 rfl) ?_
        refine lv_imul hx hb dX10_back_49 ?_
        refine lv_topi (fun v_1100 ev_1100 => ?_)
        obtain rfl : 18160 = v_1100 := (ev_1100.trans (by decide)).symm
        refine lv_iload_n hx hb dX10_back_50 rfl (lv_at hl 0 rfl) ?_
        refine lv_iadd hx hb dX10_back_51 ?_
        refine lv_topi (fun v_1101 ev_1101 => ?_)
        have qv_1101 := ba_add ev_1101 (bkc (x := 18160) (c := 18160) (by decide)) nc_1099.1 (by decide)
        have bv_1101 : (18160 : Int) ≤ v_1101.toInt ∧ v_1101.toInt ≤ 27239 := bq_add qv_1101 (bkc (x := 18160) (c := 18160) (by decide)) nc_1099.1 _ _ (by decide)
        have qv_1101 : v_1101.toInt = (18160) + v_1091.toInt := qv_1101
        refine va_iald hx hb hK.1 hP 2 1 rfl rfl (vi bv_1101 (by decide)) dX10_back_52 ?_
        refine lv_topi (fun v_1102 ev_1102 => ?_)
        refine va_iast hx hb hK.1 hP hD hS 1 1 rfl rfl (vi nc_1099.1 (by decide)) dX10_back_53 (fun H locs hP hD hS => ?_)
        generalize hf_1103 : (upd f_1092 (v_1091 : Int32).toNatClampNeg v_1102) = f_1103 at hP hD
        obtain ⟨hP, hD⟩ : vPD G A H [(ce_X10 ob ob_thrown ob_world ob_images ob_hasImage ob_tape ob_taped ob_five ob_size ob_at ob_from ob_token ob_value ob_faultKind ob_faultPlace ob_fresh ob_parts ob_houses ob_houseMany ob_worthOf ob_byCall ob_over ob_bestSet ob_bestOver ob_bestWorth ob_row ob_tenDebts ob_tenMany ob_fewestBy ob_covered ob_queue ob_cameBy ob_parent ob_met ob_calls ob_callMany ob_calledOn ob_saved ob_many ob_width ob_numbers ob_moving), (ce_i9080 y ob_world f_1103), (ce_i27240 y ob_images fob_images), (ce_z3 y ob_hasImage fob_hasImage)] := ⟨hP, hD⟩
        obtain ⟨v_1104, ev_1104⟩ : ∃ z : Int32, z = v_1091 + 1 := ⟨_, rfl⟩
        have qv_1104 := ba_add ev_1104 nc_1099.1 (bkc (x := 1) (c := 1) (by decide)) (by decide)
        have bv_1104 : (1 : Int) ≤ v_1104.toInt ∧ v_1104.toInt ≤ 9080 := bq_add qv_1104 nc_1099.1 (bkc (x := 1) (c := 1) (by decide)) _ _ (by decide)
        have qv_1104 : v_1104.toInt = v_1091.toInt + (1) := qv_1104
        refine lv_iinc (v := v_1104) (lv' := [(2, .int v_1104), (0, .ref ob), (1, .int 2)]) hx hb dX10_back_54 hl (k := 0) rfl (ev_1104.symm) (by decide) rfl (fun ls hl => ?_)
        refine lv_goto (tgt := 29) hx hb dX10_back_57 (by decide) ?_
        exact ih_1098 _ (ml_inc (hi := 9080) hn_1098 qv_1104 (by decide) ((bw (0) (9080) bv_1104 (by decide))).2) _ _ _ _ ⟨v_1104, f_1103, rfl, (bw (0) (9080) bv_1104 (by decide)), (cp_s rl1092_0 hf_1103 ev_1102 ((cl_to (by omega)).trans (by omega)) ((cl_to (by omega)).trans (by omega)) (by omega) (by omega)), rfl, ⟨hP, hD⟩, hS, lv_sub hl [0, 1, 2] rfl⟩
    · skip
      have nc_1007 := nb_eq (0) (0) c_1007 bv_1006 (bkc (x := 0) (c := 0) (by decide)) (by decide)
      refine lv_bipush (v := (-6)) hx hb dX10_back_24 (by decide) ?_
      exact W.iret (v := (-6)) hx hb hr (fun t ht hW => ⟨⟨(-6), _, rfl, ⟨(-6), fob_world, (bw (-6) (0) (bkc (x := (-6)) (c := -6) (by decide)) (by decide)), p_fob_world, rfl, rfl⟩, by rw [ht]; exact hP, hD⟩, hS.F ht⟩) hS.2.2 dX10_back_26
