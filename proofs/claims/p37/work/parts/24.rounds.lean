set_option maxHeartbeats 4000000 in
set_option maxRecDepth 100000 in
theorem sX10_seen (l : Launch) (G : va_G) (y : Nat → ClassId) (sz : Nat) (ob : Nat) (a1 : Int32) (a2 : Int32) (a3 : Int32) (a4 : Int32) (ob_thrown : Int32) (ob_world : Nat) (ob_images : Nat) (ob_hasImage : Nat) (ob_tape : Nat) (ob_taped : Int32) (ob_five : Nat) (ob_size : Int32) (ob_at : Int32) (ob_from : Int32) (ob_token : Int32) (ob_value : Int32) (ob_faultKind : Int32) (ob_faultPlace : Int32) (ob_fresh : Nat) (ob_parts : Nat) (ob_houses : Nat) (ob_houseMany : Int32) (ob_worthOf : Nat) (ob_byCall : Nat) (ob_over : Nat) (ob_bestSet : Int32) (ob_bestOver : Int32) (ob_bestWorth : Int32) (ob_row : Nat) (ob_tenDebts : Nat) (ob_tenMany : Int32) (ob_fewestBy : Nat) (ob_covered : Nat) (ob_queue : Nat) (ob_cameBy : Nat) (ob_parent : Nat) (ob_met : Nat) (ob_calls : Nat) (ob_callMany : Int32) (ob_calledOn : Nat) (ob_saved : Nat) (ob_many : Nat) (ob_width : Nat) (ob_numbers : Nat) (ob_moving : Nat) (fob_world : Nat → Int32) (fob_byCall : Nat → Int32) (p_fob_world : RWw fob_world) (p_ob_taped : (0 : Int) ≤ ob_taped.toInt ∧ ob_taped.toInt ≤ 1400) (p_ob_size : (0 : Int) ≤ ob_size.toInt ∧ ob_size.toInt ≤ 1400) (p_ob_at : (0 : Int) ≤ ob_at.toInt ∧ ob_at.toInt ≤ 1400) (p_ob_from : (0 : Int) ≤ ob_from.toInt ∧ ob_from.toInt ≤ 1400) (p_ob_token : (0 : Int) ≤ ob_token.toInt ∧ ob_token.toInt ≤ 4) (p_ob_value : (0 : Int) ≤ ob_value.toInt ∧ ob_value.toInt ≤ 9999) (p_ob_faultKind : (0 : Int) ≤ ob_faultKind.toInt ∧ ob_faultKind.toInt ≤ 3) (p_ob_houseMany : (0 : Int) ≤ ob_houseMany.toInt ∧ ob_houseMany.toInt ≤ 10) (p_fob_byCall : ∀ i, (0 : Int) ≤ (fob_byCall i).toInt ∧ (fob_byCall i).toInt ≤ 1) (p_ob_bestSet : (0 : Int) ≤ ob_bestSet.toInt ∧ ob_bestSet.toInt ≤ 1023) (p_ob_bestOver : (-1 : Int) ≤ ob_bestOver.toInt ∧ ob_bestOver.toInt ≤ 180) (p_ob_tenMany : (0 : Int) ≤ ob_tenMany.toInt ∧ ob_tenMany.toInt ≤ 10) (p_ob_callMany : (0 : Int) ≤ ob_callMany.toInt ∧ ob_callMany.toInt ≤ 16) (p_a1 : (0 : Int) ≤ a1.toInt ∧ a1.toInt ≤ 15) (p_a2 : (0 : Int) ≤ a2.toInt ∧ a2.toInt ≤ 180) (p_a3 : (0 : Int) ≤ a3.toInt ∧ a3.toInt ≤ 15) (p_a4 : (0 : Int) ≤ a4.toInt ∧ a4.toInt ≤ 405) : Met l yX10_seen (Cond.code yX10_seen cX10_seen 6 (some .int) :: wAll) ({ frames := 2, cells := 0, slots := 0, locals := 44 }) (va_Pc [.ref ob, .int a1, .int a2, .int a3, .int a4] (kp G y sz [(ce_X10 ob ob_thrown ob_world ob_images ob_hasImage ob_tape ob_taped ob_five ob_size ob_at ob_from ob_token ob_value ob_faultKind ob_faultPlace ob_fresh ob_parts ob_houses ob_houseMany ob_worthOf ob_byCall ob_over ob_bestSet ob_bestOver ob_bestWorth ob_row ob_tenDebts ob_tenMany ob_fewestBy ob_covered ob_queue ob_cameBy ob_parent ob_met ob_calls ob_callMany ob_calledOn ob_saved ob_many ob_width ob_numbers ob_moving), (ce_i9080 y ob_world fob_world), (ce_z16 y ob_byCall fob_byCall)])) (va_Qi (fun (r : Int32) (w : va_W) => (∃ (v_65 : Int32), ((-1 : Int) ≤ v_65.toInt ∧ v_65.toInt ≤ 180) ∧ r = v_65 ∧ w = [(ce_X10 ob ob_thrown ob_world ob_images ob_hasImage ob_tape ob_taped ob_five ob_size ob_at ob_from ob_token ob_value ob_faultKind ob_faultPlace ob_fresh ob_parts ob_houses ob_houseMany ob_worthOf ob_byCall ob_over ob_bestSet ob_bestOver ob_bestWorth ob_row ob_tenDebts ob_tenMany ob_fewestBy ob_covered ob_queue ob_cameBy ob_parent ob_met ob_calls ob_callMany ob_calledOn ob_saved ob_many ob_width ob_numbers ob_moving), (ce_i9080 y ob_world fob_world), (ce_z16 y ob_byCall fob_byCall)])) (kq G (va_A [(ce_X10 ob ob_thrown ob_world ob_images ob_hasImage ob_tape ob_taped ob_five ob_size ob_at ob_from ob_token ob_value ob_faultKind ob_faultPlace ob_fresh ob_parts ob_houses ob_houseMany ob_worthOf ob_byCall ob_over ob_bestSet ob_bestOver ob_bestWorth ob_row ob_tenDebts ob_tenMany ob_fewestBy ob_covered ob_queue ob_cameBy ob_parent ob_met ob_calls ob_callMany ob_calledOn ob_saved ob_many ob_width ob_numbers ob_moving), (ce_i9080 y ob_world fob_world), (ce_z16 y ob_byCall fob_byCall)] sz)) (va_A [(ce_X10 ob ob_thrown ob_world ob_images ob_hasImage ob_tape ob_taped ob_five ob_size ob_at ob_from ob_token ob_value ob_faultKind ob_faultPlace ob_fresh ob_parts ob_houses ob_houseMany ob_worthOf ob_byCall ob_over ob_bestSet ob_bestOver ob_bestWorth ob_row ob_tenDebts ob_tenMany ob_fewestBy ob_covered ob_queue ob_cameBy ob_parent ob_met ob_calls ob_callMany ob_calledOn ob_saved ob_many ob_width ob_numbers ob_moving), (ce_i9080 y ob_world fob_world), (ce_z16 y ob_byCall fob_byCall)] sz)) 0 0 (va_A [(ce_X10 ob ob_thrown ob_world ob_images ob_hasImage ob_tape ob_taped ob_five ob_size ob_at ob_from ob_token ob_value ob_faultKind ob_faultPlace ob_fresh ob_parts ob_houses ob_houseMany ob_worthOf ob_byCall ob_over ob_bestSet ob_bestOver ob_bestWorth ob_row ob_tenDebts ob_tenMany ob_fewestBy ob_covered ob_queue ob_cameBy ob_parent ob_met ob_calls ob_callMany ob_calledOn ob_saved ob_many ob_width ob_numbers ob_moving), (ce_i9080 y ob_world fob_world), (ce_z16 y ob_byCall fob_byCall)] sz) := by
  refine Met.ofW (cc := cX10_seen) (maxL := 6) (ret := (some .int)) (by decide) rfl ?_
  intro p e s m args below meth c s₁ B hml hv
  obtain ⟨rfl, hsz, hP, hK, hD0⟩ := hv
  have hx := B.exec
  have hb := B.bytes
  have hr := B.returns
  have hw0 : ∀ w ∈ wAll, w.before _ s = true := fun w h => atoms_spec (ws := Cond.code yX10_seen cX10_seen 6 (some .int) :: wAll) B.pre w (List.mem_cons_of_mem _ h)
  have hown : s.vm.findClass RX10 = some m.cls := findClass_of_methodNamed B.named
  subst hsz
  have hD := hD0.self (sz := s.heap.size)
  generalize hAe : va_A [(ce_X10 ob ob_thrown ob_world ob_images ob_hasImage ob_tape ob_taped ob_five ob_size ob_at ob_from ob_token ob_value ob_faultKind ob_faultPlace ob_fresh ob_parts ob_houses ob_houseMany ob_worthOf ob_byCall ob_over ob_bestSet ob_bestOver ob_bestWorth ob_row ob_tenDebts ob_tenMany ob_fewestBy ob_covered ob_queue ob_cameBy ob_parent ob_met ob_calls ob_callMany ob_calledOn ob_saved ob_many ob_width ob_numbers ob_moving), (ce_i9080 y ob_world fob_world), (ce_z16 y ob_byCall fob_byCall)] s.heap.size = A at hD ⊢
  have hA : ∀ q : Nat, s.heap.size ≤ q → A q := fun q h => by rw [← hAe]; exact Or.inr h
  have hS : va_S A s.heap s.heap [] := va_S.rf
  have hP : va_P G vwCl [(ce_X10 ob ob_thrown ob_world ob_images ob_hasImage ob_tape ob_taped ob_five ob_size ob_at ob_from ob_token ob_value ob_faultKind ob_faultPlace ob_fresh ob_parts ob_houses ob_houseMany ob_worthOf ob_byCall ob_over ob_bestSet ob_bestOver ob_bestWorth ob_row ob_tenDebts ob_tenMany ob_fewestBy ob_covered ob_queue ob_cameBy ob_parent ob_met ob_calls ob_callMany ob_calledOn ob_saved ob_many ob_width ob_numbers ob_moving), (ce_i9080 y ob_world fob_world), (ce_z16 y ob_byCall fob_byCall)] s.heap := hP
  have hl := lv_entry ([.ref ob, .int a1, .int a2, .int a3, .int a4]) (n := 6) (Nat.le_of_ble_eq_true rfl)
  rw [lg_entry_eq]
  generalize (lg_sl ([.ref ob, .int a1, .int a2, .int a3, .int a4]) ++ List.replicate (6 - (lg_sl ([.ref ob, .int a1, .int a2, .int a3, .int a4])).length) Slot.unset).toArray = ls at hl ⊢
  have hl : lv_has ls 6 [(0, .ref ob), (1, .int a1), (2, .int a2), (3, .int a3), (4, .int a4)] := hl
  refine lv_iload_n hx hb dX10_seen_0 rfl (lv_at hl 2 rfl) ?_
  refine lv_aload_n hx hb dX10_seen_1 rfl (lv_at hl 0 rfl) ?_
  refine lv_iload_n hx hb dX10_seen_2 rfl (lv_at hl 1 rfl) ?_
  refine lv_iload_n hx hb dX10_seen_3 rfl (lv_at hl 3 rfl) ?_
  refine cVim (As := [.int a1, .int a3]) (rest := [.int a2]) ⟨hx, hb, hml, hown, hw0⟩ hA hK hP hD hS [true, true] (sX10_minutes l G y _ ob a1 a3 ob_thrown ob_world ob_images ob_hasImage ob_tape ob_taped ob_five ob_size ob_at ob_from ob_token ob_value ob_faultKind ob_faultPlace ob_fresh ob_parts ob_houses ob_houseMany ob_worthOf ob_byCall ob_over ob_bestSet ob_bestOver ob_bestWorth ob_row ob_tenDebts ob_tenMany ob_fewestBy ob_covered ob_queue ob_cameBy ob_parent ob_met ob_calls ob_callMany ob_calledOn ob_saved ob_many ob_width ob_numbers ob_moving fob_world p_fob_world p_ob_taped p_ob_size p_ob_at p_ob_from p_ob_token p_ob_value p_ob_faultKind p_ob_houseMany p_ob_bestSet p_ob_bestOver p_ob_tenMany p_ob_callMany p_a1 p_a3) rfl ⟨(callB_of 2 hw0 (gA m_560) rfl rfl rfl (hw0 _ m_41) (hw0 _ m_671) cb_X10_minutes ⟨Nat.le_of_ble_eq_true rfl, Nat.le_of_ble_eq_true rfl⟩), (hw0 _ m_672), (hw0 _ m_673)⟩ (ci := 10) (q := (RX10, TX10, 41)) rfl rfl rfl hl.1 (Nat.le_of_ble_eq_true rfl) dX10_seen_4 ⟨Nat.le_of_ble_eq_true rfl, Nat.le_of_ble_eq_true rfl⟩ (fun r_1001 w_1001 H locs hw_1001 hP hD hS => ?_)
  obtain ⟨v_1002, bv_1002, er_1001, rfl⟩ := hw_1001
  subst r_1001
  obtain ⟨hP, hD⟩ : vPD G A H [(ce_X10 ob ob_thrown ob_world ob_images ob_hasImage ob_tape ob_taped ob_five ob_size ob_at ob_from ob_token ob_value ob_faultKind ob_faultPlace ob_fresh ob_parts ob_houses ob_houseMany ob_worthOf ob_byCall ob_over ob_bestSet ob_bestOver ob_bestWorth ob_row ob_tenDebts ob_tenMany ob_fewestBy ob_covered ob_queue ob_cameBy ob_parent ob_met ob_calls ob_callMany ob_calledOn ob_saved ob_many ob_width ob_numbers ob_moving), (ce_i9080 y ob_world fob_world), (ce_z16 y ob_byCall fob_byCall)] := ⟨hP, hD⟩
  refine lv_iadd hx hb dX10_seen_7 ?_
  refine lv_topi (fun v_1003 ev_1003 => ?_)
  have qv_1003 := ba_add ev_1003 p_a2 bv_1002 (by decide)
  have bv_1003 : (0 : Int) ≤ v_1003.toInt ∧ v_1003.toInt ≤ 378 := bq_add qv_1003 p_a2 bv_1002 _ _ (by decide)
  refine lv_istore (lv' := [(5, .int v_1003), (0, .ref ob), (1, .int a1), (2, .int a2), (3, .int a3), (4, .int a4)]) hx hb dX10_seen_8 hl (by decide) rfl (fun ls hl => ?_)
  refine lv_aload_n hx hb dX10_seen_10 rfl (lv_at hl 1 rfl) ?_
  refine va_get (D := G) (ci := 10) (v := .ref ob_byCall) (C := RX10) (T := TX10) (N := 41) hx hb hw0 inA_wsX100 hown hK.1 hP 0 rfl rfl 19 (by decide) (hw0 _ m_523) (fun _ h9 => h9) rfl dX10_seen_11 ?_
  refine lv_iload_n hx hb dX10_seen_14 rfl (lv_at hl 4 rfl) ?_
  refine va_zald hx hb hK.1 hP 2 3 rfl rfl (vi p_a3 (by decide)) dX10_seen_15 ?_
  refine lv_topi (fun v_1004 ev_1004 => ?_)
  have bv_1004 : (0 : Int) ≤ v_1004.toInt ∧ v_1004.toInt ≤ 1 := rd_b ev_1004 p_fob_byCall
  refine cutW 64 (fun H locs ls st => ∃ (v_1018 : Int32), ((0 : Int) ≤ v_1018.toInt ∧ v_1018.toInt ≤ 378) ∧ st = [] ∧ vPD G A H [(ce_X10 ob ob_thrown ob_world ob_images ob_hasImage ob_tape ob_taped ob_five ob_size ob_at ob_from ob_token ob_value ob_faultKind ob_faultPlace ob_fresh ob_parts ob_houses ob_houseMany ob_worthOf ob_byCall ob_over ob_bestSet ob_bestOver ob_bestWorth ob_row ob_tenDebts ob_tenMany ob_fewestBy ob_covered ob_queue ob_cameBy ob_parent ob_met ob_calls ob_callMany ob_calledOn ob_saved ob_many ob_width ob_numbers ob_moving), (ce_i9080 y ob_world fob_world), (ce_z16 y ob_byCall fob_byCall)] ∧ va_S A s.heap H locs ∧ lv_has ls 6 [(5, .int v_1018)]) ?_ (fun J_64_1018 => ?_)
  · rintro H locs ls st ⟨v_1018, bv_1018, rfl, ⟨hP, hD⟩, hS, hl⟩
    refine lv_iload hx hb dX10_seen_64 (lv_at hl 0 rfl) ?_
    refine lv_sipush (v := 180) hx hb dX10_seen_66 (by decide) ?_
    refine lv_icmp_le (tgt := 76) hx hb dX10_seen_69 (by decide) (fun c_1019 => ?_) (fun c_1019 => ?_)
    · skip
      have nc_1019 := nb_le (180) (180) c_1019 bv_1018 (bkc (x := 180) (c := 180) (by decide)) (by decide)
      refine lv_iload hx hb dX10_seen_76 (lv_at hl 0 rfl) ?_
      exact W.iret (v := v_1018) hx hb hr (fun t ht hW => ⟨⟨v_1018, _, rfl, ⟨v_1018, (bw (-1) (180) nc_1019.1 (by decide)), rfl, rfl⟩, by rw [ht]; exact hP, hD⟩, hS.F ht⟩) hS.2.2 dX10_seen_78
    · skip
      have nc_1019 := nb_nle (180) (181) c_1019 (bkc (x := 180) (c := 180) (by decide)) bv_1018 (by decide)
      refine lv_iconst (v := (-1)) hx hb dX10_seen_72 (by decide) ?_
      refine lv_goto (tgt := 78) hx hb dX10_seen_73 (by decide) ?_
      exact W.iret (v := (-1)) hx hb hr (fun t ht hW => ⟨⟨(-1), _, rfl, ⟨(-1), (bw (-1) (180) (bkc (x := (-1)) (c := -1) (by decide)) (by decide)), rfl, rfl⟩, by rw [ht]; exact hP, hD⟩, hS.F ht⟩) hS.2.2 dX10_seen_78
  · skip
    refine lv_if_eq (tgt := 64) hx hb dX10_seen_16 (by decide) (fun c_1020 => ?_) (fun c_1020 => ?_)
    · skip
      have nc_1020 := nb_eq (0) (0) c_1020 bv_1004 (bkc (x := 0) (c := 0) (by decide)) (by decide)
      exact J_64_1018 _ _ _ _ ⟨v_1003, bv_1003, rfl, ⟨hP, hD⟩, hS, lv_sub hl [0] rfl⟩
    · skip
      have nc_1020 := nb_ne (1) (1) c_1020 bv_1004 (k := 0) (by decide) (by decide)
      refine lv_iload hx hb dX10_seen_19 (lv_at hl 5 rfl) ?_
      refine lv_bipush (v := 7) hx hb dX10_seen_21 (by decide) ?_
      refine lv_irem hx hb dX10_seen_23 (by decide) ?_
      refine lv_topi (fun v_1021 ev_1021 => ?_)
      have bv_1021 : (0 : Int) ≤ v_1021.toInt ∧ v_1021.toInt ≤ 6 := ba_rem 7 ev_1021 p_a4 (by decide) (by decide) (by decide)
      refine lv_aload_n hx hb dX10_seen_24 rfl (lv_at hl 1 rfl) ?_
      refine lv_iload_n hx hb dX10_seen_25 rfl (lv_at hl 4 rfl) ?_
      refine lv_iconst (v := 3) hx hb dX10_seen_26 (by decide) ?_
      refine cVim (As := [.int a3, .int 3]) (rest := [.int v_1021]) ⟨hx, hb, hml, hown, hw0⟩ hA hK hP hD hS [true, true] (sofHouse3 l G y _ ob a3 ob_thrown ob_world ob_images ob_hasImage ob_tape ob_taped ob_five ob_size ob_at ob_from ob_token ob_value ob_faultKind ob_faultPlace ob_fresh ob_parts ob_houses ob_houseMany ob_worthOf ob_byCall ob_over ob_bestSet ob_bestOver ob_bestWorth ob_row ob_tenDebts ob_tenMany ob_fewestBy ob_covered ob_queue ob_cameBy ob_parent ob_met ob_calls ob_callMany ob_calledOn ob_saved ob_many ob_width ob_numbers ob_moving fob_world p_fob_world p_ob_taped p_ob_size p_ob_at p_ob_from p_ob_token p_ob_value p_ob_faultKind p_ob_houseMany p_ob_bestSet p_ob_bestOver p_ob_tenMany p_ob_callMany p_a3) rfl ⟨(callB_of 2 hw0 (gA m_577) rfl rfl rfl (hw0 _ m_41) (hw0 _ m_388) cb_X10_ofHouse ⟨Nat.le_of_ble_eq_true rfl, Nat.le_of_ble_eq_true rfl⟩), (hw0 _ m_389), (hw0 _ m_390)⟩ (ci := 10) (q := (RX10, TX10, 41)) rfl rfl rfl hl.1 (Nat.le_of_ble_eq_true rfl) dX10_seen_27 ⟨Nat.le_of_ble_eq_true rfl, Nat.le_of_ble_eq_true rfl⟩ (fun r_1022 w_1022 H locs hw_1022 hP hD hS => ?_)
      obtain ⟨v_1023, bv_1023, er_1022, rfl⟩ := hw_1022
      subst r_1022
      obtain ⟨hP, hD⟩ : vPD G A H [(ce_X10 ob ob_thrown ob_world ob_images ob_hasImage ob_tape ob_taped ob_five ob_size ob_at ob_from ob_token ob_value ob_faultKind ob_faultPlace ob_fresh ob_parts ob_houses ob_houseMany ob_worthOf ob_byCall ob_over ob_bestSet ob_bestOver ob_bestWorth ob_row ob_tenDebts ob_tenMany ob_fewestBy ob_covered ob_queue ob_cameBy ob_parent ob_met ob_calls ob_callMany ob_calledOn ob_saved ob_many ob_width ob_numbers ob_moving), (ce_i9080 y ob_world fob_world), (ce_z16 y ob_byCall fob_byCall)] := ⟨hP, hD⟩
      refine lv_icmp_eq (tgt := 35) hx hb dX10_seen_30 (by decide) (fun c_1024 => ?_) (fun c_1024 => ?_)
      · skip
        have nc_1024 := nb_eq (0) (6) c_1024 bv_1021 bv_1023 (by decide)
        refine lv_iload hx hb dX10_seen_35 (lv_at hl 0 rfl) ?_
        refine lv_aload_n hx hb dX10_seen_37 rfl (lv_at hl 1 rfl) ?_
        refine lv_iload_n hx hb dX10_seen_38 rfl (lv_at hl 4 rfl) ?_
        refine lv_iconst (v := 4) hx hb dX10_seen_39 (by decide) ?_
        refine cVim (As := [.int a3, .int 4]) (rest := [.int v_1003]) ⟨hx, hb, hml, hown, hw0⟩ hA hK hP hD hS [true, true] (sofHouse4 l G y _ ob a3 ob_thrown ob_world ob_images ob_hasImage ob_tape ob_taped ob_five ob_size ob_at ob_from ob_token ob_value ob_faultKind ob_faultPlace ob_fresh ob_parts ob_houses ob_houseMany ob_worthOf ob_byCall ob_over ob_bestSet ob_bestOver ob_bestWorth ob_row ob_tenDebts ob_tenMany ob_fewestBy ob_covered ob_queue ob_cameBy ob_parent ob_met ob_calls ob_callMany ob_calledOn ob_saved ob_many ob_width ob_numbers ob_moving fob_world p_fob_world p_ob_taped p_ob_size p_ob_at p_ob_from p_ob_token p_ob_value p_ob_faultKind p_ob_houseMany p_ob_bestSet p_ob_bestOver p_ob_tenMany p_ob_callMany p_a3) rfl ⟨(callB_of 2 hw0 (gA m_577) rfl rfl rfl (hw0 _ m_41) (hw0 _ m_388) cb_X10_ofHouse ⟨Nat.le_of_ble_eq_true rfl, Nat.le_of_ble_eq_true rfl⟩), (hw0 _ m_389), (hw0 _ m_390)⟩ (ci := 10) (q := (RX10, TX10, 41)) rfl rfl rfl hl.1 (Nat.le_of_ble_eq_true rfl) dX10_seen_40 ⟨Nat.le_of_ble_eq_true rfl, Nat.le_of_ble_eq_true rfl⟩ (fun r_1025 w_1025 H locs hw_1025 hP hD hS => ?_)
        obtain ⟨v_1026, bv_1026, er_1025, rfl⟩ := hw_1025
        subst r_1025
        obtain ⟨hP, hD⟩ : vPD G A H [(ce_X10 ob ob_thrown ob_world ob_images ob_hasImage ob_tape ob_taped ob_five ob_size ob_at ob_from ob_token ob_value ob_faultKind ob_faultPlace ob_fresh ob_parts ob_houses ob_houseMany ob_worthOf ob_byCall ob_over ob_bestSet ob_bestOver ob_bestWorth ob_row ob_tenDebts ob_tenMany ob_fewestBy ob_covered ob_queue ob_cameBy ob_parent ob_met ob_calls ob_callMany ob_calledOn ob_saved ob_many ob_width ob_numbers ob_moving), (ce_i9080 y ob_world fob_world), (ce_z16 y ob_byCall fob_byCall)] := ⟨hP, hD⟩
        refine va_mmax (own := RX10) hx hb (by rw [hml]; exact hl.1.symm) hown (hw0 _ m_674) (hw0 _ m_675) (hw0 _ m_283) (hw0 _ m_676) (Nat.le_of_ble_eq_true rfl) (Nat.le_of_ble_eq_true rfl) (Nat.zero_le _) (Nat.zero_le _) dX10_seen_43 ?_
        refine lv_topi (fun v_1027 ev_1027 => ?_)
        have bv_1027 : (0 : Int) ≤ v_1027.toInt ∧ v_1027.toInt ≤ 378 := bm_max ev_1027 bv_1003 bv_1026 _ _ (by decide)
        refine lv_bipush (v := 15) hx hb dX10_seen_46 (by decide) ?_
        refine lv_iadd hx hb dX10_seen_48 ?_
        refine lv_topi (fun v_1028 ev_1028 => ?_)
        have qv_1028 := ba_add ev_1028 bv_1027 (bkc (x := 15) (c := 15) (by decide)) (by decide)
        have bv_1028 : (15 : Int) ≤ v_1028.toInt ∧ v_1028.toInt ≤ 393 := bq_add qv_1028 bv_1027 (bkc (x := 15) (c := 15) (by decide)) _ _ (by decide)
        have qv_1028 : v_1028.toInt = v_1027.toInt + (15) := qv_1028
        refine lv_istore (lv' := [(5, .int v_1028), (0, .ref ob), (1, .int a1), (2, .int a2), (3, .int a3), (4, .int a4)]) hx hb dX10_seen_49 hl (by decide) rfl (fun ls hl => ?_)
        refine lv_iload hx hb dX10_seen_51 (lv_at hl 0 rfl) ?_
        refine lv_aload_n hx hb dX10_seen_53 rfl (lv_at hl 1 rfl) ?_
        refine lv_iload_n hx hb dX10_seen_54 rfl (lv_at hl 4 rfl) ?_
        refine lv_iconst (v := 5) hx hb dX10_seen_55 (by decide) ?_
        refine cVim (As := [.int a3, .int 5]) (rest := [.int v_1028]) ⟨hx, hb, hml, hown, hw0⟩ hA hK hP hD hS [true, true] (sofHouse5 l G y _ ob a3 ob_thrown ob_world ob_images ob_hasImage ob_tape ob_taped ob_five ob_size ob_at ob_from ob_token ob_value ob_faultKind ob_faultPlace ob_fresh ob_parts ob_houses ob_houseMany ob_worthOf ob_byCall ob_over ob_bestSet ob_bestOver ob_bestWorth ob_row ob_tenDebts ob_tenMany ob_fewestBy ob_covered ob_queue ob_cameBy ob_parent ob_met ob_calls ob_callMany ob_calledOn ob_saved ob_many ob_width ob_numbers ob_moving fob_world p_fob_world p_ob_taped p_ob_size p_ob_at p_ob_from p_ob_token p_ob_value p_ob_faultKind p_ob_houseMany p_ob_bestSet p_ob_bestOver p_ob_tenMany p_ob_callMany p_a3) rfl ⟨(callB_of 2 hw0 (gA m_577) rfl rfl rfl (hw0 _ m_41) (hw0 _ m_388) cb_X10_ofHouse ⟨Nat.le_of_ble_eq_true rfl, Nat.le_of_ble_eq_true rfl⟩), (hw0 _ m_389), (hw0 _ m_390)⟩ (ci := 10) (q := (RX10, TX10, 41)) rfl rfl rfl hl.1 (Nat.le_of_ble_eq_true rfl) dX10_seen_56 ⟨Nat.le_of_ble_eq_true rfl, Nat.le_of_ble_eq_true rfl⟩ (fun r_1029 w_1029 H locs hw_1029 hP hD hS => ?_)
        obtain ⟨v_1030, bv_1030, er_1029, rfl⟩ := hw_1029
        subst r_1029
        obtain ⟨hP, hD⟩ : vPD G A H [(ce_X10 ob ob_thrown ob_world ob_images ob_hasImage ob_tape ob_taped ob_five ob_size ob_at ob_from ob_token ob_value ob_faultKind ob_faultPlace ob_fresh ob_parts ob_houses ob_houseMany ob_worthOf ob_byCall ob_over ob_bestSet ob_bestOver ob_bestWorth ob_row ob_tenDebts ob_tenMany ob_fewestBy ob_covered ob_queue ob_cameBy ob_parent ob_met ob_calls ob_callMany ob_calledOn ob_saved ob_many ob_width ob_numbers ob_moving), (ce_i9080 y ob_world fob_world), (ce_z16 y ob_byCall fob_byCall)] := ⟨hP, hD⟩
        refine lv_icmp_le (tgt := 64) hx hb dX10_seen_59 (by decide) (fun c_1031 => ?_) (fun c_1031 => ?_)
        · skip
          have nc_1031 := nb_le (180) (15) c_1031 bv_1028 bv_1030 (by decide)
          have h_1032 : (0 : Int) ≤ v_1027.toInt ∧ v_1027.toInt ≤ 165 := bq_in1 qv_1028 nc_1031.1 bv_1027 (bkc (x := 15) (c := 15) (by decide)) (by decide)
          exact J_64_1018 _ _ _ _ ⟨v_1028, (bw (0) (378) nc_1031.1 (by decide)), rfl, ⟨hP, hD⟩, hS, lv_sub hl [0] rfl⟩
        · skip
          have nc_1031 := nb_nle (180) (15) c_1031 bv_1030 bv_1028 (by decide)
          refine lv_iconst (v := (-1)) hx hb dX10_seen_62 (by decide) ?_
          exact W.iret (v := (-1)) hx hb hr (fun t ht hW => ⟨⟨(-1), _, rfl, ⟨(-1), (bw (-1) (180) (bkc (x := (-1)) (c := -1) (by decide)) (by decide)), rfl, rfl⟩, by rw [ht]; exact hP, hD⟩, hS.F ht⟩) hS.2.2 dX10_seen_63
      · skip
        refine lv_iconst (v := (-1)) hx hb dX10_seen_33 (by decide) ?_
        exact W.iret (v := (-1)) hx hb hr (fun t ht hW => ⟨⟨(-1), _, rfl, ⟨(-1), (bw (-1) (180) (bkc (x := (-1)) (c := -1) (by decide)) (by decide)), rfl, rfl⟩, by rw [ht]; exact hP, hD⟩, hS.F ht⟩) hS.2.2 dX10_seen_34

set_option maxHeartbeats 4000000 in
set_option maxRecDepth 100000 in
theorem sX10_goesThrough (l : Launch) (G : va_G) (y : Nat → ClassId) (sz : Nat) (ob : Nat) (a1 : Int32) (a2 : Int32) (a3 : Int32) (a4 : Int32) (ob_thrown : Int32) (ob_world : Nat) (ob_images : Nat) (ob_hasImage : Nat) (ob_tape : Nat) (ob_taped : Int32) (ob_five : Nat) (ob_size : Int32) (ob_at : Int32) (ob_from : Int32) (ob_token : Int32) (ob_value : Int32) (ob_faultKind : Int32) (ob_faultPlace : Int32) (ob_fresh : Nat) (ob_parts : Nat) (ob_houses : Nat) (ob_houseMany : Int32) (ob_worthOf : Nat) (ob_byCall : Nat) (ob_over : Nat) (ob_bestSet : Int32) (ob_bestOver : Int32) (ob_bestWorth : Int32) (ob_row : Nat) (ob_tenDebts : Nat) (ob_tenMany : Int32) (ob_fewestBy : Nat) (ob_covered : Nat) (ob_queue : Nat) (ob_cameBy : Nat) (ob_parent : Nat) (ob_met : Nat) (ob_calls : Nat) (ob_callMany : Int32) (ob_calledOn : Nat) (ob_saved : Nat) (ob_many : Nat) (ob_width : Nat) (ob_numbers : Nat) (ob_moving : Nat) (fob_world : Nat → Int32) (fob_houses : Nat → Int32) (fob_byCall : Nat → Int32) (fob_over : Nat → Int32) (p_fob_world : RWw fob_world) (p_ob_taped : (0 : Int) ≤ ob_taped.toInt ∧ ob_taped.toInt ≤ 1400) (p_ob_size : (0 : Int) ≤ ob_size.toInt ∧ ob_size.toInt ≤ 1400) (p_ob_at : (0 : Int) ≤ ob_at.toInt ∧ ob_at.toInt ≤ 1400) (p_ob_from : (0 : Int) ≤ ob_from.toInt ∧ ob_from.toInt ≤ 1400) (p_ob_token : (0 : Int) ≤ ob_token.toInt ∧ ob_token.toInt ≤ 4) (p_ob_value : (0 : Int) ≤ ob_value.toInt ∧ ob_value.toInt ≤ 9999) (p_ob_faultKind : (0 : Int) ≤ ob_faultKind.toInt ∧ ob_faultKind.toInt ≤ 3) (p_fob_houses : ∀ i, (0 : Int) ≤ (fob_houses i).toInt ∧ (fob_houses i).toInt ≤ 15) (p_ob_houseMany : (0 : Int) ≤ ob_houseMany.toInt ∧ ob_houseMany.toInt ≤ 10) (p_fob_byCall : ∀ i, (0 : Int) ≤ (fob_byCall i).toInt ∧ (fob_byCall i).toInt ≤ 1) (p_fob_over : ∀ i, (-1 : Int) ≤ (fob_over i).toInt ∧ (fob_over i).toInt ≤ 180) (p_ob_bestSet : (0 : Int) ≤ ob_bestSet.toInt ∧ ob_bestSet.toInt ≤ 1023) (p_ob_bestOver : (-1 : Int) ≤ ob_bestOver.toInt ∧ ob_bestOver.toInt ≤ 180) (p_ob_tenMany : (0 : Int) ≤ ob_tenMany.toInt ∧ ob_tenMany.toInt ≤ 10) (p_ob_callMany : (0 : Int) ≤ ob_callMany.toInt ∧ ob_callMany.toInt ≤ 16) (p_a1 : (0 : Int) ≤ a1.toInt ∧ a1.toInt ≤ 15) (p_a2 : (0 : Int) ≤ a2.toInt ∧ a2.toInt ≤ 180) (p_a3 : (0 : Int) ≤ a3.toInt ∧ a3.toInt ≤ 1023) (p_a4 : (0 : Int) ≤ a4.toInt ∧ a4.toInt ≤ 405) : Met l yX10_goesThrough (Cond.code yX10_goesThrough cX10_goesThrough 11 none :: wAll) ({ frames := 3, cells := 0, slots := 0, locals := 69 }) (va_Pc [.ref ob, .int a1, .int a2, .int a3, .int a4] (kp G y sz [(ce_X10 ob ob_thrown ob_world ob_images ob_hasImage ob_tape ob_taped ob_five ob_size ob_at ob_from ob_token ob_value ob_faultKind ob_faultPlace ob_fresh ob_parts ob_houses ob_houseMany ob_worthOf ob_byCall ob_over ob_bestSet ob_bestOver ob_bestWorth ob_row ob_tenDebts ob_tenMany ob_fewestBy ob_covered ob_queue ob_cameBy ob_parent ob_met ob_calls ob_callMany ob_calledOn ob_saved ob_many ob_width ob_numbers ob_moving), (ce_i9080 y ob_world fob_world), (ce_i16 y ob_houses fob_houses), (ce_z16 y ob_byCall fob_byCall), (ce_i10240 y ob_over fob_over)])) (va_Qv (fun (w : va_W) => (∃ (f_4891 : Nat → Int32), (∀ i, (-1 : Int) ≤ (f_4891 i).toInt ∧ (f_4891 i).toInt ≤ 180) ∧ w = [(ce_X10 ob ob_thrown ob_world ob_images ob_hasImage ob_tape ob_taped ob_five ob_size ob_at ob_from ob_token ob_value ob_faultKind ob_faultPlace ob_fresh ob_parts ob_houses ob_houseMany ob_worthOf ob_byCall ob_over ob_bestSet ob_bestOver ob_bestWorth ob_row ob_tenDebts ob_tenMany ob_fewestBy ob_covered ob_queue ob_cameBy ob_parent ob_met ob_calls ob_callMany ob_calledOn ob_saved ob_many ob_width ob_numbers ob_moving), (ce_i9080 y ob_world fob_world), (ce_i16 y ob_houses fob_houses), (ce_z16 y ob_byCall fob_byCall), (ce_i10240 y ob_over f_4891)])) (kq G (va_A [(ce_X10 ob ob_thrown ob_world ob_images ob_hasImage ob_tape ob_taped ob_five ob_size ob_at ob_from ob_token ob_value ob_faultKind ob_faultPlace ob_fresh ob_parts ob_houses ob_houseMany ob_worthOf ob_byCall ob_over ob_bestSet ob_bestOver ob_bestWorth ob_row ob_tenDebts ob_tenMany ob_fewestBy ob_covered ob_queue ob_cameBy ob_parent ob_met ob_calls ob_callMany ob_calledOn ob_saved ob_many ob_width ob_numbers ob_moving), (ce_i9080 y ob_world fob_world), (ce_i16 y ob_houses fob_houses), (ce_z16 y ob_byCall fob_byCall), (ce_i10240 y ob_over fob_over)] sz)) (va_A [(ce_X10 ob ob_thrown ob_world ob_images ob_hasImage ob_tape ob_taped ob_five ob_size ob_at ob_from ob_token ob_value ob_faultKind ob_faultPlace ob_fresh ob_parts ob_houses ob_houseMany ob_worthOf ob_byCall ob_over ob_bestSet ob_bestOver ob_bestWorth ob_row ob_tenDebts ob_tenMany ob_fewestBy ob_covered ob_queue ob_cameBy ob_parent ob_met ob_calls ob_callMany ob_calledOn ob_saved ob_many ob_width ob_numbers ob_moving), (ce_i9080 y ob_world fob_world), (ce_i16 y ob_houses fob_houses), (ce_z16 y ob_byCall fob_byCall), (ce_i10240 y ob_over fob_over)] sz)) 0 0 (va_A [(ce_X10 ob ob_thrown ob_world ob_images ob_hasImage ob_tape ob_taped ob_five ob_size ob_at ob_from ob_token ob_value ob_faultKind ob_faultPlace ob_fresh ob_parts ob_houses ob_houseMany ob_worthOf ob_byCall ob_over ob_bestSet ob_bestOver ob_bestWorth ob_row ob_tenDebts ob_tenMany ob_fewestBy ob_covered ob_queue ob_cameBy ob_parent ob_met ob_calls ob_callMany ob_calledOn ob_saved ob_many ob_width ob_numbers ob_moving), (ce_i9080 y ob_world fob_world), (ce_i16 y ob_houses fob_houses), (ce_z16 y ob_byCall fob_byCall), (ce_i10240 y ob_over fob_over)] sz) := by
  refine Met.ofW (cc := cX10_goesThrough) (maxL := 11) (ret := none) (by decide) rfl ?_
  intro p e s m args below meth c s₁ B hml hv
  obtain ⟨rfl, hsz, hP, hK, hD0⟩ := hv
  have hx := B.exec
  have hb := B.bytes
  have hr := B.returns
  have hw0 : ∀ w ∈ wAll, w.before _ s = true := fun w h => atoms_spec (ws := Cond.code yX10_goesThrough cX10_goesThrough 11 none :: wAll) B.pre w (List.mem_cons_of_mem _ h)
  have hown : s.vm.findClass RX10 = some m.cls := findClass_of_methodNamed B.named
  subst hsz
  have hD := hD0.self (sz := s.heap.size)
  generalize hAe : va_A [(ce_X10 ob ob_thrown ob_world ob_images ob_hasImage ob_tape ob_taped ob_five ob_size ob_at ob_from ob_token ob_value ob_faultKind ob_faultPlace ob_fresh ob_parts ob_houses ob_houseMany ob_worthOf ob_byCall ob_over ob_bestSet ob_bestOver ob_bestWorth ob_row ob_tenDebts ob_tenMany ob_fewestBy ob_covered ob_queue ob_cameBy ob_parent ob_met ob_calls ob_callMany ob_calledOn ob_saved ob_many ob_width ob_numbers ob_moving), (ce_i9080 y ob_world fob_world), (ce_i16 y ob_houses fob_houses), (ce_z16 y ob_byCall fob_byCall), (ce_i10240 y ob_over fob_over)] s.heap.size = A at hD ⊢
  have hA : ∀ q : Nat, s.heap.size ≤ q → A q := fun q h => by rw [← hAe]; exact Or.inr h
  have hS : va_S A s.heap s.heap [] := va_S.rf
  have hP : va_P G vwCl [(ce_X10 ob ob_thrown ob_world ob_images ob_hasImage ob_tape ob_taped ob_five ob_size ob_at ob_from ob_token ob_value ob_faultKind ob_faultPlace ob_fresh ob_parts ob_houses ob_houseMany ob_worthOf ob_byCall ob_over ob_bestSet ob_bestOver ob_bestWorth ob_row ob_tenDebts ob_tenMany ob_fewestBy ob_covered ob_queue ob_cameBy ob_parent ob_met ob_calls ob_callMany ob_calledOn ob_saved ob_many ob_width ob_numbers ob_moving), (ce_i9080 y ob_world fob_world), (ce_i16 y ob_houses fob_houses), (ce_z16 y ob_byCall fob_byCall), (ce_i10240 y ob_over fob_over)] s.heap := hP
  have hl := lv_entry ([.ref ob, .int a1, .int a2, .int a3, .int a4]) (n := 11) (Nat.le_of_ble_eq_true rfl)
  rw [lg_entry_eq]
  generalize (lg_sl ([.ref ob, .int a1, .int a2, .int a3, .int a4]) ++ List.replicate (11 - (lg_sl ([.ref ob, .int a1, .int a2, .int a3, .int a4])).length) Slot.unset).toArray = ls at hl ⊢
  have hl : lv_has ls 11 [(0, .ref ob), (1, .int a1), (2, .int a2), (3, .int a3), (4, .int a4)] := hl
  refine lv_iconst (v := 1) hx hb dX10_goesThrough_0 (by decide) ?_
  refine lv_istore (lv' := [(5, .int 1), (0, .ref ob), (1, .int a1), (2, .int a2), (3, .int a3), (4, .int a4)]) hx hb dX10_goesThrough_1 hl (by decide) rfl (fun ls hl => ?_)
  refine loopX (fun n H locs ls st => ∃ (v_1632 : Int32) (f_1633 : Nat → Int32), (1024 - v_1632.toInt).toNat = n ∧ ((1 : Int) ≤ v_1632.toInt ∧ v_1632.toInt ≤ 1024) ∧ (∀ i, (-1 : Int) ≤ (f_1633 i).toInt ∧ (f_1633 i).toInt ≤ 180) ∧ st = [] ∧ vPD G A H [(ce_X10 ob ob_thrown ob_world ob_images ob_hasImage ob_tape ob_taped ob_five ob_size ob_at ob_from ob_token ob_value ob_faultKind ob_faultPlace ob_fresh ob_parts ob_houses ob_houseMany ob_worthOf ob_byCall ob_over ob_bestSet ob_bestOver ob_bestWorth ob_row ob_tenDebts ob_tenMany ob_fewestBy ob_covered ob_queue ob_cameBy ob_parent ob_met ob_calls ob_callMany ob_calledOn ob_saved ob_many ob_width ob_numbers ob_moving), (ce_i9080 y ob_world fob_world), (ce_i16 y ob_houses fob_houses), (ce_z16 y ob_byCall fob_byCall), (ce_i10240 y ob_over f_1633)] ∧ va_S A s.heap H locs ∧ lv_has ls 11 [(5, .int v_1632), (0, .ref ob), (1, .int a1), (2, .int a2), (3, .int a3), (4, .int a4)]) ?_ (n := (1024 - (1 : Int32).toInt).toNat) ⟨1, fob_over, rfl, (bw (1) (1024) (bkc (x := 1) (c := 1) (by decide)) (by decide)), p_fob_over, rfl, ⟨hP, hD⟩, hS, lv_sub hl [0, 1, 2, 3, 4, 5] rfl⟩
  rintro n ih_2539 H locs ls st ⟨v_1632, f_1633, hn_2539, bv_1632, bf_1633, rfl, ⟨hP, hD⟩, hS, hl⟩
  refine lv_iload hx hb dX10_goesThrough_3 (lv_at hl 0 rfl) ?_
  refine lv_iconst (v := 1) hx hb dX10_goesThrough_5 (by decide) ?_
  refine lv_aload_n hx hb dX10_goesThrough_6 rfl (lv_at hl 1 rfl) ?_
  refine va_get (D := G) (ci := 10) (v := .int ob_houseMany) (C := RX10) (T := TX10) (N := 41) hx hb hw0 inA_wsX100 hown hK.1 hP 0 rfl rfl 17 (by decide) (hw0 _ m_409) (fun _ h9 => h9) rfl dX10_goesThrough_7 ?_
  refine lv_ishl hx hb dX10_goesThrough_10 ?_
  refine lv_topi (fun v_2540 ev_2540 => ?_)
  have bv_2540 : (1 : Int) ≤ v_2540.toInt ∧ v_2540.toInt ≤ 1024 := ba_shl 0 10 ev_2540 p_ob_houseMany (by decide)
  refine lv_icmp_ge (tgt := 240) hx hb dX10_goesThrough_11 (by decide) (fun c_2541 => ?_) (fun c_2541 => ?_)
  · skip
    have nc_2541 := nb_le (1024) (1) c_2541 bv_2540 bv_1632 (by decide)
    exact W.vret hx hb hr (fun t ht hW => ⟨⟨_, rfl, ⟨f_1633, bf_1633, rfl⟩, by rw [ht]; exact hP, hD⟩, hS.F ht⟩) hS.2.2 dX10_goesThrough_240
  · skip
    have nc_2541 := nb_nle (1023) (2) c_2541 bv_1632 bv_2540 (by decide)
    refine lv_iconst (v := 0) hx hb dX10_goesThrough_14 (by decide) ?_
    refine lv_istore (lv' := [(6, .int 0), (5, .int v_1632), (0, .ref ob), (1, .int a1), (2, .int a2), (3, .int a3), (4, .int a4)]) hx hb dX10_goesThrough_15 hl (by decide) rfl (fun ls hl => ?_)
    refine loopX (fun n H locs ls st => ∃ (v_2842 : Int32) (f_2843 : Nat → Int32), (10 - v_2842.toInt).toNat = n ∧ ((0 : Int) ≤ v_2842.toInt ∧ v_2842.toInt ≤ 10) ∧ (∀ i, (-1 : Int) ≤ (f_2843 i).toInt ∧ (f_2843 i).toInt ≤ 180) ∧ st = [] ∧ vPD G A H [(ce_X10 ob ob_thrown ob_world ob_images ob_hasImage ob_tape ob_taped ob_five ob_size ob_at ob_from ob_token ob_value ob_faultKind ob_faultPlace ob_fresh ob_parts ob_houses ob_houseMany ob_worthOf ob_byCall ob_over ob_bestSet ob_bestOver ob_bestWorth ob_row ob_tenDebts ob_tenMany ob_fewestBy ob_covered ob_queue ob_cameBy ob_parent ob_met ob_calls ob_callMany ob_calledOn ob_saved ob_many ob_width ob_numbers ob_moving), (ce_i9080 y ob_world fob_world), (ce_i16 y ob_houses fob_houses), (ce_z16 y ob_byCall fob_byCall), (ce_i10240 y ob_over f_2843)] ∧ va_S A s.heap H locs ∧ lv_has ls 11 [(6, .int v_2842), (5, .int v_1632), (0, .ref ob), (1, .int a1), (2, .int a2), (3, .int a3), (4, .int a4)]) ?_ (n := (10 - (0 : Int32).toInt).toNat) ⟨0, f_1633, rfl, (bw (0) (10) (bkc (x := 0) (c := 0) (by decide)) (by decide)), bf_1633, rfl, ⟨hP, hD⟩, hS, lv_sub hl [0, 1, 2, 3, 4, 5, 6] rfl⟩
    rintro n ih_3144 H locs ls st ⟨v_2842, f_2843, hn_3144, bv_2842, bf_2843, rfl, ⟨hP, hD⟩, hS, hl⟩
    refine lv_iload hx hb dX10_goesThrough_17 (lv_at hl 0 rfl) ?_
    refine lv_aload_n hx hb dX10_goesThrough_19 rfl (lv_at hl 2 rfl) ?_
    refine va_get (D := G) (ci := 10) (v := .int ob_houseMany) (C := RX10) (T := TX10) (N := 41) hx hb hw0 inA_wsX100 hown hK.1 hP 0 rfl rfl 17 (by decide) (hw0 _ m_409) (fun _ h9 => h9) rfl dX10_goesThrough_20 ?_
    refine lv_icmp_ge (tgt := 234) hx hb dX10_goesThrough_23 (by decide) (fun c_3145 => ?_) (fun c_3145 => ?_)
    · skip
      have nc_3145 := nb_le (10) (0) c_3145 p_ob_houseMany bv_2842 (by decide)
      obtain ⟨v_3146, ev_3146⟩ : ∃ z : Int32, z = v_1632 + 1 := ⟨_, rfl⟩
      have qv_3146 := ba_add ev_3146 nc_2541.1 (bkc (x := 1) (c := 1) (by decide)) (by decide)
      have bv_3146 : (2 : Int) ≤ v_3146.toInt ∧ v_3146.toInt ≤ 1024 := bq_add qv_3146 nc_2541.1 (bkc (x := 1) (c := 1) (by decide)) _ _ (by decide)
      have qv_3146 : v_3146.toInt = v_1632.toInt + (1) := qv_3146
      refine lv_iinc (v := v_3146) (lv' := [(5, .int v_3146), (6, .int v_2842), (0, .ref ob), (1, .int a1), (2, .int a2), (3, .int a3), (4, .int a4)]) hx hb dX10_goesThrough_234 hl (k := 1) rfl (ev_3146.symm) (by decide) rfl (fun ls hl => ?_)
      refine lv_goto (tgt := 3) hx hb dX10_goesThrough_237 (by decide) ?_
      exact ih_2539 _ (ml_inc (hi := 1024) hn_2539 qv_3146 (by decide) ((bw (1) (1024) bv_3146 (by decide))).2) _ _ _ _ ⟨v_3146, f_2843, rfl, (bw (1) (1024) bv_3146 (by decide)), bf_2843, rfl, ⟨hP, hD⟩, hS, lv_sub hl [0, 2, 3, 4, 5, 6] rfl⟩
    · skip
      have nc_3145 := nb_nle (9) (1) c_3145 bv_2842 p_ob_houseMany (by decide)
      refine lv_bipush (v := 10) hx hb dX10_goesThrough_26 (by decide) ?_
      refine lv_iload hx hb dX10_goesThrough_28 (lv_at hl 1 rfl) ?_
      refine lv_imul hx hb dX10_goesThrough_30 ?_
      refine lv_topi (fun v_3147 ev_3147 => ?_)
      have qv_3147 := ba_mul 10 (ev_3147.trans (Int32.mul_comm _ _)) nc_2541.1 (by decide) (by decide) (by decide)
      have bv_3147 : (10 : Int) ≤ v_3147.toInt ∧ v_3147.toInt ≤ 10230 := qv_3147.2
      refine lv_iload hx hb dX10_goesThrough_31 (lv_at hl 0 rfl) ?_
      refine lv_iadd hx hb dX10_goesThrough_33 ?_
      refine lv_topi (fun v_3148 ev_3148 => ?_)
      have qv_3148 := ba_add ev_3148 bv_3147 nc_3145.1 (by decide)
      have bv_3148 : (10 : Int) ≤ v_3148.toInt ∧ v_3148.toInt ≤ 10239 := bq_add qv_3148 bv_3147 nc_3145.1 _ _ (by decide)
      refine lv_istore (lv' := [(7, .int v_3148), (6, .int v_2842), (5, .int v_1632), (0, .ref ob), (1, .int a1), (2, .int a2), (3, .int a3), (4, .int a4)]) hx hb dX10_goesThrough_34 hl (by decide) rfl (fun ls hl => ?_)
      refine lv_aload_n hx hb dX10_goesThrough_36 rfl (lv_at hl 3 rfl) ?_
      refine va_get (D := G) (ci := 10) (v := .ref ob_over) (C := RX10) (T := TX10) (N := 41) hx hb hw0 inA_wsX100 hown hK.1 hP 0 rfl rfl 20 (by decide) (hw0 _ m_506) (fun _ h9 => h9) rfl dX10_goesThrough_37 ?_
      refine lv_iload hx hb dX10_goesThrough_40 (lv_at hl 0 rfl) ?_
      refine lv_iconst (v := (-1)) hx hb dX10_goesThrough_42 (by decide) ?_
      refine va_iast hx hb hK.1 hP hD hS 4 1 rfl rfl (vi bv_3148 (by decide)) dX10_goesThrough_43 (fun H locs hP hD hS => ?_)
      generalize hf_3149 : (upd f_2843 (v_3148 : Int32).toNatClampNeg (-1)) = f_3149 at hP hD
      have bf_3149 : ∀ i, (-1 : Int) ≤ (f_3149 i).toInt ∧ (f_3149 i).toInt ≤ 180 := hf_3149 ▸ up_b bf_2843 (bw (-1) (180) (bkc (x := (-1)) (c := -1) (by decide)) (by decide))
      obtain ⟨hP, hD⟩ : vPD G A H [(ce_X10 ob ob_thrown ob_world ob_images ob_hasImage ob_tape ob_taped ob_five ob_size ob_at ob_from ob_token ob_value ob_faultKind ob_faultPlace ob_fresh ob_parts ob_houses ob_houseMany ob_worthOf ob_byCall ob_over ob_bestSet ob_bestOver ob_bestWorth ob_row ob_tenDebts ob_tenMany ob_fewestBy ob_covered ob_queue ob_cameBy ob_parent ob_met ob_calls ob_callMany ob_calledOn ob_saved ob_many ob_width ob_numbers ob_moving), (ce_i9080 y ob_world fob_world), (ce_i16 y ob_houses fob_houses), (ce_z16 y ob_byCall fob_byCall), (ce_i10240 y ob_over f_3149)] := ⟨hP, hD⟩
      refine lv_iload hx hb dX10_goesThrough_44 (lv_at hl 2 rfl) ?_
      refine lv_iload hx hb dX10_goesThrough_46 (lv_at hl 1 rfl) ?_
      refine cutW 228 (fun H locs ls st => ∃ (f_3297 : Nat → Int32), (∀ i, (-1 : Int) ≤ (f_3297 i).toInt ∧ (f_3297 i).toInt ≤ 180) ∧ st = [] ∧ vPD G A H [(ce_X10 ob ob_thrown ob_world ob_images ob_hasImage ob_tape ob_taped ob_five ob_size ob_at ob_from ob_token ob_value ob_faultKind ob_faultPlace ob_fresh ob_parts ob_houses ob_houseMany ob_worthOf ob_byCall ob_over ob_bestSet ob_bestOver ob_bestWorth ob_row ob_tenDebts ob_tenMany ob_fewestBy ob_covered ob_queue ob_cameBy ob_parent ob_met ob_calls ob_callMany ob_calledOn ob_saved ob_many ob_width ob_numbers ob_moving), (ce_i9080 y ob_world fob_world), (ce_i16 y ob_houses fob_houses), (ce_z16 y ob_byCall fob_byCall), (ce_i10240 y ob_over f_3297)] ∧ va_S A s.heap H locs ∧ lv_has ls 11 [(6, .int v_2842), (5, .int v_1632), (0, .ref ob), (1, .int a1), (2, .int a2), (3, .int a3), (4, .int a4)]) ?_ (fun J_228_3297 => ?_)
      · rintro H locs ls st ⟨f_3297, bf_3297, rfl, ⟨hP, hD⟩, hS, hl⟩
        obtain ⟨v_3298, ev_3298⟩ : ∃ z : Int32, z = v_2842 + 1 := ⟨_, rfl⟩
        have qv_3298 := ba_add ev_3298 nc_3145.1 (bkc (x := 1) (c := 1) (by decide)) (by decide)
        have bv_3298 : (1 : Int) ≤ v_3298.toInt ∧ v_3298.toInt ≤ 10 := bq_add qv_3298 nc_3145.1 (bkc (x := 1) (c := 1) (by decide)) _ _ (by decide)
        have qv_3298 : v_3298.toInt = v_2842.toInt + (1) := qv_3298
        refine lv_iinc (v := v_3298) (lv' := [(6, .int v_3298), (5, .int v_1632), (0, .ref ob), (1, .int a1), (2, .int a2), (3, .int a3), (4, .int a4)]) hx hb dX10_goesThrough_228 hl (k := 0) rfl (ev_3298.symm) (by decide) rfl (fun ls hl => ?_)
        refine lv_goto (tgt := 17) hx hb dX10_goesThrough_231 (by decide) ?_
        exact ih_3144 _ (ml_inc (hi := 10) hn_3144 qv_3298 (by decide) ((bw (0) (10) bv_3298 (by decide))).2) _ _ _ _ ⟨v_3298, f_3297, rfl, (bw (0) (10) bv_3298 (by decide)), bf_3297, rfl, ⟨hP, hD⟩, hS, lv_sub hl [0, 1, 2, 3, 4, 5, 6] rfl⟩
      · skip
        refine cSim (As := [.int v_1632, .int v_2842]) (rest := []) ⟨hx, hb, hml, hown, hw0⟩ hA hK hP hD hS [] (sX10_holds l G y _ v_1632 v_2842 ) rfl ⟨(callB_of 2 hw0 (gA m_512) rfl rfl rfl (hw0 _ m_41) (hw0 _ m_353) cb_X10_holds ⟨Nat.le_of_ble_eq_true rfl, Nat.le_of_ble_eq_true rfl⟩), (hw0 _ m_354)⟩ rfl hl.1 (Nat.le_of_ble_eq_true rfl) dX10_goesThrough_48 ⟨Nat.le_of_ble_eq_true rfl, Nat.le_of_ble_eq_true rfl⟩ (fun r_3299 w_3299 H locs hw_3299 hP hD hS => ?_)
        rcases hw_3299 with ⟨rfl, rfl⟩ | ⟨rfl, rfl⟩
        · skip
          obtain ⟨hP, hD⟩ : vPD G A H [(ce_X10 ob ob_thrown ob_world ob_images ob_hasImage ob_tape ob_taped ob_five ob_size ob_at ob_from ob_token ob_value ob_faultKind ob_faultPlace ob_fresh ob_parts ob_houses ob_houseMany ob_worthOf ob_byCall ob_over ob_bestSet ob_bestOver ob_bestWorth ob_row ob_tenDebts ob_tenMany ob_fewestBy ob_covered ob_queue ob_cameBy ob_parent ob_met ob_calls ob_callMany ob_calledOn ob_saved ob_many ob_width ob_numbers ob_moving), (ce_i9080 y ob_world fob_world), (ce_i16 y ob_houses fob_houses), (ce_z16 y ob_byCall fob_byCall), (ce_i10240 y ob_over f_3149)] := ⟨hP, hD⟩
          refine lv_if_eq (tgt := 228) hx hb dX10_goesThrough_51 (by decide) (fun _ => ?_) (fun c9 => absurd (by decide) c9)
          exact J_228_3297 _ _ _ _ ⟨f_3149, bf_3149, rfl, ⟨hP, hD⟩, hS, lv_sub hl [1, 2, 3, 4, 5, 6, 7] rfl⟩
        · skip
          obtain ⟨hP, hD⟩ : vPD G A H [(ce_X10 ob ob_thrown ob_world ob_images ob_hasImage ob_tape ob_taped ob_five ob_size ob_at ob_from ob_token ob_value ob_faultKind ob_faultPlace ob_fresh ob_parts ob_houses ob_houseMany ob_worthOf ob_byCall ob_over ob_bestSet ob_bestOver ob_bestWorth ob_row ob_tenDebts ob_tenMany ob_fewestBy ob_covered ob_queue ob_cameBy ob_parent ob_met ob_calls ob_callMany ob_calledOn ob_saved ob_many ob_width ob_numbers ob_moving), (ce_i9080 y ob_world fob_world), (ce_i16 y ob_houses fob_houses), (ce_z16 y ob_byCall fob_byCall), (ce_i10240 y ob_over f_3149)] := ⟨hP, hD⟩
          refine lv_if_eq (tgt := 228) hx hb dX10_goesThrough_51 (by decide) (fun c9 => absurd c9 (by decide)) (fun _ => ?_)
          refine lv_iload hx hb dX10_goesThrough_54 (lv_at hl 2 rfl) ?_
          refine lv_iload_n hx hb dX10_goesThrough_56 rfl (lv_at hl 6 rfl) ?_
          refine lv_iconst (v := (-1)) hx hb dX10_goesThrough_57 (by decide) ?_
          refine lv_ixor hx hb dX10_goesThrough_58 ?_
          refine lv_topi (fun v_3300 ev_3300 => ?_)
          refine lv_iand hx hb dX10_goesThrough_59 ?_
          refine lv_topi (fun v_3301 ev_3301 => ?_)
          have bv_3301 : (0 : Int) ≤ v_3301.toInt ∧ v_3301.toInt ≤ 1023 := ba_andl ev_3301 nc_2541.1 (by decide)
          refine lv_if_eq (tgt := 66) hx hb dX10_goesThrough_60 (by decide) (fun c_3302 => ?_) (fun c_3302 => ?_)
          · skip
            have nc_3302 := nb_eq (0) (0) c_3302 bv_3301 (bkc (x := 0) (c := 0) (by decide)) (by decide)
            refine lv_iload hx hb dX10_goesThrough_66 (lv_at hl 2 rfl) ?_
            refine lv_iconst (v := 1) hx hb dX10_goesThrough_68 (by decide) ?_
            refine lv_iload hx hb dX10_goesThrough_69 (lv_at hl 1 rfl) ?_
            refine lv_ishl hx hb dX10_goesThrough_71 ?_
            refine lv_topi (fun v_3303 ev_3303 => ?_)
            have bv_3303 : (1 : Int) ≤ v_3303.toInt ∧ v_3303.toInt ≤ 512 := ba_shl 0 9 ev_3303 nc_3145.1 (by decide)
            refine lv_iconst (v := (-1)) hx hb dX10_goesThrough_72 (by decide) ?_
            refine lv_ixor hx hb dX10_goesThrough_73 ?_
            refine lv_topi (fun v_3304 ev_3304 => ?_)
            refine lv_iand hx hb dX10_goesThrough_74 ?_
            refine lv_topi (fun v_3305 ev_3305 => ?_)
            have bv_3305 : (0 : Int) ≤ v_3305.toInt ∧ v_3305.toInt ≤ 1023 := ba_andl ev_3305 nc_2541.1 (by decide)
            refine lv_istore (lv' := [(8, .int v_3305), (7, .int v_3148), (6, .int v_2842), (5, .int v_1632), (0, .ref ob), (1, .int a1), (2, .int a2), (3, .int a3), (4, .int a4)]) hx hb dX10_goesThrough_75 hl (by decide) rfl (fun ls hl => ?_)
            refine lv_iload hx hb dX10_goesThrough_77 (lv_at hl 0 rfl) ?_
            refine lv_if_ne (tgt := 107) hx hb dX10_goesThrough_79 (by decide) (fun c_3306 => ?_) (fun c_3306 => ?_)
            · skip
              have nc_3306 := nb_ne (1) (1023) c_3306 bv_3305 (k := 0) (by decide) (by decide)
              refine lv_iconst (v := 0) hx hb dX10_goesThrough_107 (by decide) ?_
              refine lv_istore (lv' := [(9, .int 0), (8, .int v_3305), (7, .int v_3148), (6, .int v_2842), (5, .int v_1632), (0, .ref ob), (1, .int a1), (2, .int a2), (3, .int a3), (4, .int a4)]) hx hb dX10_goesThrough_108 hl (by decide) rfl (fun ls hl => ?_)
              refine loopX (fun n H locs ls st => ∃ (v_3350 : Int32) (f_3351 : Nat → Int32), (10 - v_3350.toInt).toNat = n ∧ ((0 : Int) ≤ v_3350.toInt ∧ v_3350.toInt ≤ 10) ∧ (∀ i, (-1 : Int) ≤ (f_3351 i).toInt ∧ (f_3351 i).toInt ≤ 180) ∧ st = [] ∧ vPD G A H [(ce_X10 ob ob_thrown ob_world ob_images ob_hasImage ob_tape ob_taped ob_five ob_size ob_at ob_from ob_token ob_value ob_faultKind ob_faultPlace ob_fresh ob_parts ob_houses ob_houseMany ob_worthOf ob_byCall ob_over ob_bestSet ob_bestOver ob_bestWorth ob_row ob_tenDebts ob_tenMany ob_fewestBy ob_covered ob_queue ob_cameBy ob_parent ob_met ob_calls ob_callMany ob_calledOn ob_saved ob_many ob_width ob_numbers ob_moving), (ce_i9080 y ob_world fob_world), (ce_i16 y ob_houses fob_houses), (ce_z16 y ob_byCall fob_byCall), (ce_i10240 y ob_over f_3351)] ∧ va_S A s.heap H locs ∧ lv_has ls 11 [(9, .int v_3350), (8, .int v_3305), (7, .int v_3148), (6, .int v_2842), (5, .int v_1632), (0, .ref ob), (1, .int a1), (2, .int a2), (3, .int a3), (4, .int a4)]) ?_ (n := (10 - (0 : Int32).toInt).toNat) ⟨0, f_3149, rfl, (bw (0) (10) (bkc (x := 0) (c := 0) (by decide)) (by decide)), bf_3149, rfl, ⟨hP, hD⟩, hS, lv_sub hl [0, 1, 2, 3, 4, 5, 6, 7, 8, 9] rfl⟩
              rintro n ih_3396 H locs ls st ⟨v_3350, f_3351, hn_3396, bv_3350, bf_3351, rfl, ⟨hP, hD⟩, hS, hl⟩
              refine lv_iload hx hb dX10_goesThrough_110 (lv_at hl 0 rfl) ?_
              refine lv_aload_n hx hb dX10_goesThrough_112 rfl (lv_at hl 5 rfl) ?_
              refine va_get (D := G) (ci := 10) (v := .int ob_houseMany) (C := RX10) (T := TX10) (N := 41) hx hb hw0 inA_wsX100 hown hK.1 hP 0 rfl rfl 17 (by decide) (hw0 _ m_409) (fun _ h9 => h9) rfl dX10_goesThrough_113 ?_
              refine lv_icmp_ge (tgt := 228) hx hb dX10_goesThrough_116 (by decide) (fun c_3397 => ?_) (fun c_3397 => ?_)
              · skip
                have nc_3397 := nb_le (10) (1) c_3397 nc_3145.2.1 bv_3350 (by decide)
                exact J_228_3297 _ _ _ _ ⟨f_3351, bf_3351, rfl, ⟨hP, hD⟩, hS, lv_sub hl [3, 4, 5, 6, 7, 8, 9] rfl⟩
              · skip
                have nc_3397 := nb_nle (9) (1) c_3397 bv_3350 nc_3145.2.1 (by decide)
                refine lv_iload hx hb dX10_goesThrough_119 (lv_at hl 1 rfl) ?_
                refine lv_iload hx hb dX10_goesThrough_121 (lv_at hl 0 rfl) ?_
                refine cutW 222 (fun H locs ls st => ∃ (f_3419 : Nat → Int32), (∀ i, (-1 : Int) ≤ (f_3419 i).toInt ∧ (f_3419 i).toInt ≤ 180) ∧ st = [] ∧ vPD G A H [(ce_X10 ob ob_thrown ob_world ob_images ob_hasImage ob_tape ob_taped ob_five ob_size ob_at ob_from ob_token ob_value ob_faultKind ob_faultPlace ob_fresh ob_parts ob_houses ob_houseMany ob_worthOf ob_byCall ob_over ob_bestSet ob_bestOver ob_bestWorth ob_row ob_tenDebts ob_tenMany ob_fewestBy ob_covered ob_queue ob_cameBy ob_parent ob_met ob_calls ob_callMany ob_calledOn ob_saved ob_many ob_width ob_numbers ob_moving), (ce_i9080 y ob_world fob_world), (ce_i16 y ob_houses fob_houses), (ce_z16 y ob_byCall fob_byCall), (ce_i10240 y ob_over f_3419)] ∧ va_S A s.heap H locs ∧ lv_has ls 11 [(9, .int v_3350), (8, .int v_3305), (7, .int v_3148), (6, .int v_2842), (5, .int v_1632), (0, .ref ob), (1, .int a1), (2, .int a2), (3, .int a3), (4, .int a4)]) ?_ (fun J_222_3419 => ?_)
                · rintro H locs ls st ⟨f_3419, bf_3419, rfl, ⟨hP, hD⟩, hS, hl⟩
                  obtain ⟨v_3420, ev_3420⟩ : ∃ z : Int32, z = v_3350 + 1 := ⟨_, rfl⟩
                  have qv_3420 := ba_add ev_3420 nc_3397.1 (bkc (x := 1) (c := 1) (by decide)) (by decide)
                  have bv_3420 : (1 : Int) ≤ v_3420.toInt ∧ v_3420.toInt ≤ 10 := bq_add qv_3420 nc_3397.1 (bkc (x := 1) (c := 1) (by decide)) _ _ (by decide)
                  have qv_3420 : v_3420.toInt = v_3350.toInt + (1) := qv_3420
                  refine lv_iinc (v := v_3420) (lv' := [(9, .int v_3420), (8, .int v_3305), (7, .int v_3148), (6, .int v_2842), (5, .int v_1632), (0, .ref ob), (1, .int a1), (2, .int a2), (3, .int a3), (4, .int a4)]) hx hb dX10_goesThrough_222 hl (k := 0) rfl (ev_3420.symm) (by decide) rfl (fun ls hl => ?_)
                  refine lv_goto (tgt := 110) hx hb dX10_goesThrough_225 (by decide) ?_
                  exact ih_3396 _ (ml_inc (hi := 10) hn_3396 qv_3420 (by decide) ((bw (0) (10) bv_3420 (by decide))).2) _ _ _ _ ⟨v_3420, f_3419, rfl, (bw (0) (10) bv_3420 (by decide)), bf_3419, rfl, ⟨hP, hD⟩, hS, lv_sub hl [0, 1, 2, 3, 4, 5, 6, 7, 8, 9] rfl⟩
                · skip
                  refine cSim (As := [.int v_3305, .int v_3350]) (rest := []) ⟨hx, hb, hml, hown, hw0⟩ hA hK hP hD hS [] (sX10_holds l G y _ v_3305 v_3350 ) rfl ⟨(callB_of 2 hw0 (gA m_512) rfl rfl rfl (hw0 _ m_41) (hw0 _ m_353) cb_X10_holds ⟨Nat.le_of_ble_eq_true rfl, Nat.le_of_ble_eq_true rfl⟩), (hw0 _ m_354)⟩ rfl hl.1 (Nat.le_of_ble_eq_true rfl) dX10_goesThrough_123 ⟨Nat.le_of_ble_eq_true rfl, Nat.le_of_ble_eq_true rfl⟩ (fun r_3421 w_3421 H locs hw_3421 hP hD hS => ?_)
                  rcases hw_3421 with ⟨rfl, rfl⟩ | ⟨rfl, rfl⟩
                  · skip
                    obtain ⟨hP, hD⟩ : vPD G A H [(ce_X10 ob ob_thrown ob_world ob_images ob_hasImage ob_tape ob_taped ob_five ob_size ob_at ob_from ob_token ob_value ob_faultKind ob_faultPlace ob_fresh ob_parts ob_houses ob_houseMany ob_worthOf ob_byCall ob_over ob_bestSet ob_bestOver ob_bestWorth ob_row ob_tenDebts ob_tenMany ob_fewestBy ob_covered ob_queue ob_cameBy ob_parent ob_met ob_calls ob_callMany ob_calledOn ob_saved ob_many ob_width ob_numbers ob_moving), (ce_i9080 y ob_world fob_world), (ce_i16 y ob_houses fob_houses), (ce_z16 y ob_byCall fob_byCall), (ce_i10240 y ob_over f_3351)] := ⟨hP, hD⟩
                    refine lv_if_eq (tgt := 222) hx hb dX10_goesThrough_126 (by decide) (fun _ => ?_) (fun c9 => absurd (by decide) c9)
                    exact J_222_3419 _ _ _ _ ⟨f_3351, bf_3351, rfl, ⟨hP, hD⟩, hS, lv_sub hl [0, 1, 2, 3, 4, 5, 6, 7, 8, 9] rfl⟩
                  · skip
                    obtain ⟨hP, hD⟩ : vPD G A H [(ce_X10 ob ob_thrown ob_world ob_images ob_hasImage ob_tape ob_taped ob_five ob_size ob_at ob_from ob_token ob_value ob_faultKind ob_faultPlace ob_fresh ob_parts ob_houses ob_houseMany ob_worthOf ob_byCall ob_over ob_bestSet ob_bestOver ob_bestWorth ob_row ob_tenDebts ob_tenMany ob_fewestBy ob_covered ob_queue ob_cameBy ob_parent ob_met ob_calls ob_callMany ob_calledOn ob_saved ob_many ob_width ob_numbers ob_moving), (ce_i9080 y ob_world fob_world), (ce_i16 y ob_houses fob_houses), (ce_z16 y ob_byCall fob_byCall), (ce_i10240 y ob_over f_3351)] := ⟨hP, hD⟩
                    refine lv_if_eq (tgt := 222) hx hb dX10_goesThrough_126 (by decide) (fun c9 => absurd c9 (by decide)) (fun _ => ?_)
                    refine lv_aload_n hx hb dX10_goesThrough_129 rfl (lv_at hl 5 rfl) ?_
                    refine va_get (D := G) (ci := 10) (v := .ref ob_over) (C := RX10) (T := TX10) (N := 41) hx hb hw0 inA_wsX100 hown hK.1 hP 0 rfl rfl 20 (by decide) (hw0 _ m_506) (fun _ h9 => h9) rfl dX10_goesThrough_130 ?_
                    refine lv_bipush (v := 10) hx hb dX10_goesThrough_133 (by decide) ?_
                    refine lv_iload hx hb dX10_goesThrough_135 (lv_at hl 1 rfl) ?_
                    refine lv_imul hx hb dX10_goesThrough_137 ?_
                    refine lv_topi (fun v_3422 ev_3422 => ?_)
                    have qv_3422 := ba_mul 10 (ev_3422.trans (Int32.mul_comm _ _)) nc_3306.1 (by decide) (by decide) (by decide)
                    have bv_3422 : (10 : Int) ≤ v_3422.toInt ∧ v_3422.toInt ≤ 10230 := qv_3422.2
                    refine lv_iload hx hb dX10_goesThrough_138 (lv_at hl 0 rfl) ?_
                    refine lv_iadd hx hb dX10_goesThrough_140 ?_
                    refine lv_topi (fun v_3423 ev_3423 => ?_)
                    have qv_3423 := ba_add ev_3423 bv_3422 nc_3397.1 (by decide)
                    have bv_3423 : (10 : Int) ≤ v_3423.toInt ∧ v_3423.toInt ≤ 10239 := bq_add qv_3423 bv_3422 nc_3397.1 _ _ (by decide)
                    refine va_iald hx hb hK.1 hP 4 1 rfl rfl (vi bv_3423 (by decide)) dX10_goesThrough_141 ?_
                    refine lv_topi (fun v_3424 ev_3424 => ?_)
                    have bv_3424 : (-1 : Int) ≤ v_3424.toInt ∧ v_3424.toInt ≤ 180 := rd_b ev_3424 bf_3351
                    refine lv_iconst (v := (-1)) hx hb dX10_goesThrough_142 (by decide) ?_
                    refine lv_icmp_ne (tgt := 149) hx hb dX10_goesThrough_143 (by decide) (fun c_3425 => ?_) (fun c_3425 => ?_)
                    · skip
                      have nc_3425 := nb_ne (0) (180) c_3425 bv_3424 (k := -1) (by decide) (by decide)
                      refine lv_aload_n hx hb dX10_goesThrough_149 rfl (lv_at hl 5 rfl) ?_
                      refine lv_aload_n hx hb dX10_goesThrough_150 rfl (lv_at hl 5 rfl) ?_
                      refine va_get (D := G) (ci := 10) (v := .ref ob_houses) (C := RX10) (T := TX10) (N := 41) hx hb hw0 inA_wsX100 hown hK.1 hP 0 rfl rfl 16 (by decide) (hw0 _ m_410) (fun _ h9 => h9) rfl dX10_goesThrough_151 ?_
                      refine lv_iload hx hb dX10_goesThrough_154 (lv_at hl 0 rfl) ?_
                      refine va_iald hx hb hK.1 hP 2 1 rfl rfl (vi nc_3397.1 (by decide)) dX10_goesThrough_156 ?_
                      refine lv_topi (fun v_3426 ev_3426 => ?_)
                      have bv_3426 : (0 : Int) ≤ v_3426.toInt ∧ v_3426.toInt ≤ 15 := rd_b ev_3426 p_fob_houses
                      refine lv_aload_n hx hb dX10_goesThrough_157 rfl (lv_at hl 5 rfl) ?_
                      refine va_get (D := G) (ci := 10) (v := .ref ob_over) (C := RX10) (T := TX10) (N := 41) hx hb hw0 inA_wsX100 hown hK.1 hP 0 rfl rfl 20 (by decide) (hw0 _ m_506) (fun _ h9 => h9) rfl dX10_goesThrough_158 ?_
                      refine lv_bipush (v := 10) hx hb dX10_goesThrough_161 (by decide) ?_
                      refine lv_iload hx hb dX10_goesThrough_163 (lv_at hl 1 rfl) ?_
                      refine lv_imul hx hb dX10_goesThrough_165 ?_
                      refine lv_topi (fun v_3427 ev_3427 => ?_)
                      obtain rfl : v_3422 = v_3427 := (ev_3427.trans (ev_3422.symm)).symm
                      refine lv_iload hx hb dX10_goesThrough_166 (lv_at hl 0 rfl) ?_
                      refine lv_iadd hx hb dX10_goesThrough_168 ?_
                      refine lv_topi (fun v_3428 ev_3428 => ?_)
                      obtain rfl : v_3423 = v_3428 := (ev_3428.trans (ev_3423.symm)).symm
                      refine va_iald hx hb hK.1 hP 4 1 rfl rfl (vi bv_3423 (by decide)) dX10_goesThrough_169 ?_
                      refine lv_topi (fun v_3429 ev_3429 => ?_)
                      obtain rfl : v_3424 = v_3429 := (ev_3429.trans (ev_3424.symm)).symm
                      refine lv_aload_n hx hb dX10_goesThrough_170 rfl (lv_at hl 5 rfl) ?_
                      refine va_get (D := G) (ci := 10) (v := .ref ob_houses) (C := RX10) (T := TX10) (N := 41) hx hb hw0 inA_wsX100 hown hK.1 hP 0 rfl rfl 16 (by decide) (hw0 _ m_410) (fun _ h9 => h9) rfl dX10_goesThrough_171 ?_
                      refine lv_iload hx hb dX10_goesThrough_174 (lv_at hl 3 rfl) ?_
                      refine va_iald hx hb hK.1 hP 2 1 rfl rfl (vi nc_3145.1 (by decide)) dX10_goesThrough_176 ?_
                      refine lv_topi (fun v_3430 ev_3430 => ?_)
                      have bv_3430 : (0 : Int) ≤ v_3430.toInt ∧ v_3430.toInt ≤ 15 := rd_b ev_3430 p_fob_houses
                      refine lv_iload hx hb dX10_goesThrough_177 (lv_at hl 9 rfl) ?_
                      refine cVim (As := [.int v_3426, .int v_3424, .int v_3430, .int a4]) (rest := []) ⟨hx, hb, hml, hown, hw0⟩ hA hK hP hD hS [true, true, false, true] (sX10_seen l G y _ ob v_3426 v_3424 v_3430 a4 ob_thrown ob_world ob_images ob_hasImage ob_tape ob_taped ob_five ob_size ob_at ob_from ob_token ob_value ob_faultKind ob_faultPlace ob_fresh ob_parts ob_houses ob_houseMany ob_worthOf ob_byCall ob_over ob_bestSet ob_bestOver ob_bestWorth ob_row ob_tenDebts ob_tenMany ob_fewestBy ob_covered ob_queue ob_cameBy ob_parent ob_met ob_calls ob_callMany ob_calledOn ob_saved ob_many ob_width ob_numbers ob_moving fob_world fob_byCall p_fob_world p_ob_taped p_ob_size p_ob_at p_ob_from p_ob_token p_ob_value p_ob_faultKind (bw (0) (10) nc_3397.2.1 (by decide)) p_fob_byCall p_ob_bestSet p_ob_bestOver p_ob_tenMany p_ob_callMany bv_3426 nc_3425.1 bv_3430 p_a4) rfl ⟨(callB_of 4 hw0 (gA m_670) rfl rfl rfl (hw0 _ m_41) (hw0 _ m_507) cb_X10_seen ⟨Nat.le_of_ble_eq_true rfl, Nat.le_of_ble_eq_true rfl⟩), (hw0 _ m_508), (hw0 _ m_509)⟩ (ci := 10) (q := (RX10, TX10, 41)) rfl rfl rfl hl.1 (Nat.le_of_ble_eq_true rfl) dX10_goesThrough_179 ⟨Nat.le_of_ble_eq_true rfl, Nat.le_of_ble_eq_true rfl⟩ (fun r_3431 w_3431 H locs hw_3431 hP hD hS => ?_)
                      obtain ⟨v_3432, bv_3432, er_3431, rfl⟩ := hw_3431
                      subst r_3431
                      obtain ⟨hP, hD⟩ : vPD G A H [(ce_X10 ob ob_thrown ob_world ob_images ob_hasImage ob_tape ob_taped ob_five ob_size ob_at ob_from ob_token ob_value ob_faultKind ob_faultPlace ob_fresh ob_parts ob_houses ob_houseMany ob_worthOf ob_byCall ob_over ob_bestSet ob_bestOver ob_bestWorth ob_row ob_tenDebts ob_tenMany ob_fewestBy ob_covered ob_queue ob_cameBy ob_parent ob_met ob_calls ob_callMany ob_calledOn ob_saved ob_many ob_width ob_numbers ob_moving), (ce_i9080 y ob_world fob_world), (ce_i16 y ob_houses fob_houses), (ce_z16 y ob_byCall fob_byCall), (ce_i10240 y ob_over f_3351)] := ⟨hP, hD⟩
                      refine lv_istore (lv' := [(10, .int v_3432), (9, .int v_3350), (8, .int v_3305), (7, .int v_3148), (6, .int v_2842), (5, .int v_1632), (0, .ref ob), (1, .int a1), (2, .int a2), (3, .int a3), (4, .int a4)]) hx hb dX10_goesThrough_182 hl (by decide) rfl (fun ls hl => ?_)
                      refine lv_iload hx hb dX10_goesThrough_184 (lv_at hl 0 rfl) ?_
                      refine lv_iconst (v := (-1)) hx hb dX10_goesThrough_186 (by decide) ?_
                      refine lv_icmp_eq (tgt := 222) hx hb dX10_goesThrough_187 (by decide) (fun c_3433 => ?_) (fun c_3433 => ?_)
                      · skip
                        have nc_3433 := nb_eq (-1) (-1) c_3433 bv_3432 (bkc (x := (-1)) (c := -1) (by decide)) (by decide)
                        exact J_222_3419 _ _ _ _ ⟨f_3351, bf_3351, rfl, ⟨hP, hD⟩, hS, lv_sub hl [1, 2, 3, 4, 5, 6, 7, 8, 9, 10] rfl⟩
                      · skip
                        have nc_3433 := nb_ne (0) (180) c_3433 bv_3432 (k := -1) (by decide) (by decide)
                        refine lv_aload_n hx hb dX10_goesThrough_190 rfl (lv_at hl 6 rfl) ?_
                        refine va_get (D := G) (ci := 10) (v := .ref ob_over) (C := RX10) (T := TX10) (N := 41) hx hb hw0 inA_wsX100 hown hK.1 hP 0 rfl rfl 20 (by decide) (hw0 _ m_506) (fun _ h9 => h9) rfl dX10_goesThrough_191 ?_
                        refine lv_iload hx hb dX10_goesThrough_194 (lv_at hl 3 rfl) ?_
                        refine va_iald hx hb hK.1 hP 4 1 rfl rfl (vi bv_3148 (by decide)) dX10_goesThrough_196 ?_
                        refine lv_topi (fun v_3434 ev_3434 => ?_)
                        have bv_3434 : (-1 : Int) ≤ v_3434.toInt ∧ v_3434.toInt ≤ 180 := rd_b ev_3434 bf_3351
                        refine lv_iconst (v := (-1)) hx hb dX10_goesThrough_197 (by decide) ?_
                        refine cutW 213 (fun H locs ls st => st = [] ∧ vPD G A H [(ce_X10 ob ob_thrown ob_world ob_images ob_hasImage ob_tape ob_taped ob_five ob_size ob_at ob_from ob_token ob_value ob_faultKind ob_faultPlace ob_fresh ob_parts ob_houses ob_houseMany ob_worthOf ob_byCall ob_over ob_bestSet ob_bestOver ob_bestWorth ob_row ob_tenDebts ob_tenMany ob_fewestBy ob_covered ob_queue ob_cameBy ob_parent ob_met ob_calls ob_callMany ob_calledOn ob_saved ob_many ob_width ob_numbers ob_moving), (ce_i9080 y ob_world fob_world), (ce_i16 y ob_houses fob_houses), (ce_z16 y ob_byCall fob_byCall), (ce_i10240 y ob_over f_3351)] ∧ va_S A s.heap H locs ∧ lv_has ls 11 [(10, .int v_3432), (9, .int v_3350), (8, .int v_3305), (7, .int v_3148), (6, .int v_2842), (5, .int v_1632), (0, .ref ob), (1, .int a1), (2, .int a2), (3, .int a3), (4, .int a4)]) ?_ (fun J_213_3437 => ?_)
                        · rintro H locs ls st ⟨rfl, ⟨hP, hD⟩, hS, hl⟩
                          refine lv_aload_n hx hb dX10_goesThrough_213 rfl (lv_at hl 6 rfl) ?_
                          refine va_get (D := G) (ci := 10) (v := .ref ob_over) (C := RX10) (T := TX10) (N := 41) hx hb hw0 inA_wsX100 hown hK.1 hP 0 rfl rfl 20 (by decide) (hw0 _ m_506) (fun _ h9 => h9) rfl dX10_goesThrough_214 ?_
                          refine lv_iload hx hb dX10_goesThrough_217 (lv_at hl 3 rfl) ?_
                          refine lv_iload hx hb dX10_goesThrough_219 (lv_at hl 0 rfl) ?_
                          refine va_iast hx hb hK.1 hP hD hS 4 1 rfl rfl (vi bv_3148 (by decide)) dX10_goesThrough_221 (fun H locs hP hD hS => ?_)
                          generalize hf_3438 : (upd f_3351 (v_3148 : Int32).toNatClampNeg v_3432) = f_3438 at hP hD
                          have bf_3438 : ∀ i, (-1 : Int) ≤ (f_3438 i).toInt ∧ (f_3438 i).toInt ≤ 180 := hf_3438 ▸ up_b bf_3351 (bw (-1) (180) nc_3433.1 (by decide))
                          obtain ⟨hP, hD⟩ : vPD G A H [(ce_X10 ob ob_thrown ob_world ob_images ob_hasImage ob_tape ob_taped ob_five ob_size ob_at ob_from ob_token ob_value ob_faultKind ob_faultPlace ob_fresh ob_parts ob_houses ob_houseMany ob_worthOf ob_byCall ob_over ob_bestSet ob_bestOver ob_bestWorth ob_row ob_tenDebts ob_tenMany ob_fewestBy ob_covered ob_queue ob_cameBy ob_parent ob_met ob_calls ob_callMany ob_calledOn ob_saved ob_many ob_width ob_numbers ob_moving), (ce_i9080 y ob_world fob_world), (ce_i16 y ob_houses fob_houses), (ce_z16 y ob_byCall fob_byCall), (ce_i10240 y ob_over f_3438)] := ⟨hP, hD⟩
                          exact J_222_3419 _ _ _ _ ⟨f_3438, bf_3438, rfl, ⟨hP, hD⟩, hS, lv_sub hl [1, 2, 3, 4, 5, 6, 7, 8, 9, 10] rfl⟩
                        · skip
                          refine lv_icmp_eq (tgt := 213) hx hb dX10_goesThrough_198 (by decide) (fun c_3439 => ?_) (fun c_3439 => ?_)
                          · skip
                            have nc_3439 := nb_eq (-1) (-1) c_3439 bv_3434 (bkc (x := (-1)) (c := -1) (by decide)) (by decide)
                            exact J_213_3437 _ _ _ _ ⟨rfl, ⟨hP, hD⟩, hS, lv_sub hl [0, 1, 2, 3, 4, 5, 6, 7, 8, 9, 10] rfl⟩
                          · skip
                            have nc_3439 := nb_ne (0) (180) c_3439 bv_3434 (k := -1) (by decide) (by decide)
                            refine lv_iload hx hb dX10_goesThrough_201 (lv_at hl 0 rfl) ?_
                            refine lv_aload_n hx hb dX10_goesThrough_203 rfl (lv_at hl 6 rfl) ?_
                            refine va_get (D := G) (ci := 10) (v := .ref ob_over) (C := RX10) (T := TX10) (N := 41) hx hb hw0 inA_wsX100 hown hK.1 hP 0 rfl rfl 20 (by decide) (hw0 _ m_506) (fun _ h9 => h9) rfl dX10_goesThrough_204 ?_
                            refine lv_iload hx hb dX10_goesThrough_207 (lv_at hl 3 rfl) ?_
                            refine va_iald hx hb hK.1 hP 4 1 rfl rfl (vi bv_3148 (by decide)) dX10_goesThrough_209 ?_
                            refine lv_topi (fun v_3440 ev_3440 => ?_)
                            obtain rfl : v_3434 = v_3440 := (ev_3440.trans (ev_3434.symm)).symm
                            refine lv_icmp_ge (tgt := 222) hx hb dX10_goesThrough_210 (by decide) (fun c_3441 => ?_) (fun c_3441 => ?_)
                            · skip
                              have nc_3441 := nb_le (180) (0) c_3441 nc_3439.1 nc_3433.1 (by decide)
                              exact J_222_3419 _ _ _ _ ⟨f_3351, bf_3351, rfl, ⟨hP, hD⟩, hS, lv_sub hl [1, 2, 3, 4, 5, 6, 7, 8, 9, 10] rfl⟩
                            · skip
                              have nc_3441 := nb_nle (179) (1) c_3441 nc_3433.1 nc_3439.1 (by decide)
                              exact J_213_3437 _ _ _ _ ⟨rfl, ⟨hP, hD⟩, hS, lv_sub hl [0, 1, 2, 3, 4, 5, 6, 7, 8, 9, 10] rfl⟩
                    · skip
                      have nc_3425 := nb_eq (-1) (-1) c_3425 bv_3424 (bkc (x := (-1)) (c := -1) (by decide)) (by decide)
                      refine lv_goto (tgt := 222) hx hb dX10_goesThrough_146 (by decide) ?_
                      exact J_222_3419 _ _ _ _ ⟨f_3351, bf_3351, rfl, ⟨hP, hD⟩, hS, lv_sub hl [0, 1, 2, 3, 4, 5, 6, 7, 8, 9] rfl⟩
            · skip
              have nc_3306 := nb_eq (0) (0) c_3306 bv_3305 (bkc (x := 0) (c := 0) (by decide)) (by decide)
              refine lv_aload_n hx hb dX10_goesThrough_82 rfl (lv_at hl 4 rfl) ?_
              refine va_get (D := G) (ci := 10) (v := .ref ob_over) (C := RX10) (T := TX10) (N := 41) hx hb hw0 inA_wsX100 hown hK.1 hP 0 rfl rfl 20 (by decide) (hw0 _ m_506) (fun _ h9 => h9) rfl dX10_goesThrough_83 ?_
              refine lv_iload hx hb dX10_goesThrough_86 (lv_at hl 1 rfl) ?_
              refine lv_aload_n hx hb dX10_goesThrough_88 rfl (lv_at hl 4 rfl) ?_
              refine lv_iload_n hx hb dX10_goesThrough_89 rfl (lv_at hl 5 rfl) ?_
              refine lv_iload_n hx hb dX10_goesThrough_90 rfl (lv_at hl 6 rfl) ?_
              refine lv_aload_n hx hb dX10_goesThrough_91 rfl (lv_at hl 4 rfl) ?_
              refine va_get (D := G) (ci := 10) (v := .ref ob_houses) (C := RX10) (T := TX10) (N := 41) hx hb hw0 inA_wsX100 hown hK.1 hP 0 rfl rfl 16 (by decide) (hw0 _ m_410) (fun _ h9 => h9) rfl dX10_goesThrough_92 ?_
              refine lv_iload hx hb dX10_goesThrough_95 (lv_at hl 2 rfl) ?_
              refine va_iald hx hb hK.1 hP 2 1 rfl rfl (vi nc_3145.1 (by decide)) dX10_goesThrough_97 ?_
              refine lv_topi (fun v_3442 ev_3442 => ?_)
              have bv_3442 : (0 : Int) ≤ v_3442.toInt ∧ v_3442.toInt ≤ 15 := rd_b ev_3442 p_fob_houses
              refine lv_iload hx hb dX10_goesThrough_98 (lv_at hl 8 rfl) ?_
              refine cVim (As := [.int a1, .int a2, .int v_3442, .int a4]) (rest := [.int v_3148, .ref ob_over]) ⟨hx, hb, hml, hown, hw0⟩ hA hK hP hD hS [true, true, false, true] (sX10_seen l G y _ ob a1 a2 v_3442 a4 ob_thrown ob_world ob_images ob_hasImage ob_tape ob_taped ob_five ob_size ob_at ob_from ob_token ob_value ob_faultKind ob_faultPlace ob_fresh ob_parts ob_houses ob_houseMany ob_worthOf ob_byCall ob_over ob_bestSet ob_bestOver ob_bestWorth ob_row ob_tenDebts ob_tenMany ob_fewestBy ob_covered ob_queue ob_cameBy ob_parent ob_met ob_calls ob_callMany ob_calledOn ob_saved ob_many ob_width ob_numbers ob_moving fob_world fob_byCall p_fob_world p_ob_taped p_ob_size p_ob_at p_ob_from p_ob_token p_ob_value p_ob_faultKind (bw (0) (10) nc_3145.2.1 (by decide)) p_fob_byCall p_ob_bestSet p_ob_bestOver p_ob_tenMany p_ob_callMany p_a1 p_a2 bv_3442 p_a4) rfl ⟨(callB_of 4 hw0 (gA m_670) rfl rfl rfl (hw0 _ m_41) (hw0 _ m_507) cb_X10_seen ⟨Nat.le_of_ble_eq_true rfl, Nat.le_of_ble_eq_true rfl⟩), (hw0 _ m_508), (hw0 _ m_509)⟩ (ci := 10) (q := (RX10, TX10, 41)) rfl rfl rfl hl.1 (Nat.le_of_ble_eq_true rfl) dX10_goesThrough_100 ⟨Nat.le_of_ble_eq_true rfl, Nat.le_of_ble_eq_true rfl⟩ (fun r_3443 w_3443 H locs hw_3443 hP hD hS => ?_)
              obtain ⟨v_3444, bv_3444, er_3443, rfl⟩ := hw_3443
              subst r_3443
              obtain ⟨hP, hD⟩ : vPD G A H [(ce_X10 ob ob_thrown ob_world ob_images ob_hasImage ob_tape ob_taped ob_five ob_size ob_at ob_from ob_token ob_value ob_faultKind ob_faultPlace ob_fresh ob_parts ob_houses ob_houseMany ob_worthOf ob_byCall ob_over ob_bestSet ob_bestOver ob_bestWorth ob_row ob_tenDebts ob_tenMany ob_fewestBy ob_covered ob_queue ob_cameBy ob_parent ob_met ob_calls ob_callMany ob_calledOn ob_saved ob_many ob_width ob_numbers ob_moving), (ce_i9080 y ob_world fob_world), (ce_i16 y ob_houses fob_houses), (ce_z16 y ob_byCall fob_byCall), (ce_i10240 y ob_over f_3149)] := ⟨hP, hD⟩
              refine va_iast hx hb hK.1 hP hD hS 4 1 rfl rfl (vi bv_3148 (by decide)) dX10_goesThrough_103 (fun H locs hP hD hS => ?_)
              generalize hf_3445 : (upd f_3149 (v_3148 : Int32).toNatClampNeg v_3444) = f_3445 at hP hD
              have bf_3445 : ∀ i, (-1 : Int) ≤ (f_3445 i).toInt ∧ (f_3445 i).toInt ≤ 180 := hf_3445 ▸ up_b bf_3149 bv_3444
              obtain ⟨hP, hD⟩ : vPD G A H [(ce_X10 ob ob_thrown ob_world ob_images ob_hasImage ob_tape ob_taped ob_five ob_size ob_at ob_from ob_token ob_value ob_faultKind ob_faultPlace ob_fresh ob_parts ob_houses ob_houseMany ob_worthOf ob_byCall ob_over ob_bestSet ob_bestOver ob_bestWorth ob_row ob_tenDebts ob_tenMany ob_fewestBy ob_covered ob_queue ob_cameBy ob_parent ob_met ob_calls ob_callMany ob_calledOn ob_saved ob_many ob_width ob_numbers ob_moving), (ce_i9080 y ob_world fob_world), (ce_i16 y ob_houses fob_houses), (ce_z16 y ob_byCall fob_byCall), (ce_i10240 y ob_over f_3445)] := ⟨hP, hD⟩
              refine lv_goto (tgt := 228) hx hb dX10_goesThrough_104 (by decide) ?_
              exact J_228_3297 _ _ _ _ ⟨f_3445, bf_3445, rfl, ⟨hP, hD⟩, hS, lv_sub hl [2, 3, 4, 5, 6, 7, 8] rfl⟩
          · skip
            have nc_3302 := nb_ne (1) (1023) c_3302 bv_3301 (k := 0) (by decide) (by decide)
            refine lv_goto (tgt := 228) hx hb dX10_goesThrough_63 (by decide) ?_
            exact J_228_3297 _ _ _ _ ⟨f_3149, bf_3149, rfl, ⟨hP, hD⟩, hS, lv_sub hl [1, 2, 3, 4, 5, 6, 7] rfl⟩

set_option maxHeartbeats 4000000 in
set_option maxRecDepth 100000 in
theorem sX10_overOf (l : Launch) (G : va_G) (y : Nat → ClassId) (sz : Nat) (ob : Nat) (a1 : Int32) (ob_thrown : Int32) (ob_world : Nat) (ob_images : Nat) (ob_hasImage : Nat) (ob_tape : Nat) (ob_taped : Int32) (ob_five : Nat) (ob_size : Int32) (ob_at : Int32) (ob_from : Int32) (ob_token : Int32) (ob_value : Int32) (ob_faultKind : Int32) (ob_faultPlace : Int32) (ob_fresh : Nat) (ob_parts : Nat) (ob_houses : Nat) (ob_houseMany : Int32) (ob_worthOf : Nat) (ob_byCall : Nat) (ob_over : Nat) (ob_bestSet : Int32) (ob_bestOver : Int32) (ob_bestWorth : Int32) (ob_row : Nat) (ob_tenDebts : Nat) (ob_tenMany : Int32) (ob_fewestBy : Nat) (ob_covered : Nat) (ob_queue : Nat) (ob_cameBy : Nat) (ob_parent : Nat) (ob_met : Nat) (ob_calls : Nat) (ob_callMany : Int32) (ob_calledOn : Nat) (ob_saved : Nat) (ob_many : Nat) (ob_width : Nat) (ob_numbers : Nat) (ob_moving : Nat) (fob_over : Nat → Int32) (p_ob_taped : (0 : Int) ≤ ob_taped.toInt ∧ ob_taped.toInt ≤ 1400) (p_ob_size : (0 : Int) ≤ ob_size.toInt ∧ ob_size.toInt ≤ 1400) (p_ob_at : (0 : Int) ≤ ob_at.toInt ∧ ob_at.toInt ≤ 1400) (p_ob_from : (0 : Int) ≤ ob_from.toInt ∧ ob_from.toInt ≤ 1400) (p_ob_token : (0 : Int) ≤ ob_token.toInt ∧ ob_token.toInt ≤ 4) (p_ob_value : (0 : Int) ≤ ob_value.toInt ∧ ob_value.toInt ≤ 9999) (p_ob_faultKind : (0 : Int) ≤ ob_faultKind.toInt ∧ ob_faultKind.toInt ≤ 3) (p_ob_houseMany : (0 : Int) ≤ ob_houseMany.toInt ∧ ob_houseMany.toInt ≤ 10) (p_fob_over : ∀ i, (-1 : Int) ≤ (fob_over i).toInt ∧ (fob_over i).toInt ≤ 180) (p_ob_bestSet : (0 : Int) ≤ ob_bestSet.toInt ∧ ob_bestSet.toInt ≤ 1023) (p_ob_bestOver : (-1 : Int) ≤ ob_bestOver.toInt ∧ ob_bestOver.toInt ≤ 180) (p_ob_tenMany : (0 : Int) ≤ ob_tenMany.toInt ∧ ob_tenMany.toInt ≤ 10) (p_ob_callMany : (0 : Int) ≤ ob_callMany.toInt ∧ ob_callMany.toInt ≤ 16) (p_a1 : (0 : Int) ≤ a1.toInt ∧ a1.toInt ≤ 1023) : Met l yX10_overOf (Cond.code yX10_overOf cX10_overOf 5 (some .int) :: wAll) ({ frames := 0, cells := 0, slots := 0, locals := 0 }) (va_Pc [.ref ob, .int a1] (kp G y sz [(ce_X10 ob ob_thrown ob_world ob_images ob_hasImage ob_tape ob_taped ob_five ob_size ob_at ob_from ob_token ob_value ob_faultKind ob_faultPlace ob_fresh ob_parts ob_houses ob_houseMany ob_worthOf ob_byCall ob_over ob_bestSet ob_bestOver ob_bestWorth ob_row ob_tenDebts ob_tenMany ob_fewestBy ob_covered ob_queue ob_cameBy ob_parent ob_met ob_calls ob_callMany ob_calledOn ob_saved ob_many ob_width ob_numbers ob_moving), (ce_i10240 y ob_over fob_over)])) (va_Qi (fun (r : Int32) (w : va_W) => (∃ (v_407 : Int32), ((-1 : Int) ≤ v_407.toInt ∧ v_407.toInt ≤ 180) ∧ r = v_407 ∧ w = [(ce_X10 ob ob_thrown ob_world ob_images ob_hasImage ob_tape ob_taped ob_five ob_size ob_at ob_from ob_token ob_value ob_faultKind ob_faultPlace ob_fresh ob_parts ob_houses ob_houseMany ob_worthOf ob_byCall ob_over ob_bestSet ob_bestOver ob_bestWorth ob_row ob_tenDebts ob_tenMany ob_fewestBy ob_covered ob_queue ob_cameBy ob_parent ob_met ob_calls ob_callMany ob_calledOn ob_saved ob_many ob_width ob_numbers ob_moving), (ce_i10240 y ob_over fob_over)])) (kq G (va_A [(ce_X10 ob ob_thrown ob_world ob_images ob_hasImage ob_tape ob_taped ob_five ob_size ob_at ob_from ob_token ob_value ob_faultKind ob_faultPlace ob_fresh ob_parts ob_houses ob_houseMany ob_worthOf ob_byCall ob_over ob_bestSet ob_bestOver ob_bestWorth ob_row ob_tenDebts ob_tenMany ob_fewestBy ob_covered ob_queue ob_cameBy ob_parent ob_met ob_calls ob_callMany ob_calledOn ob_saved ob_many ob_width ob_numbers ob_moving), (ce_i10240 y ob_over fob_over)] sz)) (va_A [(ce_X10 ob ob_thrown ob_world ob_images ob_hasImage ob_tape ob_taped ob_five ob_size ob_at ob_from ob_token ob_value ob_faultKind ob_faultPlace ob_fresh ob_parts ob_houses ob_houseMany ob_worthOf ob_byCall ob_over ob_bestSet ob_bestOver ob_bestWorth ob_row ob_tenDebts ob_tenMany ob_fewestBy ob_covered ob_queue ob_cameBy ob_parent ob_met ob_calls ob_callMany ob_calledOn ob_saved ob_many ob_width ob_numbers ob_moving), (ce_i10240 y ob_over fob_over)] sz)) 0 0 (va_A [(ce_X10 ob ob_thrown ob_world ob_images ob_hasImage ob_tape ob_taped ob_five ob_size ob_at ob_from ob_token ob_value ob_faultKind ob_faultPlace ob_fresh ob_parts ob_houses ob_houseMany ob_worthOf ob_byCall ob_over ob_bestSet ob_bestOver ob_bestWorth ob_row ob_tenDebts ob_tenMany ob_fewestBy ob_covered ob_queue ob_cameBy ob_parent ob_met ob_calls ob_callMany ob_calledOn ob_saved ob_many ob_width ob_numbers ob_moving), (ce_i10240 y ob_over fob_over)] sz) := by
  refine Met.ofW (cc := cX10_overOf) (maxL := 5) (ret := (some .int)) (by decide) rfl ?_
  intro p e s m args below meth c s₁ B hml hv
  obtain ⟨rfl, hsz, hP, hK, hD0⟩ := hv
  have hx := B.exec
  have hb := B.bytes
  have hr := B.returns
  have hw0 : ∀ w ∈ wAll, w.before _ s = true := fun w h => atoms_spec (ws := Cond.code yX10_overOf cX10_overOf 5 (some .int) :: wAll) B.pre w (List.mem_cons_of_mem _ h)
  have hown : s.vm.findClass RX10 = some m.cls := findClass_of_methodNamed B.named
  subst hsz
  have hD := hD0.self (sz := s.heap.size)
  generalize hAe : va_A [(ce_X10 ob ob_thrown ob_world ob_images ob_hasImage ob_tape ob_taped ob_five ob_size ob_at ob_from ob_token ob_value ob_faultKind ob_faultPlace ob_fresh ob_parts ob_houses ob_houseMany ob_worthOf ob_byCall ob_over ob_bestSet ob_bestOver ob_bestWorth ob_row ob_tenDebts ob_tenMany ob_fewestBy ob_covered ob_queue ob_cameBy ob_parent ob_met ob_calls ob_callMany ob_calledOn ob_saved ob_many ob_width ob_numbers ob_moving), (ce_i10240 y ob_over fob_over)] s.heap.size = A at hD ⊢
  have hA : ∀ q : Nat, s.heap.size ≤ q → A q := fun q h => by rw [← hAe]; exact Or.inr h
  have hS : va_S A s.heap s.heap [] := va_S.rf
  have hP : va_P G vwCl [(ce_X10 ob ob_thrown ob_world ob_images ob_hasImage ob_tape ob_taped ob_five ob_size ob_at ob_from ob_token ob_value ob_faultKind ob_faultPlace ob_fresh ob_parts ob_houses ob_houseMany ob_worthOf ob_byCall ob_over ob_bestSet ob_bestOver ob_bestWorth ob_row ob_tenDebts ob_tenMany ob_fewestBy ob_covered ob_queue ob_cameBy ob_parent ob_met ob_calls ob_callMany ob_calledOn ob_saved ob_many ob_width ob_numbers ob_moving), (ce_i10240 y ob_over fob_over)] s.heap := hP
  have hl := lv_entry ([.ref ob, .int a1]) (n := 5) (Nat.le_of_ble_eq_true rfl)
  rw [lg_entry_eq]
  generalize (lg_sl ([.ref ob, .int a1]) ++ List.replicate (5 - (lg_sl ([.ref ob, .int a1])).length) Slot.unset).toArray = ls at hl ⊢
  have hl : lv_has ls 5 [(0, .ref ob), (1, .int a1)] := hl
  refine lv_iconst (v := (-1)) hx hb dX10_overOf_0 (by decide) ?_
  refine lv_istore_n (lv' := [(2, .int (-1)), (0, .ref ob), (1, .int a1)]) hx hb dX10_overOf_1 rfl hl (by decide) rfl (fun ls hl => ?_)
  refine lv_iconst (v := 0) hx hb dX10_overOf_2 (by decide) ?_
  refine lv_istore_n (lv' := [(3, .int 0), (2, .int (-1)), (0, .ref ob), (1, .int a1)]) hx hb dX10_overOf_3 rfl hl (by decide) rfl (fun ls hl => ?_)
  refine loopX (fun n H locs ls st => ∃ (v_1170 : Int32) (v_1171 : Int32), (10 - v_1170.toInt).toNat = n ∧ ((0 : Int) ≤ v_1170.toInt ∧ v_1170.toInt ≤ 10) ∧ ((-1 : Int) ≤ v_1171.toInt ∧ v_1171.toInt ≤ 180) ∧ st = [] ∧ vPD G A H [(ce_X10 ob ob_thrown ob_world ob_images ob_hasImage ob_tape ob_taped ob_five ob_size ob_at ob_from ob_token ob_value ob_faultKind ob_faultPlace ob_fresh ob_parts ob_houses ob_houseMany ob_worthOf ob_byCall ob_over ob_bestSet ob_bestOver ob_bestWorth ob_row ob_tenDebts ob_tenMany ob_fewestBy ob_covered ob_queue ob_cameBy ob_parent ob_met ob_calls ob_callMany ob_calledOn ob_saved ob_many ob_width ob_numbers ob_moving), (ce_i10240 y ob_over fob_over)] ∧ va_S A s.heap H locs ∧ lv_has ls 5 [(3, .int v_1170), (2, .int v_1171), (0, .ref ob), (1, .int a1)]) ?_ (n := (10 - (0 : Int32).toInt).toNat) ⟨0, (-1), rfl, (bw (0) (10) (bkc (x := 0) (c := 0) (by decide)) (by decide)), (bw (-1) (180) (bkc (x := (-1)) (c := -1) (by decide)) (by decide)), rfl, ⟨hP, hD⟩, hS, lv_sub hl [0, 1, 2, 3] rfl⟩
  rintro n ih_1187 H locs ls st ⟨v_1170, v_1171, hn_1187, bv_1170, bv_1171, rfl, ⟨hP, hD⟩, hS, hl⟩
  refine lv_iload_n hx hb dX10_overOf_4 rfl (lv_at hl 0 rfl) ?_
  refine lv_aload_n hx hb dX10_overOf_5 rfl (lv_at hl 2 rfl) ?_
  refine va_get (D := G) (ci := 10) (v := .int ob_houseMany) (C := RX10) (T := TX10) (N := 41) hx hb hw0 inA_wsX100 hown hK.1 hP 0 rfl rfl 17 (by decide) (hw0 _ m_409) (fun _ h9 => h9) rfl dX10_overOf_6 ?_
  refine lv_icmp_ge (tgt := 51) hx hb dX10_overOf_9 (by decide) (fun c_1188 => ?_) (fun c_1188 => ?_)
  · skip
    have nc_1188 := nb_le (10) (0) c_1188 p_ob_houseMany bv_1170 (by decide)
    refine lv_iload_n hx hb dX10_overOf_51 rfl (lv_at hl 1 rfl) ?_
    exact W.iret (v := v_1171) hx hb hr (fun t ht hW => ⟨⟨v_1171, _, rfl, ⟨v_1171, bv_1171, rfl, rfl⟩, by rw [ht]; exact hP, hD⟩, hS.F ht⟩) hS.2.2 dX10_overOf_52
  · skip
    have nc_1188 := nb_nle (9) (1) c_1188 bv_1170 p_ob_houseMany (by decide)
    refine lv_aload_n hx hb dX10_overOf_12 rfl (lv_at hl 2 rfl) ?_
    refine va_get (D := G) (ci := 10) (v := .ref ob_over) (C := RX10) (T := TX10) (N := 41) hx hb hw0 inA_wsX100 hown hK.1 hP 0 rfl rfl 20 (by decide) (hw0 _ m_506) (fun _ h9 => h9) rfl dX10_overOf_13 ?_
    refine lv_bipush (v := 10) hx hb dX10_overOf_16 (by decide) ?_
    refine lv_iload_n hx hb dX10_overOf_18 rfl (lv_at hl 3 rfl) ?_
    refine lv_imul hx hb dX10_overOf_19 ?_
    refine lv_topi (fun v_1189 ev_1189 => ?_)
    have qv_1189 := ba_mul 10 (ev_1189.trans (Int32.mul_comm _ _)) p_a1 (by decide) (by decide) (by decide)
    have bv_1189 : (0 : Int) ≤ v_1189.toInt ∧ v_1189.toInt ≤ 10230 := qv_1189.2
    refine lv_iload_n hx hb dX10_overOf_20 rfl (lv_at hl 0 rfl) ?_
    refine lv_iadd hx hb dX10_overOf_21 ?_
    refine lv_topi (fun v_1190 ev_1190 => ?_)
    have qv_1190 := ba_add ev_1190 bv_1189 nc_1188.1 (by decide)
    have bv_1190 : (0 : Int) ≤ v_1190.toInt ∧ v_1190.toInt ≤ 10239 := bq_add qv_1190 bv_1189 nc_1188.1 _ _ (by decide)
    refine va_iald hx hb hK.1 hP 1 1 rfl rfl (vi bv_1190 (by decide)) dX10_overOf_22 ?_
    refine lv_topi (fun v_1191 ev_1191 => ?_)
    have bv_1191 : (-1 : Int) ≤ v_1191.toInt ∧ v_1191.toInt ≤ 180 := rd_b ev_1191 p_fob_over
    refine lv_istore (lv' := [(4, .int v_1191), (3, .int v_1170), (2, .int v_1171), (0, .ref ob), (1, .int a1)]) hx hb dX10_overOf_23 hl (by decide) rfl (fun ls hl => ?_)
    refine lv_iload hx hb dX10_overOf_25 (lv_at hl 0 rfl) ?_
    refine lv_iconst (v := (-1)) hx hb dX10_overOf_27 (by decide) ?_
    refine cutW 45 (fun H locs ls st => ∃ (v_1197 : Int32), ((-1 : Int) ≤ v_1197.toInt ∧ v_1197.toInt ≤ 180) ∧ st = [] ∧ vPD G A H [(ce_X10 ob ob_thrown ob_world ob_images ob_hasImage ob_tape ob_taped ob_five ob_size ob_at ob_from ob_token ob_value ob_faultKind ob_faultPlace ob_fresh ob_parts ob_houses ob_houseMany ob_worthOf ob_byCall ob_over ob_bestSet ob_bestOver ob_bestWorth ob_row ob_tenDebts ob_tenMany ob_fewestBy ob_covered ob_queue ob_cameBy ob_parent ob_met ob_calls ob_callMany ob_calledOn ob_saved ob_many ob_width ob_numbers ob_moving), (ce_i10240 y ob_over fob_over)] ∧ va_S A s.heap H locs ∧ lv_has ls 5 [(3, .int v_1170), (2, .int v_1197), (0, .ref ob), (1, .int a1)]) ?_ (fun J_45_1197 => ?_)
    · rintro H locs ls st ⟨v_1197, bv_1197, rfl, ⟨hP, hD⟩, hS, hl⟩
      obtain ⟨v_1198, ev_1198⟩ : ∃ z : Int32, z = v_1170 + 1 := ⟨_, rfl⟩
      have qv_1198 := ba_add ev_1198 nc_1188.1 (bkc (x := 1) (c := 1) (by decide)) (by decide)
      have bv_1198 : (1 : Int) ≤ v_1198.toInt ∧ v_1198.toInt ≤ 10 := bq_add qv_1198 nc_1188.1 (bkc (x := 1) (c := 1) (by decide)) _ _ (by decide)
      have qv_1198 : v_1198.toInt = v_1170.toInt + (1) := qv_1198
      refine lv_iinc (v := v_1198) (lv' := [(3, .int v_1198), (2, .int v_1197), (0, .ref ob), (1, .int a1)]) hx hb dX10_overOf_45 hl (k := 0) rfl (ev_1198.symm) (by decide) rfl (fun ls hl => ?_)
      refine lv_goto (tgt := 4) hx hb dX10_overOf_48 (by decide) ?_
      exact ih_1187 _ (ml_inc (hi := 10) hn_1187 qv_1198 (by decide) ((bw (0) (10) bv_1198 (by decide))).2) _ _ _ _ ⟨v_1198, v_1197, rfl, (bw (0) (10) bv_1198 (by decide)), bv_1197, rfl, ⟨hP, hD⟩, hS, lv_sub hl [0, 1, 2, 3] rfl⟩
    · skip
      refine lv_icmp_eq (tgt := 45) hx hb dX10_overOf_28 (by decide) (fun c_1199 => ?_) (fun c_1199 => ?_)
      · skip
        have nc_1199 := nb_eq (-1) (-1) c_1199 bv_1191 (bkc (x := (-1)) (c := -1) (by decide)) (by decide)
        exact J_45_1197 _ _ _ _ ⟨v_1171, bv_1171, rfl, ⟨hP, hD⟩, hS, lv_sub hl [1, 2, 3, 4] rfl⟩
      · skip
        have nc_1199 := nb_ne (0) (180) c_1199 bv_1191 (k := -1) (by decide) (by decide)
        refine lv_iload_n hx hb dX10_overOf_31 rfl (lv_at hl 2 rfl) ?_
        refine lv_iconst (v := (-1)) hx hb dX10_overOf_32 (by decide) ?_
        refine cutW 42 (fun H locs ls st => st = [] ∧ vPD G A H [(ce_X10 ob ob_thrown ob_world ob_images ob_hasImage ob_tape ob_taped ob_five ob_size ob_at ob_from ob_token ob_value ob_faultKind ob_faultPlace ob_fresh ob_parts ob_houses ob_houseMany ob_worthOf ob_byCall ob_over ob_bestSet ob_bestOver ob_bestWorth ob_row ob_tenDebts ob_tenMany ob_fewestBy ob_covered ob_queue ob_cameBy ob_parent ob_met ob_calls ob_callMany ob_calledOn ob_saved ob_many ob_width ob_numbers ob_moving), (ce_i10240 y ob_over fob_over)] ∧ va_S A s.heap H locs ∧ lv_has ls 5 [(4, .int v_1191), (3, .int v_1170), (0, .ref ob), (1, .int a1)]) ?_ (fun J_42_1201 => ?_)
        · rintro H locs ls st ⟨rfl, ⟨hP, hD⟩, hS, hl⟩
          refine lv_iload hx hb dX10_overOf_42 (lv_at hl 0 rfl) ?_
          refine lv_istore_n (lv' := [(2, .int v_1191), (4, .int v_1191), (3, .int v_1170), (0, .ref ob), (1, .int a1)]) hx hb dX10_overOf_44 rfl hl (by decide) rfl (fun ls hl => ?_)
          exact J_45_1197 _ _ _ _ ⟨v_1191, (bw (-1) (180) nc_1199.1 (by decide)), rfl, ⟨hP, hD⟩, hS, lv_sub hl [2, 0, 3, 4] rfl⟩
        · skip
          refine lv_icmp_eq (tgt := 42) hx hb dX10_overOf_33 (by decide) (fun c_1202 => ?_) (fun c_1202 => ?_)
          · skip
            have nc_1202 := nb_eq (-1) (-1) c_1202 bv_1171 (bkc (x := (-1)) (c := -1) (by decide)) (by decide)
            exact J_42_1201 _ _ _ _ ⟨rfl, ⟨hP, hD⟩, hS, lv_sub hl [0, 1, 3, 4] rfl⟩
          · skip
            have nc_1202 := nb_ne (0) (180) c_1202 bv_1171 (k := -1) (by decide) (by decide)
            refine lv_iload hx hb dX10_overOf_36 (lv_at hl 0 rfl) ?_
            refine lv_iload_n hx hb dX10_overOf_38 rfl (lv_at hl 2 rfl) ?_
            refine lv_icmp_ge (tgt := 45) hx hb dX10_overOf_39 (by decide) (fun c_1203 => ?_) (fun c_1203 => ?_)
            · skip
              have nc_1203 := nb_le (180) (0) c_1203 nc_1202.1 nc_1199.1 (by decide)
              exact J_45_1197 _ _ _ _ ⟨v_1171, (bw (-1) (180) nc_1203.1 (by decide)), rfl, ⟨hP, hD⟩, hS, lv_sub hl [1, 2, 3, 4] rfl⟩
            · skip
              have nc_1203 := nb_nle (179) (1) c_1203 nc_1199.1 nc_1202.1 (by decide)
              exact J_42_1201 _ _ _ _ ⟨rfl, ⟨hP, hD⟩, hS, lv_sub hl [0, 1, 3, 4] rfl⟩

set_option maxHeartbeats 4000000 in
set_option maxRecDepth 100000 in
theorem sX10_rounds (l : Launch) (G : va_G) (y : Nat → ClassId) (sz : Nat) (ob : Nat) (a1 : Int32) (a2 : Int32) (ob_thrown : Int32) (ob_world : Nat) (ob_images : Nat) (ob_hasImage : Nat) (ob_tape : Nat) (ob_taped : Int32) (ob_five : Nat) (ob_size : Int32) (ob_at : Int32) (ob_from : Int32) (ob_token : Int32) (ob_value : Int32) (ob_faultKind : Int32) (ob_faultPlace : Int32) (ob_fresh : Nat) (ob_parts : Nat) (ob_houses : Nat) (ob_houseMany : Int32) (ob_worthOf : Nat) (ob_byCall : Nat) (ob_over : Nat) (ob_bestSet : Int32) (ob_bestOver : Int32) (ob_bestWorth : Int32) (ob_row : Nat) (ob_tenDebts : Nat) (ob_tenMany : Int32) (ob_fewestBy : Nat) (ob_covered : Nat) (ob_queue : Nat) (ob_cameBy : Nat) (ob_parent : Nat) (ob_met : Nat) (ob_calls : Nat) (ob_callMany : Int32) (ob_calledOn : Nat) (ob_saved : Nat) (ob_many : Nat) (ob_width : Nat) (ob_numbers : Nat) (ob_moving : Nat) (fob_world : Nat → Int32) (fob_houses : Nat → Int32) (fob_worthOf : Nat → Int32) (fob_byCall : Nat → Int32) (fob_over : Nat → Int32) (p_fob_world : RWw fob_world) (p_ob_taped : (0 : Int) ≤ ob_taped.toInt ∧ ob_taped.toInt ≤ 1400) (p_ob_size : (0 : Int) ≤ ob_size.toInt ∧ ob_size.toInt ≤ 1400) (p_ob_at : (0 : Int) ≤ ob_at.toInt ∧ ob_at.toInt ≤ 1400) (p_ob_from : (0 : Int) ≤ ob_from.toInt ∧ ob_from.toInt ≤ 1400) (p_ob_token : (0 : Int) ≤ ob_token.toInt ∧ ob_token.toInt ≤ 4) (p_ob_value : (0 : Int) ≤ ob_value.toInt ∧ ob_value.toInt ≤ 9999) (p_ob_faultKind : (0 : Int) ≤ ob_faultKind.toInt ∧ ob_faultKind.toInt ≤ 3) (p_fob_houses : ∀ i, (0 : Int) ≤ (fob_houses i).toInt ∧ (fob_houses i).toInt ≤ 15) (p_ob_houseMany : (0 : Int) ≤ ob_houseMany.toInt ∧ ob_houseMany.toInt ≤ 10) (p_fob_byCall : ∀ i, (0 : Int) ≤ (fob_byCall i).toInt ∧ (fob_byCall i).toInt ≤ 1) (p_fob_over : ∀ i, (-1 : Int) ≤ (fob_over i).toInt ∧ (fob_over i).toInt ≤ 180) (p_ob_bestSet : (0 : Int) ≤ ob_bestSet.toInt ∧ ob_bestSet.toInt ≤ 1023) (p_ob_bestOver : (-1 : Int) ≤ ob_bestOver.toInt ∧ ob_bestOver.toInt ≤ 180) (p_ob_tenMany : (0 : Int) ≤ ob_tenMany.toInt ∧ ob_tenMany.toInt ≤ 10) (p_ob_callMany : (0 : Int) ≤ ob_callMany.toInt ∧ ob_callMany.toInt ≤ 16) (p_a1 : (0 : Int) ≤ a1.toInt ∧ a1.toInt ≤ 15) (p_a2 : (0 : Int) ≤ a2.toInt ∧ a2.toInt ≤ 399) : Met l yX10_rounds (Cond.code yX10_rounds cX10_rounds 7 none :: wAll) ({ frames := 4, cells := 0, slots := 0, locals := 99 }) (va_Pc [.ref ob, .int a1, .int a2] (kp G y sz [(ce_X10 ob ob_thrown ob_world ob_images ob_hasImage ob_tape ob_taped ob_five ob_size ob_at ob_from ob_token ob_value ob_faultKind ob_faultPlace ob_fresh ob_parts ob_houses ob_houseMany ob_worthOf ob_byCall ob_over ob_bestSet ob_bestOver ob_bestWorth ob_row ob_tenDebts ob_tenMany ob_fewestBy ob_covered ob_queue ob_cameBy ob_parent ob_met ob_calls ob_callMany ob_calledOn ob_saved ob_many ob_width ob_numbers ob_moving), (ce_i9080 y ob_world fob_world), (ce_i16 y ob_houses fob_houses), (ce_i16 y ob_worthOf fob_worthOf), (ce_z16 y ob_byCall fob_byCall), (ce_i10240 y ob_over fob_over)])) (va_Qv (fun (w : va_W) => (∃ (v_11325 : Int32) (v_11326 : Int32) (v_11327 : Int32) (v_11328 : Int32) (f_11329 : Nat → Int32) (f_11330 : Nat → Int32) (f_11331 : Nat → Int32) (f_11332 : Nat → Int32), ((0 : Int) ≤ v_11325.toInt ∧ v_11325.toInt ≤ 10) ∧ ((0 : Int) ≤ v_11326.toInt ∧ v_11326.toInt ≤ 1023) ∧ ((0 : Int) ≤ v_11327.toInt ∧ v_11327.toInt ≤ 180) ∧ ((0 : Int) ≤ v_11328.toInt ∧ v_11328.toInt ≤ 2147483647) ∧ (∀ i, (0 : Int) ≤ (f_11329 i).toInt ∧ (f_11329 i).toInt ≤ 15) ∧ (∀ i, (0 : Int) ≤ (f_11331 i).toInt ∧ (f_11331 i).toInt ≤ 1) ∧ (∀ i, (-1 : Int) ≤ (f_11332 i).toInt ∧ (f_11332 i).toInt ≤ 180) ∧ w = [(ce_X10 ob ob_thrown ob_world ob_images ob_hasImage ob_tape ob_taped ob_five ob_size ob_at ob_from ob_token ob_value ob_faultKind ob_faultPlace ob_fresh ob_parts ob_houses v_11325 ob_worthOf ob_byCall ob_over v_11326 v_11327 v_11328 ob_row ob_tenDebts ob_tenMany ob_fewestBy ob_covered ob_queue ob_cameBy ob_parent ob_met ob_calls ob_callMany ob_calledOn ob_saved ob_many ob_width ob_numbers ob_moving), (ce_i9080 y ob_world fob_world), (ce_i16 y ob_houses f_11329), (ce_i16 y ob_worthOf f_11330), (ce_z16 y ob_byCall f_11331), (ce_i10240 y ob_over f_11332)])) (kq G (va_A [(ce_X10 ob ob_thrown ob_world ob_images ob_hasImage ob_tape ob_taped ob_five ob_size ob_at ob_from ob_token ob_value ob_faultKind ob_faultPlace ob_fresh ob_parts ob_houses ob_houseMany ob_worthOf ob_byCall ob_over ob_bestSet ob_bestOver ob_bestWorth ob_row ob_tenDebts ob_tenMany ob_fewestBy ob_covered ob_queue ob_cameBy ob_parent ob_met ob_calls ob_callMany ob_calledOn ob_saved ob_many ob_width ob_numbers ob_moving), (ce_i9080 y ob_world fob_world), (ce_i16 y ob_houses fob_houses), (ce_i16 y ob_worthOf fob_worthOf), (ce_z16 y ob_byCall fob_byCall), (ce_i10240 y ob_over fob_over)] sz)) (va_A [(ce_X10 ob ob_thrown ob_world ob_images ob_hasImage ob_tape ob_taped ob_five ob_size ob_at ob_from ob_token ob_value ob_faultKind ob_faultPlace ob_fresh ob_parts ob_houses ob_houseMany ob_worthOf ob_byCall ob_over ob_bestSet ob_bestOver ob_bestWorth ob_row ob_tenDebts ob_tenMany ob_fewestBy ob_covered ob_queue ob_cameBy ob_parent ob_met ob_calls ob_callMany ob_calledOn ob_saved ob_many ob_width ob_numbers ob_moving), (ce_i9080 y ob_world fob_world), (ce_i16 y ob_houses fob_houses), (ce_i16 y ob_worthOf fob_worthOf), (ce_z16 y ob_byCall fob_byCall), (ce_i10240 y ob_over fob_over)] sz)) 0 0 (va_A [(ce_X10 ob ob_thrown ob_world ob_images ob_hasImage ob_tape ob_taped ob_five ob_size ob_at ob_from ob_token ob_value ob_faultKind ob_faultPlace ob_fresh ob_parts ob_houses ob_houseMany ob_worthOf ob_byCall ob_over ob_bestSet ob_bestOver ob_bestWorth ob_row ob_tenDebts ob_tenMany ob_fewestBy ob_covered ob_queue ob_cameBy ob_parent ob_met ob_calls ob_callMany ob_calledOn ob_saved ob_many ob_width ob_numbers ob_moving), (ce_i9080 y ob_world fob_world), (ce_i16 y ob_houses fob_houses), (ce_i16 y ob_worthOf fob_worthOf), (ce_z16 y ob_byCall fob_byCall), (ce_i10240 y ob_over fob_over)] sz) := by
  refine Met.ofW (cc := cX10_rounds) (maxL := 7) (ret := none) (by decide) rfl ?_
  intro p e s m args below meth c s₁ B hml hv
  obtain ⟨rfl, hsz, hP, hK, hD0⟩ := hv
  have hx := B.exec
  have hb := B.bytes
  have hr := B.returns
  have hw0 : ∀ w ∈ wAll, w.before _ s = true := fun w h => atoms_spec (ws := Cond.code yX10_rounds cX10_rounds 7 none :: wAll) B.pre w (List.mem_cons_of_mem _ h)
  have hown : s.vm.findClass RX10 = some m.cls := findClass_of_methodNamed B.named
  subst hsz
  have hD := hD0.self (sz := s.heap.size)
  generalize hAe : va_A [(ce_X10 ob ob_thrown ob_world ob_images ob_hasImage ob_tape ob_taped ob_five ob_size ob_at ob_from ob_token ob_value ob_faultKind ob_faultPlace ob_fresh ob_parts ob_houses ob_houseMany ob_worthOf ob_byCall ob_over ob_bestSet ob_bestOver ob_bestWorth ob_row ob_tenDebts ob_tenMany ob_fewestBy ob_covered ob_queue ob_cameBy ob_parent ob_met ob_calls ob_callMany ob_calledOn ob_saved ob_many ob_width ob_numbers ob_moving), (ce_i9080 y ob_world fob_world), (ce_i16 y ob_houses fob_houses), (ce_i16 y ob_worthOf fob_worthOf), (ce_z16 y ob_byCall fob_byCall), (ce_i10240 y ob_over fob_over)] s.heap.size = A at hD ⊢
  have hA : ∀ q : Nat, s.heap.size ≤ q → A q := fun q h => by rw [← hAe]; exact Or.inr h
  have hS : va_S A s.heap s.heap [] := va_S.rf
  have hP : va_P G vwCl [(ce_X10 ob ob_thrown ob_world ob_images ob_hasImage ob_tape ob_taped ob_five ob_size ob_at ob_from ob_token ob_value ob_faultKind ob_faultPlace ob_fresh ob_parts ob_houses ob_houseMany ob_worthOf ob_byCall ob_over ob_bestSet ob_bestOver ob_bestWorth ob_row ob_tenDebts ob_tenMany ob_fewestBy ob_covered ob_queue ob_cameBy ob_parent ob_met ob_calls ob_callMany ob_calledOn ob_saved ob_many ob_width ob_numbers ob_moving), (ce_i9080 y ob_world fob_world), (ce_i16 y ob_houses fob_houses), (ce_i16 y ob_worthOf fob_worthOf), (ce_z16 y ob_byCall fob_byCall), (ce_i10240 y ob_over fob_over)] s.heap := hP
  have hl := lv_entry ([.ref ob, .int a1, .int a2]) (n := 7) (Nat.le_of_ble_eq_true rfl)
  rw [lg_entry_eq]
  generalize (lg_sl ([.ref ob, .int a1, .int a2]) ++ List.replicate (7 - (lg_sl ([.ref ob, .int a1, .int a2])).length) Slot.unset).toArray = ls at hl ⊢
  have hl : lv_has ls 7 [(0, .ref ob), (1, .int a1), (2, .int a2)] := hl
  refine lv_aload_n hx hb dX10_rounds_0 rfl (lv_at hl 0 rfl) ?_
  refine lv_iload_n hx hb dX10_rounds_1 rfl (lv_at hl 1 rfl) ?_
  refine cVvm (As := [.int a1]) (rest := []) ⟨hx, hb, hml, hown, hw0⟩ hA hK hP hD hS [true, true, true, true, true] (sX10_lists l G y _ ob a1 ob_thrown ob_world ob_images ob_hasImage ob_tape ob_taped ob_five ob_size ob_at ob_from ob_token ob_value ob_faultKind ob_faultPlace ob_fresh ob_parts ob_houses ob_houseMany ob_worthOf ob_byCall ob_over ob_bestSet ob_bestOver ob_bestWorth ob_row ob_tenDebts ob_tenMany ob_fewestBy ob_covered ob_queue ob_cameBy ob_parent ob_met ob_calls ob_callMany ob_calledOn ob_saved ob_many ob_width ob_numbers ob_moving fob_world fob_houses fob_worthOf fob_byCall p_fob_world p_ob_taped p_ob_size p_ob_at p_ob_from p_ob_token p_ob_value p_ob_faultKind p_fob_houses p_ob_houseMany p_fob_byCall p_ob_bestSet p_ob_bestOver p_ob_tenMany p_ob_callMany) rfl ⟨(callB_of 1 hw0 (gA m_551) rfl rfl rfl (hw0 _ m_41) (hw0 _ m_662) cb_X10_lists ⟨Nat.le_of_ble_eq_true rfl, Nat.le_of_ble_eq_true rfl⟩), (hw0 _ m_663), (hw0 _ m_664)⟩ (ci := 10) (q := (RX10, TX10, 41)) rfl rfl rfl hl.1 (Nat.le_of_ble_eq_true rfl) dX10_rounds_2 ⟨Nat.le_of_ble_eq_true rfl, Nat.le_of_ble_eq_true rfl⟩ (fun w_1001 H locs hw_1001 hP hD hS => ?_)
  obtain ⟨v_1002, f_1003, f_1004, f_1005, bv_1002, bf_1003, bf_1005, rfl⟩ := hw_1001
  obtain ⟨hP, hD⟩ : vPD G A H [(ce_X10 ob ob_thrown ob_world ob_images ob_hasImage ob_tape ob_taped ob_five ob_size ob_at ob_from ob_token ob_value ob_faultKind ob_faultPlace ob_fresh ob_parts ob_houses v_1002 ob_worthOf ob_byCall ob_over ob_bestSet ob_bestOver ob_bestWorth ob_row ob_tenDebts ob_tenMany ob_fewestBy ob_covered ob_queue ob_cameBy ob_parent ob_met ob_calls ob_callMany ob_calledOn ob_saved ob_many ob_width ob_numbers ob_moving), (ce_i9080 y ob_world fob_world), (ce_i16 y ob_houses f_1003), (ce_i16 y ob_worthOf f_1004), (ce_z16 y ob_byCall f_1005), (ce_i10240 y ob_over fob_over)] := ⟨hP, hD⟩
  refine lv_aload_n hx hb dX10_rounds_5 rfl (lv_at hl 0 rfl) ?_
  refine lv_iload_n hx hb dX10_rounds_6 rfl (lv_at hl 1 rfl) ?_
  refine lv_iconst (v := 0) hx hb dX10_rounds_7 (by decide) ?_
  refine lv_iconst (v := 1) hx hb dX10_rounds_8 (by decide) ?_
  refine lv_aload_n hx hb dX10_rounds_9 rfl (lv_at hl 0 rfl) ?_
  refine va_get (D := G) (ci := 10) (v := .int v_1002) (C := RX10) (T := TX10) (N := 41) hx hb hw0 inA_wsX100 hown hK.1 hP 0 rfl rfl 17 (by decide) (hw0 _ m_409) (fun _ h9 => h9) rfl dX10_rounds_10 ?_
  refine lv_ishl hx hb dX10_rounds_13 ?_
  refine lv_topi (fun v_1006 ev_1006 => ?_)
  have bv_1006 : (1 : Int) ≤ v_1006.toInt ∧ v_1006.toInt ≤ 1024 := ba_shl 0 10 ev_1006 bv_1002 (by decide)
  refine lv_iconst (v := 1) hx hb dX10_rounds_14 (by decide) ?_
  refine lv_isub hx hb dX10_rounds_15 ?_
  refine lv_topi (fun v_1007 ev_1007 => ?_)
  have qv_1007 := ba_sub ev_1007 bv_1006 (bkc (x := 1) (c := 1) (by decide)) (by decide)
  have bv_1007 : (0 : Int) ≤ v_1007.toInt ∧ v_1007.toInt ≤ 1023 := bq_sub qv_1007 bv_1006 (bkc (x := 1) (c := 1) (by decide)) _ _ (by decide)
  have qv_1007 : v_1007.toInt = v_1006.toInt - (1) := qv_1007
  refine lv_iload_n hx hb dX10_rounds_16 rfl (lv_at hl 2 rfl) ?_
  refine cVvm (As := [.int a1, .int 0, .int v_1007, .int a2]) (rest := []) ⟨hx, hb, hml, hown, hw0⟩ hA hK hP hD hS [true, true, true, false, true, true] (sX10_goesThrough l G y _ ob a1 0 v_1007 a2 ob_thrown ob_world ob_images ob_hasImage ob_tape ob_taped ob_five ob_size ob_at ob_from ob_token ob_value ob_faultKind ob_faultPlace ob_fresh ob_parts ob_houses v_1002 ob_worthOf ob_byCall ob_over ob_bestSet ob_bestOver ob_bestWorth ob_row ob_tenDebts ob_tenMany ob_fewestBy ob_covered ob_queue ob_cameBy ob_parent ob_met ob_calls ob_callMany ob_calledOn ob_saved ob_many ob_width ob_numbers ob_moving fob_world f_1003 f_1005 fob_over p_fob_world p_ob_taped p_ob_size p_ob_at p_ob_from p_ob_token p_ob_value p_ob_faultKind bf_1003 bv_1002 bf_1005 p_fob_over p_ob_bestSet p_ob_bestOver p_ob_tenMany p_ob_callMany p_a1 (bw (0) (180) (bkc (x := 0) (c := 0) (by decide)) (by decide)) bv_1007 (bw (0) (405) p_a2 (by decide))) rfl ⟨(callB_of 4 hw0 (gA m_505) rfl rfl rfl (hw0 _ m_41) (hw0 _ m_467) cb_X10_goesThrough ⟨Nat.le_of_ble_eq_true rfl, Nat.le_of_ble_eq_true rfl⟩), (hw0 _ m_468), (hw0 _ m_469)⟩ (ci := 10) (q := (RX10, TX10, 41)) rfl rfl rfl hl.1 (Nat.le_of_ble_eq_true rfl) dX10_rounds_17 ⟨Nat.le_of_ble_eq_true rfl, Nat.le_of_ble_eq_true rfl⟩ (fun w_1008 H locs hw_1008 hP hD hS => ?_)
  obtain ⟨f_1009, bf_1009, rfl⟩ := hw_1008
  obtain ⟨hP, hD⟩ : vPD G A H [(ce_X10 ob ob_thrown ob_world ob_images ob_hasImage ob_tape ob_taped ob_five ob_size ob_at ob_from ob_token ob_value ob_faultKind ob_faultPlace ob_fresh ob_parts ob_houses v_1002 ob_worthOf ob_byCall ob_over ob_bestSet ob_bestOver ob_bestWorth ob_row ob_tenDebts ob_tenMany ob_fewestBy ob_covered ob_queue ob_cameBy ob_parent ob_met ob_calls ob_callMany ob_calledOn ob_saved ob_many ob_width ob_numbers ob_moving), (ce_i9080 y ob_world fob_world), (ce_i16 y ob_houses f_1003), (ce_i16 y ob_worthOf f_1004), (ce_z16 y ob_byCall f_1005), (ce_i10240 y ob_over f_1009)] := ⟨hP, hD⟩
  refine lv_aload_n hx hb dX10_rounds_20 rfl (lv_at hl 0 rfl) ?_
  refine lv_iconst (v := 0) hx hb dX10_rounds_21 (by decide) ?_
  refine va_put (D := G) (ci := 10) (v := .int 0) (ty := .int) (C := RX10) (T := TX10) (N := 41) hx hb hw0 inA_wsX100 tyX10 tyX10_ok nmX10 hown hK.1 hP hD hS 0 rfl rfl 21 (by decide) (hw0 _ m_657) (fun _ h9 => h9) rfl fd_X10_21 rfl rfl (Nat.le_of_ble_eq_true rfl) dX10_rounds_22 (fun H locs hP hD hS => ?_)
  obtain ⟨hP, hD⟩ : vPD G A H [(ce_X10 ob ob_thrown ob_world ob_images ob_hasImage ob_tape ob_taped ob_five ob_size ob_at ob_from ob_token ob_value ob_faultKind ob_faultPlace ob_fresh ob_parts ob_houses v_1002 ob_worthOf ob_byCall ob_over 0 ob_bestOver ob_bestWorth ob_row ob_tenDebts ob_tenMany ob_fewestBy ob_covered ob_queue ob_cameBy ob_parent ob_met ob_calls ob_callMany ob_calledOn ob_saved ob_many ob_width ob_numbers ob_moving), (ce_i9080 y ob_world fob_world), (ce_i16 y ob_houses f_1003), (ce_i16 y ob_worthOf f_1004), (ce_z16 y ob_byCall f_1005), (ce_i10240 y ob_over f_1009)] := ⟨hP, hD⟩
  refine lv_aload_n hx hb dX10_rounds_25 rfl (lv_at hl 0 rfl) ?_
  refine lv_iconst (v := 0) hx hb dX10_rounds_26 (by decide) ?_
  refine va_put (D := G) (ci := 10) (v := .int 0) (ty := .int) (C := RX10) (T := TX10) (N := 41) hx hb hw0 inA_wsX100 tyX10 tyX10_ok nmX10 hown hK.1 hP hD hS 0 rfl rfl 22 (by decide) (hw0 _ m_583) (fun _ h9 => h9) rfl fd_X10_22 rfl rfl (Nat.le_of_ble_eq_true rfl) dX10_rounds_27 (fun H locs hP hD hS => ?_)
  obtain ⟨hP, hD⟩ : vPD G A H [(ce_X10 ob ob_thrown ob_world ob_images ob_hasImage ob_tape ob_taped ob_five ob_size ob_at ob_from ob_token ob_value ob_faultKind ob_faultPlace ob_fresh ob_parts ob_houses v_1002 ob_worthOf ob_byCall ob_over 0 0 ob_bestWorth ob_row ob_tenDebts ob_tenMany ob_fewestBy ob_covered ob_queue ob_cameBy ob_parent ob_met ob_calls ob_callMany ob_calledOn ob_saved ob_many ob_width ob_numbers ob_moving), (ce_i9080 y ob_world fob_world), (ce_i16 y ob_houses f_1003), (ce_i16 y ob_worthOf f_1004), (ce_z16 y ob_byCall f_1005), (ce_i10240 y ob_over f_1009)] := ⟨hP, hD⟩
  refine lv_aload_n hx hb dX10_rounds_30 rfl (lv_at hl 0 rfl) ?_
  refine lv_iconst (v := 0) hx hb dX10_rounds_31 (by decide) ?_
  refine va_put (D := G) (ci := 10) (v := .int 0) (ty := .int) (C := RX10) (T := TX10) (N := 41) hx hb hw0 inA_wsX100 tyX10 tyX10_ok nmX10 hown hK.1 hP hD hS 0 rfl rfl 23 (by decide) (hw0 _ m_665) (fun _ h9 => h9) rfl fd_X10_23 rfl rfl (Nat.le_of_ble_eq_true rfl) dX10_rounds_32 (fun H locs hP hD hS => ?_)
  obtain ⟨hP, hD⟩ : vPD G A H [(ce_X10 ob ob_thrown ob_world ob_images ob_hasImage ob_tape ob_taped ob_five ob_size ob_at ob_from ob_token ob_value ob_faultKind ob_faultPlace ob_fresh ob_parts ob_houses v_1002 ob_worthOf ob_byCall ob_over 0 0 0 ob_row ob_tenDebts ob_tenMany ob_fewestBy ob_covered ob_queue ob_cameBy ob_parent ob_met ob_calls ob_callMany ob_calledOn ob_saved ob_many ob_width ob_numbers ob_moving), (ce_i9080 y ob_world fob_world), (ce_i16 y ob_houses f_1003), (ce_i16 y ob_worthOf f_1004), (ce_z16 y ob_byCall f_1005), (ce_i10240 y ob_over f_1009)] := ⟨hP, hD⟩
  refine lv_iconst (v := 1) hx hb dX10_rounds_35 (by decide) ?_
  refine lv_istore_n (lv' := [(3, .int 1), (0, .ref ob), (1, .int a1), (2, .int a2)]) hx hb dX10_rounds_36 rfl hl (by decide) rfl (fun ls hl => ?_)
  refine loopX (fun n H locs ls st => ∃ (v_5851 : Int32) (v_5852 : Int32) (v_5853 : Int32) (v_5854 : Int32), (1024 - v_5851.toInt).toNat = n ∧ ((1 : Int) ≤ v_5851.toInt ∧ v_5851.toInt ≤ 1024) ∧ ((0 : Int) ≤ v_5852.toInt ∧ v_5852.toInt ≤ 1023) ∧ ((0 : Int) ≤ v_5853.toInt ∧ v_5853.toInt ≤ 180) ∧ ((0 : Int) ≤ v_5854.toInt ∧ v_5854.toInt ≤ 2147483647) ∧ st = [] ∧ vPD G A H [(ce_X10 ob ob_thrown ob_world ob_images ob_hasImage ob_tape ob_taped ob_five ob_size ob_at ob_from ob_token ob_value ob_faultKind ob_faultPlace ob_fresh ob_parts ob_houses v_1002 ob_worthOf ob_byCall ob_over v_5852 v_5853 v_5854 ob_row ob_tenDebts ob_tenMany ob_fewestBy ob_covered ob_queue ob_cameBy ob_parent ob_met ob_calls ob_callMany ob_calledOn ob_saved ob_many ob_width ob_numbers ob_moving), (ce_i9080 y ob_world fob_world), (ce_i16 y ob_houses f_1003), (ce_i16 y ob_worthOf f_1004), (ce_z16 y ob_byCall f_1005), (ce_i10240 y ob_over f_1009)] ∧ va_S A s.heap H locs ∧ lv_has ls 7 [(3, .int v_5851), (0, .ref ob)]) ?_ (n := (1024 - (1 : Int32).toInt).toNat) ⟨1, 0, 0, 0, rfl, (bw (1) (1024) (bkc (x := 1) (c := 1) (by decide)) (by decide)), (bw (0) (1023) (bkc (x := 0) (c := 0) (by decide)) (by decide)), (bw (0) (180) (bkc (x := 0) (c := 0) (by decide)) (by decide)), (bw (0) (2147483647) (bkc (x := 0) (c := 0) (by decide)) (by decide)), rfl, ⟨hP, hD⟩, hS, lv_sub hl [0, 1] rfl⟩
  rintro n ih_6258 H locs ls st ⟨v_5851, v_5852, v_5853, v_5854, hn_6258, bv_5851, bv_5852, bv_5853, bv_5854, rfl, ⟨hP, hD⟩, hS, hl⟩
  refine lv_iload_n hx hb dX10_rounds_37 rfl (lv_at hl 0 rfl) ?_
  refine lv_iconst (v := 1) hx hb dX10_rounds_38 (by decide) ?_
  refine lv_aload_n hx hb dX10_rounds_39 rfl (lv_at hl 1 rfl) ?_
  refine va_get (D := G) (ci := 10) (v := .int v_1002) (C := RX10) (T := TX10) (N := 41) hx hb hw0 inA_wsX100 hown hK.1 hP 0 rfl rfl 17 (by decide) (hw0 _ m_409) (fun _ h9 => h9) rfl dX10_rounds_40 ?_
  refine lv_ishl hx hb dX10_rounds_43 ?_
  refine lv_topi (fun v_6259 ev_6259 => ?_)
  obtain rfl : v_1006 = v_6259 := (ev_6259.trans (ev_1006.symm)).symm
  refine lv_icmp_ge (tgt := 167) hx hb dX10_rounds_44 (by decide) (fun c_6260 => ?_) (fun c_6260 => ?_)
  · skip
    have nc_6260 := nb_le (1024) (1) c_6260 bv_1006 bv_5851 (by decide)
    exact W.vret hx hb hr (fun t ht hW => ⟨⟨_, rfl, ⟨v_1002, v_5852, v_5853, v_5854, f_1003, f_1004, f_1005, f_1009, bv_1002, bv_5852, bv_5853, bv_5854, bf_1003, bf_1005, bf_1009, rfl⟩, by rw [ht]; exact hP, hD⟩, hS.F ht⟩) hS.2.2 dX10_rounds_167
  · skip
    have nc_6260 := nb_nle (1023) (2) c_6260 bv_5851 bv_1006 (by decide)
    refine lv_aload_n hx hb dX10_rounds_47 rfl (lv_at hl 1 rfl) ?_
    refine lv_iload_n hx hb dX10_rounds_48 rfl (lv_at hl 0 rfl) ?_
    refine cVim (As := [.int v_5851]) (rest := []) ⟨hx, hb, hml, hown, hw0⟩ hA hK hP hD hS [true, false, false, false, false, true] (sX10_overOf l G y _ ob v_5851 ob_thrown ob_world ob_images ob_hasImage ob_tape ob_taped ob_five ob_size ob_at ob_from ob_token ob_value ob_faultKind ob_faultPlace ob_fresh ob_parts ob_houses v_1002 ob_worthOf ob_byCall ob_over v_5852 v_5853 v_5854 ob_row ob_tenDebts ob_tenMany ob_fewestBy ob_covered ob_queue ob_cameBy ob_parent ob_met ob_calls ob_callMany ob_calledOn ob_saved ob_many ob_width ob_numbers ob_moving f_1009 p_ob_taped p_ob_size p_ob_at p_ob_from p_ob_token p_ob_value p_ob_faultKind bv_1002 bf_1009 bv_5852 (bw (-1) (180) bv_5853 (by decide)) p_ob_tenMany p_ob_callMany (bw (0) (1023) nc_6260.1 (by decide))) rfl ⟨(callB_of 1 hw0 (gA m_584) rfl rfl rfl (hw0 _ m_41) (hw0 _ m_471) cb_X10_overOf ⟨Nat.le_of_ble_eq_true rfl, Nat.le_of_ble_eq_true rfl⟩), (hw0 _ m_472), (hw0 _ m_473)⟩ (ci := 10) (q := (RX10, TX10, 41)) rfl rfl rfl hl.1 (Nat.le_of_ble_eq_true rfl) dX10_rounds_49 ⟨Nat.le_of_ble_eq_true rfl, Nat.le_of_ble_eq_true rfl⟩ (fun r_6261 w_6261 H locs hw_6261 hP hD hS => ?_)
    obtain ⟨v_6262, bv_6262, er_6261, rfl⟩ := hw_6261
    subst r_6261
    obtain ⟨hP, hD⟩ : vPD G A H [(ce_X10 ob ob_thrown ob_world ob_images ob_hasImage ob_tape ob_taped ob_five ob_size ob_at ob_from ob_token ob_value ob_faultKind ob_faultPlace ob_fresh ob_parts ob_houses v_1002 ob_worthOf ob_byCall ob_over v_5852 v_5853 v_5854 ob_row ob_tenDebts ob_tenMany ob_fewestBy ob_covered ob_queue ob_cameBy ob_parent ob_met ob_calls ob_callMany ob_calledOn ob_saved ob_many ob_width ob_numbers ob_moving), (ce_i9080 y ob_world fob_world), (ce_i16 y ob_houses f_1003), (ce_i16 y ob_worthOf f_1004), (ce_z16 y ob_byCall f_1005), (ce_i10240 y ob_over f_1009)] := ⟨hP, hD⟩
    refine lv_istore (lv' := [(4, .int v_6262), (3, .int v_5851), (0, .ref ob)]) hx hb dX10_rounds_52 hl (by decide) rfl (fun ls hl => ?_)
    refine lv_iload hx hb dX10_rounds_54 (lv_at hl 0 rfl) ?_
    refine lv_iconst (v := (-1)) hx hb dX10_rounds_56 (by decide) ?_
    refine cutW 161 (fun H locs ls st => ∃ (v_6461 : Int32) (v_6462 : Int32) (v_6463 : Int32), ((0 : Int) ≤ v_6461.toInt ∧ v_6461.toInt ≤ 1023) ∧ ((0 : Int) ≤ v_6462.toInt ∧ v_6462.toInt ≤ 180) ∧ ((0 : Int) ≤ v_6463.toInt ∧ v_6463.toInt ≤ 2147483647) ∧ st = [] ∧ vPD G A H [(ce_X10 ob ob_thrown ob_world ob_images ob_hasImage ob_tape ob_taped ob_five ob_size ob_at ob_from ob_token ob_value ob_faultKind ob_faultPlace ob_fresh ob_parts ob_houses v_1002 ob_worthOf ob_byCall ob_over v_6461 v_6462 v_6463 ob_row ob_tenDebts ob_tenMany ob_fewestBy ob_covered ob_queue ob_cameBy ob_parent ob_met ob_calls ob_callMany ob_calledOn ob_saved ob_many ob_width ob_numbers ob_moving), (ce_i9080 y ob_world fob_world), (ce_i16 y ob_houses f_1003), (ce_i16 y ob_worthOf f_1004), (ce_z16 y ob_byCall f_1005), (ce_i10240 y ob_over f_1009)] ∧ va_S A s.heap H locs ∧ lv_has ls 7 [(3, .int v_5851), (0, .ref ob)]) ?_ (fun J_161_6463 => ?_)
    · rintro H locs ls st ⟨v_6461, v_6462, v_6463, bv_6461, bv_6462, bv_6463, rfl, ⟨hP, hD⟩, hS, hl⟩
      obtain ⟨v_6464, ev_6464⟩ : ∃ z : Int32, z = v_5851 + 1 := ⟨_, rfl⟩
      have qv_6464 := ba_add ev_6464 nc_6260.1 (bkc (x := 1) (c := 1) (by decide)) (by decide)
      have bv_6464 : (2 : Int) ≤ v_6464.toInt ∧ v_6464.toInt ≤ 1024 := bq_add qv_6464 nc_6260.1 (bkc (x := 1) (c := 1) (by decide)) _ _ (by decide)
      have qv_6464 : v_6464.toInt = v_5851.toInt + (1) := qv_6464
      refine lv_iinc (v := v_6464) (lv' := [(3, .int v_6464), (0, .ref ob)]) hx hb dX10_rounds_161 hl (k := 0) rfl (ev_6464.symm) (by decide) rfl (fun ls hl => ?_)
      refine lv_goto (tgt := 37) hx hb dX10_rounds_164 (by decide) ?_
      exact ih_6258 _ (ml_inc (hi := 1024) hn_6258 qv_6464 (by decide) ((bw (1) (1024) bv_6464 (by decide))).2) _ _ _ _ ⟨v_6464, v_6461, v_6462, v_6463, rfl, (bw (1) (1024) bv_6464 (by decide)), bv_6461, bv_6462, bv_6463, rfl, ⟨hP, hD⟩, hS, lv_sub hl [0, 1] rfl⟩
    · skip
      refine lv_icmp_ne (tgt := 63) hx hb dX10_rounds_57 (by decide) (fun c_6465 => ?_) (fun c_6465 => ?_)
      · skip
        have nc_6465 := nb_ne (0) (180) c_6465 bv_6262 (k := -1) (by decide) (by decide)
        refine lv_iconst (v := 0) hx hb dX10_rounds_63 (by decide) ?_
        refine lv_istore (lv' := [(5, .int 0), (4, .int v_6262), (3, .int v_5851), (0, .ref ob)]) hx hb dX10_rounds_64 hl (by decide) rfl (fun ls hl => ?_)
        refine lv_iconst (v := 0) hx hb dX10_rounds_66 (by decide) ?_
        refine lv_istore (lv' := [(6, .int 0), (5, .int 0), (4, .int v_6262), (3, .int v_5851), (0, .ref ob)]) hx hb dX10_rounds_67 hl (by decide) rfl (fun ls hl => ?_)
        refine loopX (fun n H locs ls st => ∃ (v_6631 : Int32) (v_6632 : Int32), (10 - v_6631.toInt).toNat = n ∧ ((0 : Int) ≤ v_6631.toInt ∧ v_6631.toInt ≤ 10) ∧ st = [] ∧ vPD G A H [(ce_X10 ob ob_thrown ob_world ob_images ob_hasImage ob_tape ob_taped ob_five ob_size ob_at ob_from ob_token ob_value ob_faultKind ob_faultPlace ob_fresh ob_parts ob_houses v_1002 ob_worthOf ob_byCall ob_over v_5852 v_5853 v_5854 ob_row ob_tenDebts ob_tenMany ob_fewestBy ob_covered ob_queue ob_cameBy ob_parent ob_met ob_calls ob_callMany ob_calledOn ob_saved ob_many ob_width ob_numbers ob_moving), (ce_i9080 y ob_world fob_world), (ce_i16 y ob_houses f_1003), (ce_i16 y ob_worthOf f_1004), (ce_z16 y ob_byCall f_1005), (ce_i10240 y ob_over f_1009)] ∧ va_S A s.heap H locs ∧ lv_has ls 7 [(6, .int v_6631), (5, .int v_6632), (4, .int v_6262), (3, .int v_5851), (0, .ref ob)]) ?_ (n := (10 - (0 : Int32).toInt).toNat) ⟨0, 0, rfl, (bw (0) (10) (bkc (x := 0) (c := 0) (by decide)) (by decide)), rfl, ⟨hP, hD⟩, hS, lv_sub hl [0, 1, 2, 3, 4] rfl⟩
        rintro n ih_6647 H locs ls st ⟨v_6631, v_6632, hn_6647, bv_6631, rfl, ⟨hP, hD⟩, hS, hl⟩
        refine lv_iload hx hb dX10_rounds_69 (lv_at hl 0 rfl) ?_
        refine lv_aload_n hx hb dX10_rounds_71 rfl (lv_at hl 4 rfl) ?_
        refine va_get (D := G) (ci := 10) (v := .int v_1002) (C := RX10) (T := TX10) (N := 41) hx hb hw0 inA_wsX100 hown hK.1 hP 0 rfl rfl 17 (by decide) (hw0 _ m_409) (fun _ h9 => h9) rfl dX10_rounds_72 ?_
        refine lv_icmp_ge (tgt := 114) hx hb dX10_rounds_75 (by decide) (fun c_6648 => ?_) (fun c_6648 => ?_)
        · skip
          have nc_6648 := nb_le (10) (0) c_6648 bv_1002 bv_6631 (by decide)
          refine lv_iload hx hb dX10_rounds_114 (lv_at hl 1 rfl) ?_
          refine lv_aload_n hx hb dX10_rounds_116 rfl (lv_at hl 4 rfl) ?_
          refine va_get (D := G) (ci := 10) (v := .int v_5854) (C := RX10) (T := TX10) (N := 41) hx hb hw0 inA_wsX100 hown hK.1 hP 0 rfl rfl 23 (by decide) (hw0 _ m_665) (fun _ h9 => h9) rfl dX10_rounds_117 ?_
          refine lv_icmp_lt (tgt := 161) hx hb dX10_rounds_120 (by decide) (fun c_6649 => ?_) (fun c_6649 => ?_)
          · skip
            have nc_6649 := nb_lt (2147483646) (0) c_6649 (btop v_6632) bv_5854 (by decide)
            exact J_161_6463 _ _ _ _ ⟨v_5852, v_5853, v_5854, bv_5852, bv_5853, nc_6649.2.1, rfl, ⟨hP, hD⟩, hS, lv_sub hl [3, 4] rfl⟩
          · skip
            have nc_6649 := nb_nlt (2147483647) (0) c_6649 bv_5854 (btop v_6632) (by decide)
            refine lv_iload hx hb dX10_rounds_123 (lv_at hl 1 rfl) ?_
            refine lv_aload_n hx hb dX10_rounds_125 rfl (lv_at hl 4 rfl) ?_
            refine va_get (D := G) (ci := 10) (v := .int v_5854) (C := RX10) (T := TX10) (N := 41) hx hb hw0 inA_wsX100 hown hK.1 hP 0 rfl rfl 23 (by decide) (hw0 _ m_665) (fun _ h9 => h9) rfl dX10_rounds_126 ?_
            refine cutW 144 (fun H locs ls st => st = [] ∧ vPD G A H [(ce_X10 ob ob_thrown ob_world ob_images ob_hasImage ob_tape ob_taped ob_five ob_size ob_at ob_from ob_token ob_value ob_faultKind ob_faultPlace ob_fresh ob_parts ob_houses v_1002 ob_worthOf ob_byCall ob_over v_5852 v_5853 v_5854 ob_row ob_tenDebts ob_tenMany ob_fewestBy ob_covered ob_queue ob_cameBy ob_parent ob_met ob_calls ob_callMany ob_calledOn ob_saved ob_many ob_width ob_numbers ob_moving), (ce_i9080 y ob_world fob_world), (ce_i16 y ob_houses f_1003), (ce_i16 y ob_worthOf f_1004), (ce_z16 y ob_byCall f_1005), (ce_i10240 y ob_over f_1009)] ∧ va_S A s.heap H locs ∧ lv_has ls 7 [(5, .int v_6632), (4, .int v_6262), (3, .int v_5851), (0, .ref ob)]) ?_ (fun J_144_6651 => ?_)
            · rintro H locs ls st ⟨rfl, ⟨hP, hD⟩, hS, hl⟩
              refine lv_aload_n hx hb dX10_rounds_144 rfl (lv_at hl 3 rfl) ?_
              refine lv_iload_n hx hb dX10_rounds_145 rfl (lv_at hl 2 rfl) ?_
              refine va_put (D := G) (ci := 10) (v := .int v_5851) (ty := .int) (C := RX10) (T := TX10) (N := 41) hx hb hw0 inA_wsX100 tyX10 tyX10_ok nmX10 hown hK.1 hP hD hS 0 rfl rfl 21 (by decide) (hw0 _ m_657) (fun _ h9 => h9) rfl fd_X10_21 rfl rfl (Nat.le_of_ble_eq_true rfl) dX10_rounds_146 (fun H locs hP hD hS => ?_)
              obtain ⟨hP, hD⟩ : vPD G A H [(ce_X10 ob ob_thrown ob_world ob_images ob_hasImage ob_tape ob_taped ob_five ob_size ob_at ob_from ob_token ob_value ob_faultKind ob_faultPlace ob_fresh ob_parts ob_houses v_1002 ob_worthOf ob_byCall ob_over v_5851 v_5853 v_5854 ob_row ob_tenDebts ob_tenMany ob_fewestBy ob_covered ob_queue ob_cameBy ob_parent ob_met ob_calls ob_callMany ob_calledOn ob_saved ob_many ob_width ob_numbers ob_moving), (ce_i9080 y ob_world fob_world), (ce_i16 y ob_houses f_1003), (ce_i16 y ob_worthOf f_1004), (ce_z16 y ob_byCall f_1005), (ce_i10240 y ob_over f_1009)] := ⟨hP, hD⟩
              refine lv_aload_n hx hb dX10_rounds_149 rfl (lv_at hl 3 rfl) ?_
              refine lv_iload hx hb dX10_rounds_150 (lv_at hl 1 rfl) ?_
              refine va_put (D := G) (ci := 10) (v := .int v_6262) (ty := .int) (C := RX10) (T := TX10) (N := 41) hx hb hw0 inA_wsX100 tyX10 tyX10_ok nmX10 hown hK.1 hP hD hS 0 rfl rfl 22 (by decide) (hw0 _ m_583) (fun _ h9 => h9) rfl fd_X10_22 rfl rfl (Nat.le_of_ble_eq_true rfl) dX10_rounds_152 (fun H locs hP hD hS => ?_)
              obtain ⟨hP, hD⟩ : vPD G A H [(ce_X10 ob ob_thrown ob_world ob_images ob_hasImage ob_tape ob_taped ob_five ob_size ob_at ob_from ob_token ob_value ob_faultKind ob_faultPlace ob_fresh ob_parts ob_houses v_1002 ob_worthOf ob_byCall ob_over v_5851 v_6262 v_5854 ob_row ob_tenDebts ob_tenMany ob_fewestBy ob_covered ob_queue ob_cameBy ob_parent ob_met ob_calls ob_callMany ob_calledOn ob_saved ob_many ob_width ob_numbers ob_moving), (ce_i9080 y ob_world fob_world), (ce_i16 y ob_houses f_1003), (ce_i16 y ob_worthOf f_1004), (ce_z16 y ob_byCall f_1005), (ce_i10240 y ob_over f_1009)] := ⟨hP, hD⟩
              refine lv_aload_n hx hb dX10_rounds_155 rfl (lv_at hl 3 rfl) ?_
              refine lv_iload hx hb dX10_rounds_156 (lv_at hl 0 rfl) ?_
              refine va_put (D := G) (ci := 10) (v := .int v_6632) (ty := .int) (C := RX10) (T := TX10) (N := 41) hx hb hw0 inA_wsX100 tyX10 tyX10_ok nmX10 hown hK.1 hP hD hS 0 rfl rfl 23 (by decide) (hw0 _ m_665) (fun _ h9 => h9) rfl fd_X10_23 rfl rfl (Nat.le_of_ble_eq_true rfl) dX10_rounds_158 (fun H locs hP hD hS => ?_)
              obtain ⟨hP, hD⟩ : vPD G A H [(ce_X10 ob ob_thrown ob_world ob_images ob_hasImage ob_tape ob_taped ob_five ob_size ob_at ob_from ob_token ob_value ob_faultKind ob_faultPlace ob_fresh ob_parts ob_houses v_1002 ob_worthOf ob_byCall ob_over v_5851 v_6262 v_6632 ob_row ob_tenDebts ob_tenMany ob_fewestBy ob_covered ob_queue ob_cameBy ob_parent ob_met ob_calls ob_callMany ob_calledOn ob_saved ob_many ob_width ob_numbers ob_moving), (ce_i9080 y ob_world fob_world), (ce_i16 y ob_houses f_1003), (ce_i16 y ob_worthOf f_1004), (ce_z16 y ob_byCall f_1005), (ce_i10240 y ob_over f_1009)] := ⟨hP, hD⟩
              exact J_161_6463 _ _ _ _ ⟨v_5851, v_6262, v_6632, (bw (0) (1023) nc_6260.1 (by decide)), nc_6465.1, nc_6649.2.1, rfl, ⟨hP, hD⟩, hS, lv_sub hl [2, 3] rfl⟩
            · skip
              refine lv_icmp_ne (tgt := 144) hx hb dX10_rounds_129 (by decide) (fun c_6652 => ?_) (fun c_6652 => ?_)
              · skip
                exact J_144_6651 _ _ _ _ ⟨rfl, ⟨hP, hD⟩, hS, lv_sub hl [1, 2, 3, 4] rfl⟩
              · skip
                have nc_6652 := nb_eq (0) (2147483647) c_6652 nc_6649.2.1 nc_6649.1 (by decide)
                refine lv_iload hx hb dX10_rounds_132 (lv_at hl 2 rfl) ?_
                refine lv_aload_n hx hb dX10_rounds_134 rfl (lv_at hl 4 rfl) ?_
                refine va_get (D := G) (ci := 10) (v := .int v_5853) (C := RX10) (T := TX10) (N := 41) hx hb hw0 inA_wsX100 hown hK.1 hP 0 rfl rfl 22 (by decide) (hw0 _ m_583) (fun _ h9 => h9) rfl dX10_rounds_135 ?_
                refine lv_icmp_lt (tgt := 144) hx hb dX10_rounds_138 (by decide) (fun c_6653 => ?_) (fun c_6653 => ?_)
                · skip
                  have nc_6653 := nb_lt (179) (1) c_6653 nc_6465.1 bv_5853 (by decide)
                  exact J_144_6651 _ _ _ _ ⟨rfl, ⟨hP, hD⟩, hS, lv_sub hl [1, 2, 3, 4] rfl⟩
                · skip
                  have nc_6653 := nb_nlt (180) (0) c_6653 bv_5853 nc_6465.1 (by decide)
                  refine lv_goto (tgt := 161) hx hb dX10_rounds_141 (by decide) ?_
                  exact J_161_6463 _ _ _ _ ⟨v_5852, v_5853, v_5854, bv_5852, nc_6653.1, nc_6652.2.1, rfl, ⟨hP, hD⟩, hS, lv_sub hl [3, 4] rfl⟩
        · skip
          have nc_6648 := nb_nle (9) (1) c_6648 bv_6631 bv_1002 (by decide)
          refine lv_iload hx hb dX10_rounds_78 (lv_at hl 1 rfl) ?_
          refine lv_iload_n hx hb dX10_rounds_80 rfl (lv_at hl 3 rfl) ?_
          refine lv_iload hx hb dX10_rounds_81 (lv_at hl 0 rfl) ?_
          refine cutW 105 (fun H locs ls st => ∃ (v_6657 : Int32), st = [.int v_6657, .int v_6632] ∧ vPD G A H [(ce_X10 ob ob_thrown ob_world ob_images ob_hasImage ob_tape ob_taped ob_five ob_size ob_at ob_from ob_token ob_value ob_faultKind ob_faultPlace ob_fresh ob_parts ob_houses v_1002 ob_worthOf ob_byCall ob_over v_5852 v_5853 v_5854 ob_row ob_tenDebts ob_tenMany ob_fewestBy ob_covered ob_queue ob_cameBy ob_parent ob_met ob_calls ob_callMany ob_calledOn ob_saved ob_many ob_width ob_numbers ob_moving), (ce_i9080 y ob_world fob_world), (ce_i16 y ob_houses f_1003), (ce_i16 y ob_worthOf f_1004), (ce_z16 y ob_byCall f_1005), (ce_i10240 y ob_over f_1009)] ∧ va_S A s.heap H locs ∧ lv_has ls 7 [(6, .int v_6631), (4, .int v_6262), (3, .int v_5851), (0, .ref ob)]) ?_ (fun J_105_6657 => ?_)
          · rintro H locs ls st ⟨v_6657, rfl, ⟨hP, hD⟩, hS, hl⟩
            refine lv_iadd hx hb dX10_rounds_105 ?_
            refine lv_topi (fun v_6658 ev_6658 => ?_)
            refine lv_istore (lv' := [(5, .int v_6658), (6, .int v_6631), (4, .int v_6262), (3, .int v_5851), (0, .ref ob)]) hx hb dX10_rounds_106 hl (by decide) rfl (fun ls hl => ?_)
            obtain ⟨v_6659, ev_6659⟩ : ∃ z : Int32, z = v_6631 + 1 := ⟨_, rfl⟩
            have qv_6659 := ba_add ev_6659 nc_6648.1 (bkc (x := 1) (c := 1) (by decide)) (by decide)
            have bv_6659 : (1 : Int) ≤ v_6659.toInt ∧ v_6659.toInt ≤ 10 := bq_add qv_6659 nc_6648.1 (bkc (x := 1) (c := 1) (by decide)) _ _ (by decide)
            have qv_6659 : v_6659.toInt = v_6631.toInt + (1) := qv_6659
            refine lv_iinc (v := v_6659) (lv' := [(6, .int v_6659), (5, .int v_6658), (4, .int v_6262), (3, .int v_5851), (0, .ref ob)]) hx hb dX10_rounds_108 hl (k := 1) rfl (ev_6659.symm) (by decide) rfl (fun ls hl => ?_)
            refine lv_goto (tgt := 69) hx hb dX10_rounds_111 (by decide) ?_
            exact ih_6647 _ (ml_inc (hi := 10) hn_6647 qv_6659 (by decide) ((bw (0) (10) bv_6659 (by decide))).2) _ _ _ _ ⟨v_6659, v_6658, rfl, (bw (0) (10) bv_6659 (by decide)), rfl, ⟨hP, hD⟩, hS, lv_sub hl [0, 1, 2, 3, 4] rfl⟩
          · skip
            refine cSim (As := [.int v_5851, .int v_6631]) (rest := [.int v_6632]) ⟨hx, hb, hml, hown, hw0⟩ hA hK hP hD hS [] (sX10_holds l G y _ v_5851 v_6631 ) rfl ⟨(callB_of 2 hw0 (gA m_512) rfl rfl rfl (hw0 _ m_41) (hw0 _ m_353) cb_X10_holds ⟨Nat.le_of_ble_eq_true rfl, Nat.le_of_ble_eq_true rfl⟩), (hw0 _ m_354)⟩ rfl hl.1 (Nat.le_of_ble_eq_true rfl) dX10_rounds_83 ⟨Nat.le_of_ble_eq_true rfl, Nat.le_of_ble_eq_true rfl⟩ (fun r_6660 w_6660 H locs hw_6660 hP hD hS => ?_)
            rcases hw_6660 with ⟨rfl, rfl⟩ | ⟨rfl, rfl⟩
            · skip
              obtain ⟨hP, hD⟩ : vPD G A H [(ce_X10 ob ob_thrown ob_world ob_images ob_hasImage ob_tape ob_taped ob_five ob_size ob_at ob_from ob_token ob_value ob_faultKind ob_faultPlace ob_fresh ob_parts ob_houses v_1002 ob_worthOf ob_byCall ob_over v_5852 v_5853 v_5854 ob_row ob_tenDebts ob_tenMany ob_fewestBy ob_covered ob_queue ob_cameBy ob_parent ob_met ob_calls ob_callMany ob_calledOn ob_saved ob_many ob_width ob_numbers ob_moving), (ce_i9080 y ob_world fob_world), (ce_i16 y ob_houses f_1003), (ce_i16 y ob_worthOf f_1004), (ce_z16 y ob_byCall f_1005), (ce_i10240 y ob_over f_1009)] := ⟨hP, hD⟩
              refine lv_if_eq (tgt := 104) hx hb dX10_rounds_86 (by decide) (fun _ => ?_) (fun c9 => absurd (by decide) c9)
              refine lv_iconst (v := 0) hx hb dX10_rounds_104 (by decide) ?_
              exact J_105_6657 _ _ _ _ ⟨0, rfl, ⟨hP, hD⟩, hS, lv_sub hl [0, 2, 3, 4] rfl⟩
            · skip
              obtain ⟨hP, hD⟩ : vPD G A H [(ce_X10 ob ob_thrown ob_world ob_images ob_hasImage ob_tape ob_taped ob_five ob_size ob_at ob_from ob_token ob_value ob_faultKind ob_faultPlace ob_fresh ob_parts ob_houses v_1002 ob_worthOf ob_byCall ob_over v_5852 v_5853 v_5854 ob_row ob_tenDebts ob_tenMany ob_fewestBy ob_covered ob_queue ob_cameBy ob_parent ob_met ob_calls ob_callMany ob_calledOn ob_saved ob_many ob_width ob_numbers ob_moving), (ce_i9080 y ob_world fob_world), (ce_i16 y ob_houses f_1003), (ce_i16 y ob_worthOf f_1004), (ce_z16 y ob_byCall f_1005), (ce_i10240 y ob_over f_1009)] := ⟨hP, hD⟩
              refine lv_if_eq (tgt := 104) hx hb dX10_rounds_86 (by decide) (fun c9 => absurd c9 (by decide)) (fun _ => ?_)
              refine lv_aload_n hx hb dX10_rounds_89 rfl (lv_at hl 4 rfl) ?_
              refine va_get (D := G) (ci := 10) (v := .ref ob_worthOf) (C := RX10) (T := TX10) (N := 41) hx hb hw0 inA_wsX100 hown hK.1 hP 0 rfl rfl 18 (by decide) (hw0 _ m_449) (fun _ h9 => h9) rfl dX10_rounds_90 ?_
              refine lv_aload_n hx hb dX10_rounds_93 rfl (lv_at hl 4 rfl) ?_
              refine va_get (D := G) (ci := 10) (v := .ref ob_houses) (C := RX10) (T := TX10) (N := 41) hx hb hw0 inA_wsX100 hown hK.1 hP 0 rfl rfl 16 (by decide) (hw0 _ m_410) (fun _ h9 => h9) rfl dX10_rounds_94 ?_
              refine lv_iload hx hb dX10_rounds_97 (lv_at hl 0 rfl) ?_
              refine va_iald hx hb hK.1 hP 2 1 rfl rfl (vi nc_6648.1 (by decide)) dX10_rounds_99 ?_
              refine lv_topi (fun v_6661 ev_6661 => ?_)
              have bv_6661 : (0 : Int) ≤ v_6661.toInt ∧ v_6661.toInt ≤ 15 := rd_b ev_6661 bf_1003
              refine va_iald hx hb hK.1 hP 3 1 rfl rfl (vi bv_6661 (by decide)) dX10_rounds_100 ?_
              refine lv_topi (fun v_6662 ev_6662 => ?_)
              refine lv_goto (tgt := 105) hx hb dX10_rounds_101 (by decide) ?_
              exact J_105_6657 _ _ _ _ ⟨v_6662, rfl, ⟨hP, hD⟩, hS, lv_sub hl [0, 2, 3, 4] rfl⟩
      · skip
        have nc_6465 := nb_eq (-1) (-1) c_6465 bv_6262 (bkc (x := (-1)) (c := -1) (by decide)) (by decide)
        refine lv_goto (tgt := 161) hx hb dX10_rounds_60 (by decide) ?_
        exact J_161_6463 _ _ _ _ ⟨v_5852, v_5853, v_5854, bv_5852, bv_5853, bv_5854, rfl, ⟨hP, hD⟩, hS, lv_sub hl [1, 2] rfl⟩

set_option maxHeartbeats 4000000 in
set_option maxRecDepth 100000 in
theorem sX10_isRound (l : Launch) (G : va_G) (y : Nat → ClassId) (sz : Nat) (ob : Nat) (a1 : Int32) (a2 : Int32) (ob_thrown : Int32) (ob_world : Nat) (ob_images : Nat) (ob_hasImage : Nat) (ob_tape : Nat) (ob_taped : Int32) (ob_five : Nat) (ob_size : Int32) (ob_at : Int32) (ob_from : Int32) (ob_token : Int32) (ob_value : Int32) (ob_faultKind : Int32) (ob_faultPlace : Int32) (ob_fresh : Nat) (ob_parts : Nat) (ob_houses : Nat) (ob_houseMany : Int32) (ob_worthOf : Nat) (ob_byCall : Nat) (ob_over : Nat) (ob_bestSet : Int32) (ob_bestOver : Int32) (ob_bestWorth : Int32) (ob_row : Nat) (ob_tenDebts : Nat) (ob_tenMany : Int32) (ob_fewestBy : Nat) (ob_covered : Nat) (ob_queue : Nat) (ob_cameBy : Nat) (ob_parent : Nat) (ob_met : Nat) (ob_calls : Nat) (ob_callMany : Int32) (ob_calledOn : Nat) (ob_saved : Nat) (ob_many : Nat) (ob_width : Nat) (ob_numbers : Nat) (ob_moving : Nat) (fob_world : Nat → Int32) (p_fob_world : RWw fob_world) (p_ob_taped : (0 : Int) ≤ ob_taped.toInt ∧ ob_taped.toInt ≤ 1400) (p_ob_size : (0 : Int) ≤ ob_size.toInt ∧ ob_size.toInt ≤ 1400) (p_ob_at : (0 : Int) ≤ ob_at.toInt ∧ ob_at.toInt ≤ 1400) (p_ob_from : (0 : Int) ≤ ob_from.toInt ∧ ob_from.toInt ≤ 1400) (p_ob_token : (0 : Int) ≤ ob_token.toInt ∧ ob_token.toInt ≤ 4) (p_ob_value : (0 : Int) ≤ ob_value.toInt ∧ ob_value.toInt ≤ 9999) (p_ob_faultKind : (0 : Int) ≤ ob_faultKind.toInt ∧ ob_faultKind.toInt ≤ 3) (p_ob_houseMany : (0 : Int) ≤ ob_houseMany.toInt ∧ ob_houseMany.toInt ≤ 10) (p_ob_bestSet : (0 : Int) ≤ ob_bestSet.toInt ∧ ob_bestSet.toInt ≤ 1023) (p_ob_bestOver : (-1 : Int) ≤ ob_bestOver.toInt ∧ ob_bestOver.toInt ≤ 180) (p_ob_tenMany : (0 : Int) ≤ ob_tenMany.toInt ∧ ob_tenMany.toInt ≤ 10) (p_ob_callMany : (0 : Int) ≤ ob_callMany.toInt ∧ ob_callMany.toInt ≤ 16) : Met l yX10_isRound (Cond.code yX10_isRound cX10_isRound 3 (some .boolean) :: wAll) ({ frames := 2, cells := 0, slots := 0, locals := 46 }) (va_Pc [.ref ob, .int a1, .int a2] (kp G y sz [(ce_X10 ob ob_thrown ob_world ob_images ob_hasImage ob_tape ob_taped ob_five ob_size ob_at ob_from ob_token ob_value ob_faultKind ob_faultPlace ob_fresh ob_parts ob_houses ob_houseMany ob_worthOf ob_byCall ob_over ob_bestSet ob_bestOver ob_bestWorth ob_row ob_tenDebts ob_tenMany ob_fewestBy ob_covered ob_queue ob_cameBy ob_parent ob_met ob_calls ob_callMany ob_calledOn ob_saved ob_many ob_width ob_numbers ob_moving), (ce_i9080 y ob_world fob_world)])) (va_Qi (fun (r : Int32) (w : va_W) => (r = 0 ∧ w = [(ce_X10 ob ob_thrown ob_world ob_images ob_hasImage ob_tape ob_taped ob_five ob_size ob_at ob_from ob_token ob_value ob_faultKind ob_faultPlace ob_fresh ob_parts ob_houses ob_houseMany ob_worthOf ob_byCall ob_over ob_bestSet ob_bestOver ob_bestWorth ob_row ob_tenDebts ob_tenMany ob_fewestBy ob_covered ob_queue ob_cameBy ob_parent ob_met ob_calls ob_callMany ob_calledOn ob_saved ob_many ob_width ob_numbers ob_moving), (ce_i9080 y ob_world fob_world)]) ∨ (((0 : Int) ≤ a1.toInt ∧ a1.toInt ≤ 15) ∧ ((0 : Int) ≤ a2.toInt ∧ a2.toInt ≤ 399) ∧ r = 1 ∧ w = [(ce_X10 ob ob_thrown ob_world ob_images ob_hasImage ob_tape ob_taped ob_five ob_size ob_at ob_from ob_token ob_value ob_faultKind ob_faultPlace ob_fresh ob_parts ob_houses ob_houseMany ob_worthOf ob_byCall ob_over ob_bestSet ob_bestOver ob_bestWorth ob_row ob_tenDebts ob_tenMany ob_fewestBy ob_covered ob_queue ob_cameBy ob_parent ob_met ob_calls ob_callMany ob_calledOn ob_saved ob_many ob_width ob_numbers ob_moving), (ce_i9080 y ob_world fob_world)])) (kq G (va_A [(ce_X10 ob ob_thrown ob_world ob_images ob_hasImage ob_tape ob_taped ob_five ob_size ob_at ob_from ob_token ob_value ob_faultKind ob_faultPlace ob_fresh ob_parts ob_houses ob_houseMany ob_worthOf ob_byCall ob_over ob_bestSet ob_bestOver ob_bestWorth ob_row ob_tenDebts ob_tenMany ob_fewestBy ob_covered ob_queue ob_cameBy ob_parent ob_met ob_calls ob_callMany ob_calledOn ob_saved ob_many ob_width ob_numbers ob_moving), (ce_i9080 y ob_world fob_world)] sz)) (va_A [(ce_X10 ob ob_thrown ob_world ob_images ob_hasImage ob_tape ob_taped ob_five ob_size ob_at ob_from ob_token ob_value ob_faultKind ob_faultPlace ob_fresh ob_parts ob_houses ob_houseMany ob_worthOf ob_byCall ob_over ob_bestSet ob_bestOver ob_bestWorth ob_row ob_tenDebts ob_tenMany ob_fewestBy ob_covered ob_queue ob_cameBy ob_parent ob_met ob_calls ob_callMany ob_calledOn ob_saved ob_many ob_width ob_numbers ob_moving), (ce_i9080 y ob_world fob_world)] sz)) 0 0 (va_A [(ce_X10 ob ob_thrown ob_world ob_images ob_hasImage ob_tape ob_taped ob_five ob_size ob_at ob_from ob_token ob_value ob_faultKind ob_faultPlace ob_fresh ob_parts ob_houses ob_houseMany ob_worthOf ob_byCall ob_over ob_bestSet ob_bestOver ob_bestWorth ob_row ob_tenDebts ob_tenMany ob_fewestBy ob_covered ob_queue ob_cameBy ob_parent ob_met ob_calls ob_callMany ob_calledOn ob_saved ob_many ob_width ob_numbers ob_moving), (ce_i9080 y ob_world fob_world)] sz) := by
  refine Met.ofW (cc := cX10_isRound) (maxL := 3) (ret := (some .boolean)) (by decide) rfl ?_
  intro p e s m args below meth c s₁ B hml hv
  obtain ⟨rfl, hsz, hP, hK, hD0⟩ := hv
  have hx := B.exec
  have hb := B.bytes
  have hr := B.returns
  have hw0 : ∀ w ∈ wAll, w.before _ s = true := fun w h => atoms_spec (ws := Cond.code yX10_isRound cX10_isRound 3 (some .boolean) :: wAll) B.pre w (List.mem_cons_of_mem _ h)
  have hown : s.vm.findClass RX10 = some m.cls := findClass_of_methodNamed B.named
  subst hsz
  have hD := hD0.self (sz := s.heap.size)
  generalize hAe : va_A [(ce_X10 ob ob_thrown ob_world ob_images ob_hasImage ob_tape ob_taped ob_five ob_size ob_at ob_from ob_token ob_value ob_faultKind ob_faultPlace ob_fresh ob_parts ob_houses ob_houseMany ob_worthOf ob_byCall ob_over ob_bestSet ob_bestOver ob_bestWorth ob_row ob_tenDebts ob_tenMany ob_fewestBy ob_covered ob_queue ob_cameBy ob_parent ob_met ob_calls ob_callMany ob_calledOn ob_saved ob_many ob_width ob_numbers ob_moving), (ce_i9080 y ob_world fob_world)] s.heap.size = A at hD ⊢
  have hA : ∀ q : Nat, s.heap.size ≤ q → A q := fun q h => by rw [← hAe]; exact Or.inr h
  have hS : va_S A s.heap s.heap [] := va_S.rf
  have hP : va_P G vwCl [(ce_X10 ob ob_thrown ob_world ob_images ob_hasImage ob_tape ob_taped ob_five ob_size ob_at ob_from ob_token ob_value ob_faultKind ob_faultPlace ob_fresh ob_parts ob_houses ob_houseMany ob_worthOf ob_byCall ob_over ob_bestSet ob_bestOver ob_bestWorth ob_row ob_tenDebts ob_tenMany ob_fewestBy ob_covered ob_queue ob_cameBy ob_parent ob_met ob_calls ob_callMany ob_calledOn ob_saved ob_many ob_width ob_numbers ob_moving), (ce_i9080 y ob_world fob_world)] s.heap := hP
  have hl := lv_entry ([.ref ob, .int a1, .int a2]) (n := 3) (Nat.le_of_ble_eq_true rfl)
  rw [lg_entry_eq]
  generalize (lg_sl ([.ref ob, .int a1, .int a2]) ++ List.replicate (3 - (lg_sl ([.ref ob, .int a1, .int a2])).length) Slot.unset).toArray = ls at hl ⊢
  have hl : lv_has ls 3 [(0, .ref ob), (1, .int a1), (2, .int a2)] := hl
  refine lv_aload_n hx hb dX10_isRound_0 rfl (lv_at hl 0 rfl) ?_
  refine lv_iload_n hx hb dX10_isRound_1 rfl (lv_at hl 1 rfl) ?_
  refine cutW 28 (fun H locs ls st => st = [] ∧ vPD G A H [(ce_X10 ob ob_thrown ob_world ob_images ob_hasImage ob_tape ob_taped ob_five ob_size ob_at ob_from ob_token ob_value ob_faultKind ob_faultPlace ob_fresh ob_parts ob_houses ob_houseMany ob_worthOf ob_byCall ob_over ob_bestSet ob_bestOver ob_bestWorth ob_row ob_tenDebts ob_tenMany ob_fewestBy ob_covered ob_queue ob_cameBy ob_parent ob_met ob_calls ob_callMany ob_calledOn ob_saved ob_many ob_width ob_numbers ob_moving), (ce_i9080 y ob_world fob_world)] ∧ va_S A s.heap H locs ∧ lv_has ls 3 []) ?_ (fun J_28_1011 => ?_)
  · rintro H locs ls st ⟨rfl, ⟨hP, hD⟩, hS, hl⟩
    refine lv_iconst (v := 0) hx hb dX10_isRound_28 (by decide) ?_
    exact W.zret (v := 0) hx hb hr rfl (fun t ht hW => ⟨⟨0, _, rfl, Or.inl (⟨rfl, rfl⟩), by rw [ht]; exact hP, hD⟩, hS.F ht⟩) hS.2.2 dX10_isRound_29
  · skip
    refine cVim (As := [.int a1]) (rest := []) ⟨hx, hb, hml, hown, hw0⟩ hA hK hP hD hS [true, true] (sX10_isHouse l G y _ ob a1 ob_thrown ob_world ob_images ob_hasImage ob_tape ob_taped ob_five ob_size ob_at ob_from ob_token ob_value ob_faultKind ob_faultPlace ob_fresh ob_parts ob_houses ob_houseMany ob_worthOf ob_byCall ob_over ob_bestSet ob_bestOver ob_bestWorth ob_row ob_tenDebts ob_tenMany ob_fewestBy ob_covered ob_queue ob_cameBy ob_parent ob_met ob_calls ob_callMany ob_calledOn ob_saved ob_many ob_width ob_numbers ob_moving fob_world p_fob_world p_ob_taped p_ob_size p_ob_at p_ob_from p_ob_token p_ob_value p_ob_faultKind p_ob_houseMany p_ob_bestSet p_ob_bestOver p_ob_tenMany p_ob_callMany) rfl ⟨(callB_of 1 hw0 (gA m_537) rfl rfl rfl (hw0 _ m_41) (hw0 _ m_356) cb_X10_isHouse ⟨Nat.le_of_ble_eq_true rfl, Nat.le_of_ble_eq_true rfl⟩), (hw0 _ m_357), (hw0 _ m_358)⟩ (ci := 10) (q := (RX10, TX10, 41)) rfl rfl rfl hl.1 (Nat.le_of_ble_eq_true rfl) dX10_isRound_2 ⟨Nat.le_of_ble_eq_true rfl, Nat.le_of_ble_eq_true rfl⟩ (fun r_1012 w_1012 H locs hw_1012 hP hD hS => ?_)
    rcases hw_1012 with ⟨rfl, rfl⟩ | ⟨h_1013, rfl, rfl⟩
    · skip
      obtain ⟨hP, hD⟩ : vPD G A H [(ce_X10 ob ob_thrown ob_world ob_images ob_hasImage ob_tape ob_taped ob_five ob_size ob_at ob_from ob_token ob_value ob_faultKind ob_faultPlace ob_fresh ob_parts ob_houses ob_houseMany ob_worthOf ob_byCall ob_over ob_bestSet ob_bestOver ob_bestWorth ob_row ob_tenDebts ob_tenMany ob_fewestBy ob_covered ob_queue ob_cameBy ob_parent ob_met ob_calls ob_callMany ob_calledOn ob_saved ob_many ob_width ob_numbers ob_moving), (ce_i9080 y ob_world fob_world)] := ⟨hP, hD⟩
      refine lv_if_eq (tgt := 28) hx hb dX10_isRound_5 (by decide) (fun _ => ?_) (fun c9 => absurd (by decide) c9)
      exact J_28_1011 _ _ _ _ ⟨rfl, ⟨hP, hD⟩, hS, lv_sub hl [] rfl⟩
    · skip
      obtain ⟨hP, hD⟩ : vPD G A H [(ce_X10 ob ob_thrown ob_world ob_images ob_hasImage ob_tape ob_taped ob_five ob_size ob_at ob_from ob_token ob_value ob_faultKind ob_faultPlace ob_fresh ob_parts ob_houses ob_houseMany ob_worthOf ob_byCall ob_over ob_bestSet ob_bestOver ob_bestWorth ob_row ob_tenDebts ob_tenMany ob_fewestBy ob_covered ob_queue ob_cameBy ob_parent ob_met ob_calls ob_callMany ob_calledOn ob_saved ob_many ob_width ob_numbers ob_moving), (ce_i9080 y ob_world fob_world)] := ⟨hP, hD⟩
      refine lv_if_eq (tgt := 28) hx hb dX10_isRound_5 (by decide) (fun c9 => absurd c9 (by decide)) (fun _ => ?_)
      refine lv_iload_n hx hb dX10_isRound_8 rfl (lv_at hl 2 rfl) ?_
      refine lv_i2l hx hb dX10_isRound_9 rfl ?_
      refine lv_aload_n hx hb dX10_isRound_10 rfl (lv_at hl 0 rfl) ?_
      refine cVim (As := []) (rest := [.long (a2).toInt64]) ⟨hx, hb, hml, hown, hw0⟩ hA hK hP hD hS [true, true] (sX10_today l G y _ ob ob_thrown ob_world ob_images ob_hasImage ob_tape ob_taped ob_five ob_size ob_at ob_from ob_token ob_value ob_faultKind ob_faultPlace ob_fresh ob_parts ob_houses ob_houseMany ob_worthOf ob_byCall ob_over ob_bestSet ob_bestOver ob_bestWorth ob_row ob_tenDebts ob_tenMany ob_fewestBy ob_covered ob_queue ob_cameBy ob_parent ob_met ob_calls ob_callMany ob_calledOn ob_saved ob_many ob_width ob_numbers ob_moving fob_world p_fob_world p_ob_taped p_ob_size p_ob_at p_ob_from p_ob_token p_ob_value p_ob_faultKind p_ob_houseMany p_ob_bestSet p_ob_bestOver p_ob_tenMany p_ob_callMany) rfl ⟨(callB_of 0 hw0 (gA m_689) rfl rfl rfl (hw0 _ m_41) (hw0 _ m_373) cb_X10_today ⟨Nat.le_of_ble_eq_true rfl, Nat.le_of_ble_eq_true rfl⟩), (hw0 _ m_374), (hw0 _ m_375)⟩ (ci := 10) (q := (RX10, TX10, 41)) rfl rfl rfl hl.1 (Nat.le_of_ble_eq_true rfl) dX10_isRound_11 ⟨Nat.le_of_ble_eq_true rfl, Nat.le_of_ble_eq_true rfl⟩ (fun r_1014 w_1014 H locs hw_1014 hP hD hS => ?_)
      obtain ⟨v_1015, bv_1015, h_1016, er_1014, rfl⟩ := hw_1014
      subst r_1014
      obtain ⟨hP, hD⟩ : vPD G A H [(ce_X10 ob ob_thrown ob_world ob_images ob_hasImage ob_tape ob_taped ob_five ob_size ob_at ob_from ob_token ob_value ob_faultKind ob_faultPlace ob_fresh ob_parts ob_houses ob_houseMany ob_worthOf ob_byCall ob_over ob_bestSet ob_bestOver ob_bestWorth ob_row ob_tenDebts ob_tenMany ob_fewestBy ob_covered ob_queue ob_cameBy ob_parent ob_met ob_calls ob_callMany ob_calledOn ob_saved ob_many ob_width ob_numbers ob_moving), (ce_i9080 y ob_world fob_world)] := ⟨hP, hD⟩
      refine lv_i2l hx hb dX10_isRound_14 rfl ?_
      refine lv_ldc2 (own := RX10) (v := 399) hx hb hown (hw0 _ m_542) dX10_isRound_15 ?_
      refine cSim (As := [.long (a2).toInt64, .long (v_1015).toInt64, .long 399]) (rest := []) ⟨hx, hb, hml, hown, hw0⟩ hA hK hP hD hS [] (sX10_in l G y _ ((a2).toInt64) ((v_1015).toInt64) 399 ) rfl ⟨(callB_of 3 hw0 (gA m_516) rfl rfl rfl (hw0 _ m_41) (hw0 _ m_345) cb_X10_in ⟨Nat.le_of_ble_eq_true rfl, Nat.le_of_ble_eq_true rfl⟩), (hw0 _ m_346)⟩ rfl hl.1 (Nat.le_of_ble_eq_true rfl) dX10_isRound_18 ⟨Nat.le_of_ble_eq_true rfl, Nat.le_of_ble_eq_true rfl⟩ (fun r_1017 w_1017 H locs hw_1017 hP hD hS => ?_)
      rcases hw_1017 with ⟨h_1018, rfl, rfl⟩ | ⟨h_1019, rfl, rfl⟩
      · skip
        have h_1020 : a2.toInt < (v_1015.toInt : Int) ∨ (399 : Int) < a2.toInt := in_n h_1018 (Int32.toInt_toInt64 _) (Int32.toInt_toInt64 _) (by decide)
        obtain ⟨hP, hD⟩ : vPD G A H [(ce_X10 ob ob_thrown ob_world ob_images ob_hasImage ob_tape ob_taped ob_five ob_size ob_at ob_from ob_token ob_value ob_faultKind ob_faultPlace ob_fresh ob_parts ob_houses ob_houseMany ob_worthOf ob_byCall ob_over ob_bestSet ob_bestOver ob_bestWorth ob_row ob_tenDebts ob_tenMany ob_fewestBy ob_covered ob_queue ob_cameBy ob_parent ob_met ob_calls ob_callMany ob_calledOn ob_saved ob_many ob_width ob_numbers ob_moving), (ce_i9080 y ob_world fob_world)] := ⟨hP, hD⟩
        refine lv_if_eq (tgt := 28) hx hb dX10_isRound_21 (by decide) (fun _ => ?_) (fun c9 => absurd (by decide) c9)
        exact J_28_1011 _ _ _ _ ⟨rfl, ⟨hP, hD⟩, hS, lv_sub hl [] rfl⟩
      · skip
        have h_1021 : (v_1015.toInt : Int) ≤ a2.toInt ∧ a2.toInt ≤ (399 : Int) := in_y h_1019 (Int32.toInt_toInt64 _) (Int32.toInt_toInt64 _) (by decide)
        have h_1022_0 := (btop a2)
        have h_1022_1 := bv_1015
        have h_1022_2 := True.intro
        have h_1022 : (0 : Int) ≤ a2.toInt ∧ a2.toInt ≤ 399 := by omega
        obtain ⟨hP, hD⟩ : vPD G A H [(ce_X10 ob ob_thrown ob_world ob_images ob_hasImage ob_tape ob_taped ob_five ob_size ob_at ob_from ob_token ob_value ob_faultKind ob_faultPlace ob_fresh ob_parts ob_houses ob_houseMany ob_worthOf ob_byCall ob_over ob_bestSet ob_bestOver ob_bestWorth ob_row ob_tenDebts ob_tenMany ob_fewestBy ob_covered ob_queue ob_cameBy ob_parent ob_met ob_calls ob_callMany ob_calledOn ob_saved ob_many ob_width ob_numbers ob_moving), (ce_i9080 y ob_world fob_world)] := ⟨hP, hD⟩
        refine lv_if_eq (tgt := 28) hx hb dX10_isRound_21 (by decide) (fun c9 => absurd c9 (by decide)) (fun _ => ?_)
        refine lv_iconst (v := 1) hx hb dX10_isRound_24 (by decide) ?_
        refine lv_goto (tgt := 29) hx hb dX10_isRound_25 (by decide) ?_
        exact W.zret (v := 1) hx hb hr rfl (fun t ht hW => ⟨⟨1, _, rfl, Or.inr (⟨h_1013, h_1022, rfl, rfl⟩), by rw [ht]; exact hP, hD⟩, hS.F ht⟩) hS.2.2 dX10_isRound_29

set_option maxHeartbeats 4000000 in
set_option maxRecDepth 100000 in
theorem sX10_worth (l : Launch) (G : va_G) (y : Nat → ClassId) (sz : Nat) (ob : Nat) (a1 : Int32) (a2 : Int32) (ob_thrown : Int32) (ob_world : Nat) (ob_images : Nat) (ob_hasImage : Nat) (ob_tape : Nat) (ob_taped : Int32) (ob_five : Nat) (ob_size : Int32) (ob_at : Int32) (ob_from : Int32) (ob_token : Int32) (ob_value : Int32) (ob_faultKind : Int32) (ob_faultPlace : Int32) (ob_fresh : Nat) (ob_parts : Nat) (ob_houses : Nat) (ob_houseMany : Int32) (ob_worthOf : Nat) (ob_byCall : Nat) (ob_over : Nat) (ob_bestSet : Int32) (ob_bestOver : Int32) (ob_bestWorth : Int32) (ob_row : Nat) (ob_tenDebts : Nat) (ob_tenMany : Int32) (ob_fewestBy : Nat) (ob_covered : Nat) (ob_queue : Nat) (ob_cameBy : Nat) (ob_parent : Nat) (ob_met : Nat) (ob_calls : Nat) (ob_callMany : Int32) (ob_calledOn : Nat) (ob_saved : Nat) (ob_many : Nat) (ob_width : Nat) (ob_numbers : Nat) (ob_moving : Nat) (fob_world : Nat → Int32) (fob_houses : Nat → Int32) (fob_worthOf : Nat → Int32) (fob_byCall : Nat → Int32) (fob_over : Nat → Int32) (p_fob_world : RWw fob_world) (p_ob_taped : (0 : Int) ≤ ob_taped.toInt ∧ ob_taped.toInt ≤ 1400) (p_ob_size : (0 : Int) ≤ ob_size.toInt ∧ ob_size.toInt ≤ 1400) (p_ob_at : (0 : Int) ≤ ob_at.toInt ∧ ob_at.toInt ≤ 1400) (p_ob_from : (0 : Int) ≤ ob_from.toInt ∧ ob_from.toInt ≤ 1400) (p_ob_token : (0 : Int) ≤ ob_token.toInt ∧ ob_token.toInt ≤ 4) (p_ob_value : (0 : Int) ≤ ob_value.toInt ∧ ob_value.toInt ≤ 9999) (p_ob_faultKind : (0 : Int) ≤ ob_faultKind.toInt ∧ ob_faultKind.toInt ≤ 3) (p_fob_houses : ∀ i, (0 : Int) ≤ (fob_houses i).toInt ∧ (fob_houses i).toInt ≤ 15) (p_ob_houseMany : (0 : Int) ≤ ob_houseMany.toInt ∧ ob_houseMany.toInt ≤ 10) (p_fob_byCall : ∀ i, (0 : Int) ≤ (fob_byCall i).toInt ∧ (fob_byCall i).toInt ≤ 1) (p_fob_over : ∀ i, (-1 : Int) ≤ (fob_over i).toInt ∧ (fob_over i).toInt ≤ 180) (p_ob_bestSet : (0 : Int) ≤ ob_bestSet.toInt ∧ ob_bestSet.toInt ≤ 1023) (p_ob_bestOver : (-1 : Int) ≤ ob_bestOver.toInt ∧ ob_bestOver.toInt ≤ 180) (p_ob_tenMany : (0 : Int) ≤ ob_tenMany.toInt ∧ ob_tenMany.toInt ≤ 10) (p_ob_callMany : (0 : Int) ≤ ob_callMany.toInt ∧ ob_callMany.toInt ≤ 16) : Met l yX10_worth (Cond.code yX10_worth cX10_worth 3 (some .int) :: wAll) ({ frames := 5, cells := 0, slots := 0, locals := 125 }) (va_Pc [.ref ob, .int a1, .int a2] (kp G y sz [(ce_X10 ob ob_thrown ob_world ob_images ob_hasImage ob_tape ob_taped ob_five ob_size ob_at ob_from ob_token ob_value ob_faultKind ob_faultPlace ob_fresh ob_parts ob_houses ob_houseMany ob_worthOf ob_byCall ob_over ob_bestSet ob_bestOver ob_bestWorth ob_row ob_tenDebts ob_tenMany ob_fewestBy ob_covered ob_queue ob_cameBy ob_parent ob_met ob_calls ob_callMany ob_calledOn ob_saved ob_many ob_width ob_numbers ob_moving), (ce_i9080 y ob_world fob_world), (ce_i16 y ob_houses fob_houses), (ce_i16 y ob_worthOf fob_worthOf), (ce_z16 y ob_byCall fob_byCall), (ce_i10240 y ob_over fob_over)])) (va_Qi (fun (r : Int32) (w : va_W) => (∃ (v_25 : Int32) (v_26 : Int32) (v_27 : Int32) (v_28 : Int32) (v_29 : Int32) (f_30 : Nat → Int32) (f_31 : Nat → Int32) (f_32 : Nat → Int32) (f_33 : Nat → Int32), ((-2 : Int) ≤ v_25.toInt ∧ v_25.toInt ≤ 2147483647) ∧ ((0 : Int) ≤ v_26.toInt ∧ v_26.toInt ≤ 10) ∧ ((0 : Int) ≤ v_27.toInt ∧ v_27.toInt ≤ 1023) ∧ ((-1 : Int) ≤ v_28.toInt ∧ v_28.toInt ≤ 180) ∧ (∀ i, (0 : Int) ≤ (f_30 i).toInt ∧ (f_30 i).toInt ≤ 15) ∧ (∀ i, (0 : Int) ≤ (f_32 i).toInt ∧ (f_32 i).toInt ≤ 1) ∧ (∀ i, (-1 : Int) ≤ (f_33 i).toInt ∧ (f_33 i).toInt ≤ 180) ∧ r = v_25 ∧ w = [(ce_X10 ob ob_thrown ob_world ob_images ob_hasImage ob_tape ob_taped ob_five ob_size ob_at ob_from ob_token ob_value ob_faultKind ob_faultPlace ob_fresh ob_parts ob_houses v_26 ob_worthOf ob_byCall ob_over v_27 v_28 v_29 ob_row ob_tenDebts ob_tenMany ob_fewestBy ob_covered ob_queue ob_cameBy ob_parent ob_met ob_calls ob_callMany ob_calledOn ob_saved ob_many ob_width ob_numbers ob_moving), (ce_i9080 y ob_world fob_world), (ce_i16 y ob_houses f_30), (ce_i16 y ob_worthOf f_31), (ce_z16 y ob_byCall f_32), (ce_i10240 y ob_over f_33)])) (kq G (va_A [(ce_X10 ob ob_thrown ob_world ob_images ob_hasImage ob_tape ob_taped ob_five ob_size ob_at ob_from ob_token ob_value ob_faultKind ob_faultPlace ob_fresh ob_parts ob_houses ob_houseMany ob_worthOf ob_byCall ob_over ob_bestSet ob_bestOver ob_bestWorth ob_row ob_tenDebts ob_tenMany ob_fewestBy ob_covered ob_queue ob_cameBy ob_parent ob_met ob_calls ob_callMany ob_calledOn ob_saved ob_many ob_width ob_numbers ob_moving), (ce_i9080 y ob_world fob_world), (ce_i16 y ob_houses fob_houses), (ce_i16 y ob_worthOf fob_worthOf), (ce_z16 y ob_byCall fob_byCall), (ce_i10240 y ob_over fob_over)] sz)) (va_A [(ce_X10 ob ob_thrown ob_world ob_images ob_hasImage ob_tape ob_taped ob_five ob_size ob_at ob_from ob_token ob_value ob_faultKind ob_faultPlace ob_fresh ob_parts ob_houses ob_houseMany ob_worthOf ob_byCall ob_over ob_bestSet ob_bestOver ob_bestWorth ob_row ob_tenDebts ob_tenMany ob_fewestBy ob_covered ob_queue ob_cameBy ob_parent ob_met ob_calls ob_callMany ob_calledOn ob_saved ob_many ob_width ob_numbers ob_moving), (ce_i9080 y ob_world fob_world), (ce_i16 y ob_houses fob_houses), (ce_i16 y ob_worthOf fob_worthOf), (ce_z16 y ob_byCall fob_byCall), (ce_i10240 y ob_over fob_over)] sz)) 0 0 (va_A [(ce_X10 ob ob_thrown ob_world ob_images ob_hasImage ob_tape ob_taped ob_five ob_size ob_at ob_from ob_token ob_value ob_faultKind ob_faultPlace ob_fresh ob_parts ob_houses ob_houseMany ob_worthOf ob_byCall ob_over ob_bestSet ob_bestOver ob_bestWorth ob_row ob_tenDebts ob_tenMany ob_fewestBy ob_covered ob_queue ob_cameBy ob_parent ob_met ob_calls ob_callMany ob_calledOn ob_saved ob_many ob_width ob_numbers ob_moving), (ce_i9080 y ob_world fob_world), (ce_i16 y ob_houses fob_houses), (ce_i16 y ob_worthOf fob_worthOf), (ce_z16 y ob_byCall fob_byCall), (ce_i10240 y ob_over fob_over)] sz) := by
  refine Met.ofW (cc := cX10_worth) (maxL := 3) (ret := (some .int)) (by decide) rfl ?_
  intro p e s m args below meth c s₁ B hml hv
  obtain ⟨rfl, hsz, hP, hK, hD0⟩ := hv
  have hx := B.exec
  have hb := B.bytes
  have hr := B.returns
  have hw0 : ∀ w ∈ wAll, w.before _ s = true := fun w h => atoms_spec (ws := Cond.code yX10_worth cX10_worth 3 (some .int) :: wAll) B.pre w (List.mem_cons_of_mem _ h)
  have hown : s.vm.findClass RX10 = some m.cls := findClass_of_methodNamed B.named
  subst hsz
  have hD := hD0.self (sz := s.heap.size)
  generalize hAe : va_A [(ce_X10 ob ob_thrown ob_world ob_images ob_hasImage ob_tape ob_taped ob_five ob_size ob_at ob_from ob_token ob_value ob_faultKind ob_faultPlace ob_fresh ob_parts ob_houses ob_houseMany ob_worthOf ob_byCall ob_over ob_bestSet ob_bestOver ob_bestWorth ob_row ob_tenDebts ob_tenMany ob_fewestBy ob_covered ob_queue ob_cameBy ob_parent ob_met ob_calls ob_callMany ob_calledOn ob_saved ob_many ob_width ob_numbers ob_moving), (ce_i9080 y ob_world fob_world), (ce_i16 y ob_houses fob_houses), (ce_i16 y ob_worthOf fob_worthOf), (ce_z16 y ob_byCall fob_byCall), (ce_i10240 y ob_over fob_over)] s.heap.size = A at hD ⊢
  have hA : ∀ q : Nat, s.heap.size ≤ q → A q := fun q h => by rw [← hAe]; exact Or.inr h
  have hS : va_S A s.heap s.heap [] := va_S.rf
  have hP : va_P G vwCl [(ce_X10 ob ob_thrown ob_world ob_images ob_hasImage ob_tape ob_taped ob_five ob_size ob_at ob_from ob_token ob_value ob_faultKind ob_faultPlace ob_fresh ob_parts ob_houses ob_houseMany ob_worthOf ob_byCall ob_over ob_bestSet ob_bestOver ob_bestWorth ob_row ob_tenDebts ob_tenMany ob_fewestBy ob_covered ob_queue ob_cameBy ob_parent ob_met ob_calls ob_callMany ob_calledOn ob_saved ob_many ob_width ob_numbers ob_moving), (ce_i9080 y ob_world fob_world), (ce_i16 y ob_houses fob_houses), (ce_i16 y ob_worthOf fob_worthOf), (ce_z16 y ob_byCall fob_byCall), (ce_i10240 y ob_over fob_over)] s.heap := hP
  have hl := lv_entry ([.ref ob, .int a1, .int a2]) (n := 3) (Nat.le_of_ble_eq_true rfl)
  rw [lg_entry_eq]
  generalize (lg_sl ([.ref ob, .int a1, .int a2]) ++ List.replicate (3 - (lg_sl ([.ref ob, .int a1, .int a2])).length) Slot.unset).toArray = ls at hl ⊢
  have hl : lv_has ls 3 [(0, .ref ob), (1, .int a1), (2, .int a2)] := hl
  refine lv_aload_n hx hb dX10_worth_0 rfl (lv_at hl 0 rfl) ?_
  refine lv_iload_n hx hb dX10_worth_1 rfl (lv_at hl 1 rfl) ?_
  refine lv_iload_n hx hb dX10_worth_2 rfl (lv_at hl 2 rfl) ?_
  refine cVim (As := [.int a1, .int a2]) (rest := []) ⟨hx, hb, hml, hown, hw0⟩ hA hK hP hD hS [true, true] (sX10_isRound l G y _ ob a1 a2 ob_thrown ob_world ob_images ob_hasImage ob_tape ob_taped ob_five ob_size ob_at ob_from ob_token ob_value ob_faultKind ob_faultPlace ob_fresh ob_parts ob_houses ob_houseMany ob_worthOf ob_byCall ob_over ob_bestSet ob_bestOver ob_bestWorth ob_row ob_tenDebts ob_tenMany ob_fewestBy ob_covered ob_queue ob_cameBy ob_parent ob_met ob_calls ob_callMany ob_calledOn ob_saved ob_many ob_width ob_numbers ob_moving fob_world p_fob_world p_ob_taped p_ob_size p_ob_at p_ob_from p_ob_token p_ob_value p_ob_faultKind p_ob_houseMany p_ob_bestSet p_ob_bestOver p_ob_tenMany p_ob_callMany) rfl ⟨(callB_of 2 hw0 (gA m_541) rfl rfl rfl (hw0 _ m_41) (hw0 _ m_555) cb_X10_isRound ⟨Nat.le_of_ble_eq_true rfl, Nat.le_of_ble_eq_true rfl⟩), (hw0 _ m_556), (hw0 _ m_557)⟩ (ci := 10) (q := (RX10, TX10, 41)) rfl rfl rfl hl.1 (Nat.le_of_ble_eq_true rfl) dX10_worth_3 ⟨Nat.le_of_ble_eq_true rfl, Nat.le_of_ble_eq_true rfl⟩ (fun r_1001 w_1001 H locs hw_1001 hP hD hS => ?_)
  rcases hw_1001 with ⟨rfl, rfl⟩ | ⟨h_1002, h_1003, rfl, rfl⟩
  · skip
    obtain ⟨hP, hD⟩ : vPD G A H [(ce_X10 ob ob_thrown ob_world ob_images ob_hasImage ob_tape ob_taped ob_five ob_size ob_at ob_from ob_token ob_value ob_faultKind ob_faultPlace ob_fresh ob_parts ob_houses ob_houseMany ob_worthOf ob_byCall ob_over ob_bestSet ob_bestOver ob_bestWorth ob_row ob_tenDebts ob_tenMany ob_fewestBy ob_covered ob_queue ob_cameBy ob_parent ob_met ob_calls ob_callMany ob_calledOn ob_saved ob_many ob_width ob_numbers ob_moving), (ce_i9080 y ob_world fob_world), (ce_i16 y ob_houses fob_houses), (ce_i16 y ob_worthOf fob_worthOf), (ce_z16 y ob_byCall fob_byCall), (ce_i10240 y ob_over fob_over)] := ⟨hP, hD⟩
    refine lv_if_ne (tgt := 12) hx hb dX10_worth_6 (by decide) (fun c9 => absurd (by decide) c9) (fun _ => ?_)
    refine lv_bipush (v := (-2)) hx hb dX10_worth_9 (by decide) ?_
    exact W.iret (v := (-2)) hx hb hr (fun t ht hW => ⟨⟨(-2), _, rfl, ⟨(-2), ob_houseMany, ob_bestSet, ob_bestOver, ob_bestWorth, fob_houses, fob_worthOf, fob_byCall, fob_over, (bw (-2) (2147483647) (bkc (x := (-2)) (c := -2) (by decide)) (by decide)), p_ob_houseMany, p_ob_bestSet, p_ob_bestOver, p_fob_houses, p_fob_byCall, p_fob_over, rfl, rfl⟩, by rw [ht]; exact hP, hD⟩, hS.F ht⟩) hS.2.2 dX10_worth_11
  · skip
    obtain ⟨hP, hD⟩ : vPD G A H [(ce_X10 ob ob_thrown ob_world ob_images ob_hasImage ob_tape ob_taped ob_five ob_size ob_at ob_from ob_token ob_value ob_faultKind ob_faultPlace ob_fresh ob_parts ob_houses ob_houseMany ob_worthOf ob_byCall ob_over ob_bestSet ob_bestOver ob_bestWorth ob_row ob_tenDebts ob_tenMany ob_fewestBy ob_covered ob_queue ob_cameBy ob_parent ob_met ob_calls ob_callMany ob_calledOn ob_saved ob_many ob_width ob_numbers ob_moving), (ce_i9080 y ob_world fob_world), (ce_i16 y ob_houses fob_houses), (ce_i16 y ob_worthOf fob_worthOf), (ce_z16 y ob_byCall fob_byCall), (ce_i10240 y ob_over fob_over)] := ⟨hP, hD⟩
    refine lv_if_ne (tgt := 12) hx hb dX10_worth_6 (by decide) (fun _ => ?_) (fun c9 => absurd c9 (by decide))
    refine lv_aload_n hx hb dX10_worth_12 rfl (lv_at hl 0 rfl) ?_
    refine lv_iload_n hx hb dX10_worth_13 rfl (lv_at hl 1 rfl) ?_
    refine lv_iload_n hx hb dX10_worth_14 rfl (lv_at hl 2 rfl) ?_
    refine cVvm (As := [.int a1, .int a2]) (rest := []) ⟨hx, hb, hml, hown, hw0⟩ hA hK hP hD hS [true, true, true, true, true, true] (sX10_rounds l G y _ ob a1 a2 ob_thrown ob_world ob_images ob_hasImage ob_tape ob_taped ob_five ob_size ob_at ob_from ob_token ob_value ob_faultKind ob_faultPlace ob_fresh ob_parts ob_houses ob_houseMany ob_worthOf ob_byCall ob_over ob_bestSet ob_bestOver ob_bestWorth ob_row ob_tenDebts ob_tenMany ob_fewestBy ob_covered ob_queue ob_cameBy ob_parent ob_met ob_calls ob_callMany ob_calledOn ob_saved ob_many ob_width ob_numbers ob_moving fob_world fob_houses fob_worthOf fob_byCall fob_over p_fob_world p_ob_taped p_ob_size p_ob_at p_ob_from p_ob_token p_ob_value p_ob_faultKind p_fob_houses p_ob_houseMany p_fob_byCall p_fob_over p_ob_bestSet p_ob_bestOver p_ob_tenMany p_ob_callMany h_1002 h_1003) rfl ⟨(callB_of 2 hw0 (gA m_661) rfl rfl rfl (hw0 _ m_41) (hw0 _ m_580) cb_X10_rounds ⟨Nat.le_of_ble_eq_true rfl, Nat.le_of_ble_eq_true rfl⟩), (hw0 _ m_581), (hw0 _ m_582)⟩ (ci := 10) (q := (RX10, TX10, 41)) rfl rfl rfl hl.1 (Nat.le_of_ble_eq_true rfl) dX10_worth_15 ⟨Nat.le_of_ble_eq_true rfl, Nat.le_of_ble_eq_true rfl⟩ (fun w_1004 H locs hw_1004 hP hD hS => ?_)
    obtain ⟨v_1005, v_1006, v_1007, v_1008, f_1009, f_1010, f_1011, f_1012, bv_1005, bv_1006, bv_1007, bv_1008, bf_1009, bf_1011, bf_1012, rfl⟩ := hw_1004
    obtain ⟨hP, hD⟩ : vPD G A H [(ce_X10 ob ob_thrown ob_world ob_images ob_hasImage ob_tape ob_taped ob_five ob_size ob_at ob_from ob_token ob_value ob_faultKind ob_faultPlace ob_fresh ob_parts ob_houses v_1005 ob_worthOf ob_byCall ob_over v_1006 v_1007 v_1008 ob_row ob_tenDebts ob_tenMany ob_fewestBy ob_covered ob_queue ob_cameBy ob_parent ob_met ob_calls ob_callMany ob_calledOn ob_saved ob_many ob_width ob_numbers ob_moving), (ce_i9080 y ob_world fob_world), (ce_i16 y ob_houses f_1009), (ce_i16 y ob_worthOf f_1010), (ce_z16 y ob_byCall f_1011), (ce_i10240 y ob_over f_1012)] := ⟨hP, hD⟩
    refine lv_aload_n hx hb dX10_worth_18 rfl (lv_at hl 0 rfl) ?_
    refine va_get (D := G) (ci := 10) (v := .int v_1008) (C := RX10) (T := TX10) (N := 41) hx hb hw0 inA_wsX100 hown hK.1 hP 0 rfl rfl 23 (by decide) (hw0 _ m_665) (fun _ h9 => h9) rfl dX10_worth_19 ?_
    exact W.iret (v := v_1008) hx hb hr (fun t ht hW => ⟨⟨v_1008, _, rfl, ⟨v_1008, v_1005, v_1006, v_1007, v_1008, f_1009, f_1010, f_1011, f_1012, (bw (-2) (2147483647) bv_1008 (by decide)), bv_1005, bv_1006, (bw (-1) (180) bv_1007 (by decide)), bf_1009, bf_1011, bf_1012, rfl, rfl⟩, by rw [ht]; exact hP, hD⟩, hS.F ht⟩) hS.2.2 dX10_worth_22

set_option maxHeartbeats 4000000 in
set_option maxRecDepth 100000 in
theorem sX10_over (l : Launch) (G : va_G) (y : Nat → ClassId) (sz : Nat) (ob : Nat) (a1 : Int32) (a2 : Int32) (ob_thrown : Int32) (ob_world : Nat) (ob_images : Nat) (ob_hasImage : Nat) (ob_tape : Nat) (ob_taped : Int32) (ob_five : Nat) (ob_size : Int32) (ob_at : Int32) (ob_from : Int32) (ob_token : Int32) (ob_value : Int32) (ob_faultKind : Int32) (ob_faultPlace : Int32) (ob_fresh : Nat) (ob_parts : Nat) (ob_houses : Nat) (ob_houseMany : Int32) (ob_worthOf : Nat) (ob_byCall : Nat) (ob_over : Nat) (ob_bestSet : Int32) (ob_bestOver : Int32) (ob_bestWorth : Int32) (ob_row : Nat) (ob_tenDebts : Nat) (ob_tenMany : Int32) (ob_fewestBy : Nat) (ob_covered : Nat) (ob_queue : Nat) (ob_cameBy : Nat) (ob_parent : Nat) (ob_met : Nat) (ob_calls : Nat) (ob_callMany : Int32) (ob_calledOn : Nat) (ob_saved : Nat) (ob_many : Nat) (ob_width : Nat) (ob_numbers : Nat) (ob_moving : Nat) (fob_world : Nat → Int32) (fob_houses : Nat → Int32) (fob_worthOf : Nat → Int32) (fob_byCall : Nat → Int32) (fob_over : Nat → Int32) (p_fob_world : RWw fob_world) (p_ob_taped : (0 : Int) ≤ ob_taped.toInt ∧ ob_taped.toInt ≤ 1400) (p_ob_size : (0 : Int) ≤ ob_size.toInt ∧ ob_size.toInt ≤ 1400) (p_ob_at : (0 : Int) ≤ ob_at.toInt ∧ ob_at.toInt ≤ 1400) (p_ob_from : (0 : Int) ≤ ob_from.toInt ∧ ob_from.toInt ≤ 1400) (p_ob_token : (0 : Int) ≤ ob_token.toInt ∧ ob_token.toInt ≤ 4) (p_ob_value : (0 : Int) ≤ ob_value.toInt ∧ ob_value.toInt ≤ 9999) (p_ob_faultKind : (0 : Int) ≤ ob_faultKind.toInt ∧ ob_faultKind.toInt ≤ 3) (p_fob_houses : ∀ i, (0 : Int) ≤ (fob_houses i).toInt ∧ (fob_houses i).toInt ≤ 15) (p_ob_houseMany : (0 : Int) ≤ ob_houseMany.toInt ∧ ob_houseMany.toInt ≤ 10) (p_fob_byCall : ∀ i, (0 : Int) ≤ (fob_byCall i).toInt ∧ (fob_byCall i).toInt ≤ 1) (p_fob_over : ∀ i, (-1 : Int) ≤ (fob_over i).toInt ∧ (fob_over i).toInt ≤ 180) (p_ob_bestSet : (0 : Int) ≤ ob_bestSet.toInt ∧ ob_bestSet.toInt ≤ 1023) (p_ob_bestOver : (-1 : Int) ≤ ob_bestOver.toInt ∧ ob_bestOver.toInt ≤ 180) (p_ob_tenMany : (0 : Int) ≤ ob_tenMany.toInt ∧ ob_tenMany.toInt ≤ 10) (p_ob_callMany : (0 : Int) ≤ ob_callMany.toInt ∧ ob_callMany.toInt ≤ 16) : Met l yX10_over (Cond.code yX10_over cX10_over 3 (some .int) :: wAll) ({ frames := 5, cells := 0, slots := 0, locals := 125 }) (va_Pc [.ref ob, .int a1, .int a2] (kp G y sz [(ce_X10 ob ob_thrown ob_world ob_images ob_hasImage ob_tape ob_taped ob_five ob_size ob_at ob_from ob_token ob_value ob_faultKind ob_faultPlace ob_fresh ob_parts ob_houses ob_houseMany ob_worthOf ob_byCall ob_over ob_bestSet ob_bestOver ob_bestWorth ob_row ob_tenDebts ob_tenMany ob_fewestBy ob_covered ob_queue ob_cameBy ob_parent ob_met ob_calls ob_callMany ob_calledOn ob_saved ob_many ob_width ob_numbers ob_moving), (ce_i9080 y ob_world fob_world), (ce_i16 y ob_houses fob_houses), (ce_i16 y ob_worthOf fob_worthOf), (ce_z16 y ob_byCall fob_byCall), (ce_i10240 y ob_over fob_over)])) (va_Qi (fun (r : Int32) (w : va_W) => (∃ (v_25 : Int32) (v_26 : Int32) (v_27 : Int32) (v_28 : Int32) (v_29 : Int32) (f_30 : Nat → Int32) (f_31 : Nat → Int32) (f_32 : Nat → Int32) (f_33 : Nat → Int32), ((-2 : Int) ≤ v_25.toInt ∧ v_25.toInt ≤ 180) ∧ ((0 : Int) ≤ v_26.toInt ∧ v_26.toInt ≤ 10) ∧ ((0 : Int) ≤ v_27.toInt ∧ v_27.toInt ≤ 1023) ∧ ((-1 : Int) ≤ v_28.toInt ∧ v_28.toInt ≤ 180) ∧ (∀ i, (0 : Int) ≤ (f_30 i).toInt ∧ (f_30 i).toInt ≤ 15) ∧ (∀ i, (0 : Int) ≤ (f_32 i).toInt ∧ (f_32 i).toInt ≤ 1) ∧ (∀ i, (-1 : Int) ≤ (f_33 i).toInt ∧ (f_33 i).toInt ≤ 180) ∧ r = v_25 ∧ w = [(ce_X10 ob ob_thrown ob_world ob_images ob_hasImage ob_tape ob_taped ob_five ob_size ob_at ob_from ob_token ob_value ob_faultKind ob_faultPlace ob_fresh ob_parts ob_houses v_26 ob_worthOf ob_byCall ob_over v_27 v_28 v_29 ob_row ob_tenDebts ob_tenMany ob_fewestBy ob_covered ob_queue ob_cameBy ob_parent ob_met ob_calls ob_callMany ob_calledOn ob_saved ob_many ob_width ob_numbers ob_moving), (ce_i9080 y ob_world fob_world), (ce_i16 y ob_houses f_30), (ce_i16 y ob_worthOf f_31), (ce_z16 y ob_byCall f_32), (ce_i10240 y ob_over f_33)])) (kq G (va_A [(ce_X10 ob ob_thrown ob_world ob_images ob_hasImage ob_tape ob_taped ob_five ob_size ob_at ob_from ob_token ob_value ob_faultKind ob_faultPlace ob_fresh ob_parts ob_houses ob_houseMany ob_worthOf ob_byCall ob_over ob_bestSet ob_bestOver ob_bestWorth ob_row ob_tenDebts ob_tenMany ob_fewestBy ob_covered ob_queue ob_cameBy ob_parent ob_met ob_calls ob_callMany ob_calledOn ob_saved ob_many ob_width ob_numbers ob_moving), (ce_i9080 y ob_world fob_world), (ce_i16 y ob_houses fob_houses), (ce_i16 y ob_worthOf fob_worthOf), (ce_z16 y ob_byCall fob_byCall), (ce_i10240 y ob_over fob_over)] sz)) (va_A [(ce_X10 ob ob_thrown ob_world ob_images ob_hasImage ob_tape ob_taped ob_five ob_size ob_at ob_from ob_token ob_value ob_faultKind ob_faultPlace ob_fresh ob_parts ob_houses ob_houseMany ob_worthOf ob_byCall ob_over ob_bestSet ob_bestOver ob_bestWorth ob_row ob_tenDebts ob_tenMany ob_fewestBy ob_covered ob_queue ob_cameBy ob_parent ob_met ob_calls ob_callMany ob_calledOn ob_saved ob_many ob_width ob_numbers ob_moving), (ce_i9080 y ob_world fob_world), (ce_i16 y ob_houses fob_houses), (ce_i16 y ob_worthOf fob_worthOf), (ce_z16 y ob_byCall fob_byCall), (ce_i10240 y ob_over fob_over)] sz)) 0 0 (va_A [(ce_X10 ob ob_thrown ob_world ob_images ob_hasImage ob_tape ob_taped ob_five ob_size ob_at ob_from ob_token ob_value ob_faultKind ob_faultPlace ob_fresh ob_parts ob_houses ob_houseMany ob_worthOf ob_byCall ob_over ob_bestSet ob_bestOver ob_bestWorth ob_row ob_tenDebts ob_tenMany ob_fewestBy ob_covered ob_queue ob_cameBy ob_parent ob_met ob_calls ob_callMany ob_calledOn ob_saved ob_many ob_width ob_numbers ob_moving), (ce_i9080 y ob_world fob_world), (ce_i16 y ob_houses fob_houses), (ce_i16 y ob_worthOf fob_worthOf), (ce_z16 y ob_byCall fob_byCall), (ce_i10240 y ob_over fob_over)] sz) := by
  refine Met.ofW (cc := cX10_over) (maxL := 3) (ret := (some .int)) (by decide) rfl ?_
  intro p e s m args below meth c s₁ B hml hv
  obtain ⟨rfl, hsz, hP, hK, hD0⟩ := hv
  have hx := B.exec
  have hb := B.bytes
  have hr := B.returns
  have hw0 : ∀ w ∈ wAll, w.before _ s = true := fun w h => atoms_spec (ws := Cond.code yX10_over cX10_over 3 (some .int) :: wAll) B.pre w (List.mem_cons_of_mem _ h)
  have hown : s.vm.findClass RX10 = some m.cls := findClass_of_methodNamed B.named
  subst hsz
  have hD := hD0.self (sz := s.heap.size)
  generalize hAe : va_A [(ce_X10 ob ob_thrown ob_world ob_images ob_hasImage ob_tape ob_taped ob_five ob_size ob_at ob_from ob_token ob_value ob_faultKind ob_faultPlace ob_fresh ob_parts ob_houses ob_houseMany ob_worthOf ob_byCall ob_over ob_bestSet ob_bestOver ob_bestWorth ob_row ob_tenDebts ob_tenMany ob_fewestBy ob_covered ob_queue ob_cameBy ob_parent ob_met ob_calls ob_callMany ob_calledOn ob_saved ob_many ob_width ob_numbers ob_moving), (ce_i9080 y ob_world fob_world), (ce_i16 y ob_houses fob_houses), (ce_i16 y ob_worthOf fob_worthOf), (ce_z16 y ob_byCall fob_byCall), (ce_i10240 y ob_over fob_over)] s.heap.size = A at hD ⊢
  have hA : ∀ q : Nat, s.heap.size ≤ q → A q := fun q h => by rw [← hAe]; exact Or.inr h
  have hS : va_S A s.heap s.heap [] := va_S.rf
  have hP : va_P G vwCl [(ce_X10 ob ob_thrown ob_world ob_images ob_hasImage ob_tape ob_taped ob_five ob_size ob_at ob_from ob_token ob_value ob_faultKind ob_faultPlace ob_fresh ob_parts ob_houses ob_houseMany ob_worthOf ob_byCall ob_over ob_bestSet ob_bestOver ob_bestWorth ob_row ob_tenDebts ob_tenMany ob_fewestBy ob_covered ob_queue ob_cameBy ob_parent ob_met ob_calls ob_callMany ob_calledOn ob_saved ob_many ob_width ob_numbers ob_moving), (ce_i9080 y ob_world fob_world), (ce_i16 y ob_houses fob_houses), (ce_i16 y ob_worthOf fob_worthOf), (ce_z16 y ob_byCall fob_byCall), (ce_i10240 y ob_over fob_over)] s.heap := hP
  have hl := lv_entry ([.ref ob, .int a1, .int a2]) (n := 3) (Nat.le_of_ble_eq_true rfl)
  rw [lg_entry_eq]
  generalize (lg_sl ([.ref ob, .int a1, .int a2]) ++ List.replicate (3 - (lg_sl ([.ref ob, .int a1, .int a2])).length) Slot.unset).toArray = ls at hl ⊢
  have hl : lv_has ls 3 [(0, .ref ob), (1, .int a1), (2, .int a2)] := hl
  refine lv_aload_n hx hb dX10_over_0 rfl (lv_at hl 0 rfl) ?_
  refine lv_iload_n hx hb dX10_over_1 rfl (lv_at hl 1 rfl) ?_
  refine lv_iload_n hx hb dX10_over_2 rfl (lv_at hl 2 rfl) ?_
  refine cVim (As := [.int a1, .int a2]) (rest := []) ⟨hx, hb, hml, hown, hw0⟩ hA hK hP hD hS [true, true] (sX10_isRound l G y _ ob a1 a2 ob_thrown ob_world ob_images ob_hasImage ob_tape ob_taped ob_five ob_size ob_at ob_from ob_token ob_value ob_faultKind ob_faultPlace ob_fresh ob_parts ob_houses ob_houseMany ob_worthOf ob_byCall ob_over ob_bestSet ob_bestOver ob_bestWorth ob_row ob_tenDebts ob_tenMany ob_fewestBy ob_covered ob_queue ob_cameBy ob_parent ob_met ob_calls ob_callMany ob_calledOn ob_saved ob_many ob_width ob_numbers ob_moving fob_world p_fob_world p_ob_taped p_ob_size p_ob_at p_ob_from p_ob_token p_ob_value p_ob_faultKind p_ob_houseMany p_ob_bestSet p_ob_bestOver p_ob_tenMany p_ob_callMany) rfl ⟨(callB_of 2 hw0 (gA m_541) rfl rfl rfl (hw0 _ m_41) (hw0 _ m_555) cb_X10_isRound ⟨Nat.le_of_ble_eq_true rfl, Nat.le_of_ble_eq_true rfl⟩), (hw0 _ m_556), (hw0 _ m_557)⟩ (ci := 10) (q := (RX10, TX10, 41)) rfl rfl rfl hl.1 (Nat.le_of_ble_eq_true rfl) dX10_over_3 ⟨Nat.le_of_ble_eq_true rfl, Nat.le_of_ble_eq_true rfl⟩ (fun r_1001 w_1001 H locs hw_1001 hP hD hS => ?_)
  rcases hw_1001 with ⟨rfl, rfl⟩ | ⟨h_1002, h_1003, rfl, rfl⟩
  · skip
    obtain ⟨hP, hD⟩ : vPD G A H [(ce_X10 ob ob_thrown ob_world ob_images ob_hasImage ob_tape ob_taped ob_five ob_size ob_at ob_from ob_token ob_value ob_faultKind ob_faultPlace ob_fresh ob_parts ob_houses ob_houseMany ob_worthOf ob_byCall ob_over ob_bestSet ob_bestOver ob_bestWorth ob_row ob_tenDebts ob_tenMany ob_fewestBy ob_covered ob_queue ob_cameBy ob_parent ob_met ob_calls ob_callMany ob_calledOn ob_saved ob_many ob_width ob_numbers ob_moving), (ce_i9080 y ob_world fob_world), (ce_i16 y ob_houses fob_houses), (ce_i16 y ob_worthOf fob_worthOf), (ce_z16 y ob_byCall fob_byCall), (ce_i10240 y ob_over fob_over)] := ⟨hP, hD⟩
    refine lv_if_ne (tgt := 12) hx hb dX10_over_6 (by decide) (fun c9 => absurd (by decide) c9) (fun _ => ?_)
    refine lv_bipush (v := (-2)) hx hb dX10_over_9 (by decide) ?_
    exact W.iret (v := (-2)) hx hb hr (fun t ht hW => ⟨⟨(-2), _, rfl, ⟨(-2), ob_houseMany, ob_bestSet, ob_bestOver, ob_bestWorth, fob_houses, fob_worthOf, fob_byCall, fob_over, (bw (-2) (180) (bkc (x := (-2)) (c := -2) (by decide)) (by decide)), p_ob_houseMany, p_ob_bestSet, p_ob_bestOver, p_fob_houses, p_fob_byCall, p_fob_over, rfl, rfl⟩, by rw [ht]; exact hP, hD⟩, hS.F ht⟩) hS.2.2 dX10_over_11
  · skip
    obtain ⟨hP, hD⟩ : vPD G A H [(ce_X10 ob ob_thrown ob_world ob_images ob_hasImage ob_tape ob_taped ob_five ob_size ob_at ob_from ob_token ob_value ob_faultKind ob_faultPlace ob_fresh ob_parts ob_houses ob_houseMany ob_worthOf ob_byCall ob_over ob_bestSet ob_bestOver ob_bestWorth ob_row ob_tenDebts ob_tenMany ob_fewestBy ob_covered ob_queue ob_cameBy ob_parent ob_met ob_calls ob_callMany ob_calledOn ob_saved ob_many ob_width ob_numbers ob_moving), (ce_i9080 y ob_world fob_world), (ce_i16 y ob_houses fob_houses), (ce_i16 y ob_worthOf fob_worthOf), (ce_z16 y ob_byCall fob_byCall), (ce_i10240 y ob_over fob_over)] := ⟨hP, hD⟩
    refine lv_if_ne (tgt := 12) hx hb dX10_over_6 (by decide) (fun _ => ?_) (fun c9 => absurd c9 (by decide))
    refine lv_aload_n hx hb dX10_over_12 rfl (lv_at hl 0 rfl) ?_
    refine lv_iload_n hx hb dX10_over_13 rfl (lv_at hl 1 rfl) ?_
    refine lv_iload_n hx hb dX10_over_14 rfl (lv_at hl 2 rfl) ?_
    refine cVvm (As := [.int a1, .int a2]) (rest := []) ⟨hx, hb, hml, hown, hw0⟩ hA hK hP hD hS [true, true, true, true, true, true] (sX10_rounds l G y _ ob a1 a2 ob_thrown ob_world ob_images ob_hasImage ob_tape ob_taped ob_five ob_size ob_at ob_from ob_token ob_value ob_faultKind ob_faultPlace ob_fresh ob_parts ob_houses ob_houseMany ob_worthOf ob_byCall ob_over ob_bestSet ob_bestOver ob_bestWorth ob_row ob_tenDebts ob_tenMany ob_fewestBy ob_covered ob_queue ob_cameBy ob_parent ob_met ob_calls ob_callMany ob_calledOn ob_saved ob_many ob_width ob_numbers ob_moving fob_world fob_houses fob_worthOf fob_byCall fob_over p_fob_world p_ob_taped p_ob_size p_ob_at p_ob_from p_ob_token p_ob_value p_ob_faultKind p_fob_houses p_ob_houseMany p_fob_byCall p_fob_over p_ob_bestSet p_ob_bestOver p_ob_tenMany p_ob_callMany h_1002 h_1003) rfl ⟨(callB_of 2 hw0 (gA m_661) rfl rfl rfl (hw0 _ m_41) (hw0 _ m_580) cb_X10_rounds ⟨Nat.le_of_ble_eq_true rfl, Nat.le_of_ble_eq_true rfl⟩), (hw0 _ m_581), (hw0 _ m_582)⟩ (ci := 10) (q := (RX10, TX10, 41)) rfl rfl rfl hl.1 (Nat.le_of_ble_eq_true rfl) dX10_over_15 ⟨Nat.le_of_ble_eq_true rfl, Nat.le_of_ble_eq_true rfl⟩ (fun w_1004 H locs hw_1004 hP hD hS => ?_)
    obtain ⟨v_1005, v_1006, v_1007, v_1008, f_1009, f_1010, f_1011, f_1012, bv_1005, bv_1006, bv_1007, bv_1008, bf_1009, bf_1011, bf_1012, rfl⟩ := hw_1004
    obtain ⟨hP, hD⟩ : vPD G A H [(ce_X10 ob ob_thrown ob_world ob_images ob_hasImage ob_tape ob_taped ob_five ob_size ob_at ob_from ob_token ob_value ob_faultKind ob_faultPlace ob_fresh ob_parts ob_houses v_1005 ob_worthOf ob_byCall ob_over v_1006 v_1007 v_1008 ob_row ob_tenDebts ob_tenMany ob_fewestBy ob_covered ob_queue ob_cameBy ob_parent ob_met ob_calls ob_callMany ob_calledOn ob_saved ob_many ob_width ob_numbers ob_moving), (ce_i9080 y ob_world fob_world), (ce_i16 y ob_houses f_1009), (ce_i16 y ob_worthOf f_1010), (ce_z16 y ob_byCall f_1011), (ce_i10240 y ob_over f_1012)] := ⟨hP, hD⟩
    refine lv_aload_n hx hb dX10_over_18 rfl (lv_at hl 0 rfl) ?_
    refine va_get (D := G) (ci := 10) (v := .int v_1007) (C := RX10) (T := TX10) (N := 41) hx hb hw0 inA_wsX100 hown hK.1 hP 0 rfl rfl 22 (by decide) (hw0 _ m_583) (fun _ h9 => h9) rfl dX10_over_19 ?_
    exact W.iret (v := v_1007) hx hb hr (fun t ht hW => ⟨⟨v_1007, _, rfl, ⟨v_1007, v_1005, v_1006, v_1007, v_1008, f_1009, f_1010, f_1011, f_1012, (bw (-2) (180) bv_1007 (by decide)), bv_1005, bv_1006, (bw (-1) (180) bv_1007 (by decide)), bf_1009, bf_1011, bf_1012, rfl, rfl⟩, by rw [ht]; exact hP, hD⟩, hS.F ht⟩) hS.2.2 dX10_over_22

set_option maxHeartbeats 4000000 in
set_option maxRecDepth 100000 in
theorem sX10_may (l : Launch) (G : va_G) (y : Nat → ClassId) (sz : Nat) (ob : Nat) (a1 : Int32) (a2 : Int32) (a3 : Int32) (ob_thrown : Int32) (ob_world : Nat) (ob_images : Nat) (ob_hasImage : Nat) (ob_tape : Nat) (ob_taped : Int32) (ob_five : Nat) (ob_size : Int32) (ob_at : Int32) (ob_from : Int32) (ob_token : Int32) (ob_value : Int32) (ob_faultKind : Int32) (ob_faultPlace : Int32) (ob_fresh : Nat) (ob_parts : Nat) (ob_houses : Nat) (ob_houseMany : Int32) (ob_worthOf : Nat) (ob_byCall : Nat) (ob_over : Nat) (ob_bestSet : Int32) (ob_bestOver : Int32) (ob_bestWorth : Int32) (ob_row : Nat) (ob_tenDebts : Nat) (ob_tenMany : Int32) (ob_fewestBy : Nat) (ob_covered : Nat) (ob_queue : Nat) (ob_cameBy : Nat) (ob_parent : Nat) (ob_met : Nat) (ob_calls : Nat) (ob_callMany : Int32) (ob_calledOn : Nat) (ob_saved : Nat) (ob_many : Nat) (ob_width : Nat) (ob_numbers : Nat) (ob_moving : Nat) (fob_world : Nat → Int32) (fob_worthOf : Nat → Int32) (fob_byCall : Nat → Int32) (fob_many : Nat → Int32) (fob_numbers : Nat → Int64) (p_fob_world : RWw fob_world) (p_ob_taped : (0 : Int) ≤ ob_taped.toInt ∧ ob_taped.toInt ≤ 1400) (p_ob_size : (0 : Int) ≤ ob_size.toInt ∧ ob_size.toInt ≤ 1400) (p_ob_at : (0 : Int) ≤ ob_at.toInt ∧ ob_at.toInt ≤ 1400) (p_ob_from : (0 : Int) ≤ ob_from.toInt ∧ ob_from.toInt ≤ 1400) (p_ob_token : (0 : Int) ≤ ob_token.toInt ∧ ob_token.toInt ≤ 4) (p_ob_value : (0 : Int) ≤ ob_value.toInt ∧ ob_value.toInt ≤ 9999) (p_ob_faultKind : (0 : Int) ≤ ob_faultKind.toInt ∧ ob_faultKind.toInt ≤ 3) (p_ob_houseMany : (0 : Int) ≤ ob_houseMany.toInt ∧ ob_houseMany.toInt ≤ 10) (p_fob_byCall : ∀ i, (0 : Int) ≤ (fob_byCall i).toInt ∧ (fob_byCall i).toInt ≤ 1) (p_ob_bestSet : (0 : Int) ≤ ob_bestSet.toInt ∧ ob_bestSet.toInt ≤ 1023) (p_ob_bestOver : (-1 : Int) ≤ ob_bestOver.toInt ∧ ob_bestOver.toInt ≤ 180) (p_ob_tenMany : (0 : Int) ≤ ob_tenMany.toInt ∧ ob_tenMany.toInt ≤ 10) (p_ob_callMany : (0 : Int) ≤ ob_callMany.toInt ∧ ob_callMany.toInt ≤ 16) (p_fob_many : ∀ i, (-1 : Int) ≤ (fob_many i).toInt ∧ (fob_many i).toInt ≤ 60) : Met l yX10_may (Cond.code yX10_may cX10_may 11 (some .int) :: wAll) ({ frames := 3, cells := 0, slots := 0, locals := 69 }) (va_Pc [.ref ob, .int a1, .int a2, .int a3] (kp G y sz [(ce_X10 ob ob_thrown ob_world ob_images ob_hasImage ob_tape ob_taped ob_five ob_size ob_at ob_from ob_token ob_value ob_faultKind ob_faultPlace ob_fresh ob_parts ob_houses ob_houseMany ob_worthOf ob_byCall ob_over ob_bestSet ob_bestOver ob_bestWorth ob_row ob_tenDebts ob_tenMany ob_fewestBy ob_covered ob_queue ob_cameBy ob_parent ob_met ob_calls ob_callMany ob_calledOn ob_saved ob_many ob_width ob_numbers ob_moving), (ce_i9080 y ob_world fob_world), (ce_i16 y ob_worthOf fob_worthOf), (ce_z16 y ob_byCall fob_byCall), (ce_i4 y ob_many fob_many), (ce_l240 y ob_numbers fob_numbers)])) (va_Qi (fun (r : Int32) (w : va_W) => (∃ (v_1047 : Int32) (f_1048 : Nat → Int32) (f_1049 : Nat → Int32), ((-6 : Int) ≤ v_1047.toInt ∧ v_1047.toInt ≤ 1) ∧ (∀ i, (0 : Int) ≤ (f_1049 i).toInt ∧ (f_1049 i).toInt ≤ 1) ∧ r = v_1047 ∧ w = [(ce_X10 ob ob_thrown ob_world ob_images ob_hasImage ob_tape ob_taped ob_five ob_size ob_at ob_from ob_token ob_value ob_faultKind ob_faultPlace ob_fresh ob_parts ob_houses ob_houseMany ob_worthOf ob_byCall ob_over ob_bestSet ob_bestOver ob_bestWorth ob_row ob_tenDebts ob_tenMany ob_fewestBy ob_covered ob_queue ob_cameBy ob_parent ob_met ob_calls ob_callMany ob_calledOn ob_saved ob_many ob_width ob_numbers ob_moving), (ce_i9080 y ob_world fob_world), (ce_i16 y ob_worthOf f_1048), (ce_z16 y ob_byCall f_1049), (ce_i4 y ob_many fob_many), (ce_l240 y ob_numbers fob_numbers)])) (kq G (va_A [(ce_X10 ob ob_thrown ob_world ob_images ob_hasImage ob_tape ob_taped ob_five ob_size ob_at ob_from ob_token ob_value ob_faultKind ob_faultPlace ob_fresh ob_parts ob_houses ob_houseMany ob_worthOf ob_byCall ob_over ob_bestSet ob_bestOver ob_bestWorth ob_row ob_tenDebts ob_tenMany ob_fewestBy ob_covered ob_queue ob_cameBy ob_parent ob_met ob_calls ob_callMany ob_calledOn ob_saved ob_many ob_width ob_numbers ob_moving), (ce_i9080 y ob_world fob_world), (ce_i16 y ob_worthOf fob_worthOf), (ce_z16 y ob_byCall fob_byCall), (ce_i4 y ob_many fob_many), (ce_l240 y ob_numbers fob_numbers)] sz)) (va_A [(ce_X10 ob ob_thrown ob_world ob_images ob_hasImage ob_tape ob_taped ob_five ob_size ob_at ob_from ob_token ob_value ob_faultKind ob_faultPlace ob_fresh ob_parts ob_houses ob_houseMany ob_worthOf ob_byCall ob_over ob_bestSet ob_bestOver ob_bestWorth ob_row ob_tenDebts ob_tenMany ob_fewestBy ob_covered ob_queue ob_cameBy ob_parent ob_met ob_calls ob_callMany ob_calledOn ob_saved ob_many ob_width ob_numbers ob_moving), (ce_i9080 y ob_world fob_world), (ce_i16 y ob_worthOf fob_worthOf), (ce_z16 y ob_byCall fob_byCall), (ce_i4 y ob_many fob_many), (ce_l240 y ob_numbers fob_numbers)] sz)) 0 0 (va_A [(ce_X10 ob ob_thrown ob_world ob_images ob_hasImage ob_tape ob_taped ob_five ob_size ob_at ob_from ob_token ob_value ob_faultKind ob_faultPlace ob_fresh ob_parts ob_houses ob_houseMany ob_worthOf ob_byCall ob_over ob_bestSet ob_bestOver ob_bestWorth ob_row ob_tenDebts ob_tenMany ob_fewestBy ob_covered ob_queue ob_cameBy ob_parent ob_met ob_calls ob_callMany ob_calledOn ob_saved ob_many ob_width ob_numbers ob_moving), (ce_i9080 y ob_world fob_world), (ce_i16 y ob_worthOf fob_worthOf), (ce_z16 y ob_byCall fob_byCall), (ce_i4 y ob_many fob_many), (ce_l240 y ob_numbers fob_numbers)] sz) := by
  refine Met.ofW (cc := cX10_may) (maxL := 11) (ret := (some .int)) (by decide) rfl ?_
  intro p e s m args below meth c s₁ B hml hv
  obtain ⟨rfl, hsz, hP, hK, hD0⟩ := hv
  have hx := B.exec
  have hb := B.bytes
  have hr := B.returns
  have hw0 : ∀ w ∈ wAll, w.before _ s = true := fun w h => atoms_spec (ws := Cond.code yX10_may cX10_may 11 (some .int) :: wAll) B.pre w (List.mem_cons_of_mem _ h)
  have hown : s.vm.findClass RX10 = some m.cls := findClass_of_methodNamed B.named
  subst hsz
  have hD := hD0.self (sz := s.heap.size)
  generalize hAe : va_A [(ce_X10 ob ob_thrown ob_world ob_images ob_hasImage ob_tape ob_taped ob_five ob_size ob_at ob_from ob_token ob_value ob_faultKind ob_faultPlace ob_fresh ob_parts ob_houses ob_houseMany ob_worthOf ob_byCall ob_over ob_bestSet ob_bestOver ob_bestWorth ob_row ob_tenDebts ob_tenMany ob_fewestBy ob_covered ob_queue ob_cameBy ob_parent ob_met ob_calls ob_callMany ob_calledOn ob_saved ob_many ob_width ob_numbers ob_moving), (ce_i9080 y ob_world fob_world), (ce_i16 y ob_worthOf fob_worthOf), (ce_z16 y ob_byCall fob_byCall), (ce_i4 y ob_many fob_many), (ce_l240 y ob_numbers fob_numbers)] s.heap.size = A at hD ⊢
  have hA : ∀ q : Nat, s.heap.size ≤ q → A q := fun q h => by rw [← hAe]; exact Or.inr h
  have hS : va_S A s.heap s.heap [] := va_S.rf
  have hP : va_P G vwCl [(ce_X10 ob ob_thrown ob_world ob_images ob_hasImage ob_tape ob_taped ob_five ob_size ob_at ob_from ob_token ob_value ob_faultKind ob_faultPlace ob_fresh ob_parts ob_houses ob_houseMany ob_worthOf ob_byCall ob_over ob_bestSet ob_bestOver ob_bestWorth ob_row ob_tenDebts ob_tenMany ob_fewestBy ob_covered ob_queue ob_cameBy ob_parent ob_met ob_calls ob_callMany ob_calledOn ob_saved ob_many ob_width ob_numbers ob_moving), (ce_i9080 y ob_world fob_world), (ce_i16 y ob_worthOf fob_worthOf), (ce_z16 y ob_byCall fob_byCall), (ce_i4 y ob_many fob_many), (ce_l240 y ob_numbers fob_numbers)] s.heap := hP
  have hl := lv_entry ([.ref ob, .int a1, .int a2, .int a3]) (n := 11) (Nat.le_of_ble_eq_true rfl)
  rw [lg_entry_eq]
  generalize (lg_sl ([.ref ob, .int a1, .int a2, .int a3]) ++ List.replicate (11 - (lg_sl ([.ref ob, .int a1, .int a2, .int a3])).length) Slot.unset).toArray = ls at hl ⊢
  have hl : lv_has ls 11 [(0, .ref ob), (1, .int a1), (2, .int a2), (3, .int a3)] := hl
  refine lv_iload_n hx hb dX10_may_0 rfl (lv_at hl 1 rfl) ?_
  refine cutW 16 (fun H locs ls st => st = [] ∧ vPD G A H [(ce_X10 ob ob_thrown ob_world ob_images ob_hasImage ob_tape ob_taped ob_five ob_size ob_at ob_from ob_token ob_value ob_faultKind ob_faultPlace ob_fresh ob_parts ob_houses ob_houseMany ob_worthOf ob_byCall ob_over ob_bestSet ob_bestOver ob_bestWorth ob_row ob_tenDebts ob_tenMany ob_fewestBy ob_covered ob_queue ob_cameBy ob_parent ob_met ob_calls ob_callMany ob_calledOn ob_saved ob_many ob_width ob_numbers ob_moving), (ce_i9080 y ob_world fob_world), (ce_i16 y ob_worthOf fob_worthOf), (ce_z16 y ob_byCall fob_byCall), (ce_i4 y ob_many fob_many), (ce_l240 y ob_numbers fob_numbers)] ∧ va_S A s.heap H locs ∧ lv_has ls 11 []) ?_ (fun J_16_1005 => ?_)
  · rintro H locs ls st ⟨rfl, ⟨hP, hD⟩, hS, hl⟩
    refine lv_bipush (v := (-2)) hx hb dX10_may_16 (by decide) ?_
    exact W.iret (v := (-2)) hx hb hr (fun t ht hW => ⟨⟨(-2), _, rfl, ⟨(-2), fob_worthOf, fob_byCall, (bw (-6) (1) (bkc (x := (-2)) (c := -2) (by decide)) (by decide)), p_fob_byCall, rfl, rfl⟩, by rw [ht]; exact hP, hD⟩, hS.F ht⟩) hS.2.2 dX10_may_18
  · skip
    refine cSim (As := [.int a1]) (rest := []) ⟨hx, hb, hml, hown, hw0⟩ hA hK hP hD hS [] (sX10_isSlot l G y _ a1 ) rfl ⟨(callB_of 1 hw0 (gA m_543) rfl rfl rfl (hw0 _ m_41) (hw0 _ m_433) cb_X10_isSlot ⟨Nat.le_of_ble_eq_true rfl, Nat.le_of_ble_eq_true rfl⟩), (hw0 _ m_434)⟩ rfl hl.1 (Nat.le_of_ble_eq_true rfl) dX10_may_1 ⟨Nat.le_of_ble_eq_true rfl, Nat.le_of_ble_eq_true rfl⟩ (fun r_1006 w_1006 H locs hw_1006 hP hD hS => ?_)
    rcases hw_1006 with ⟨rfl, rfl⟩ | ⟨h_1007, rfl, rfl⟩
    · skip
      obtain ⟨hP, hD⟩ : vPD G A H [(ce_X10 ob ob_thrown ob_world ob_images ob_hasImage ob_tape ob_taped ob_five ob_size ob_at ob_from ob_token ob_value ob_faultKind ob_faultPlace ob_fresh ob_parts ob_houses ob_houseMany ob_worthOf ob_byCall ob_over ob_bestSet ob_bestOver ob_bestWorth ob_row ob_tenDebts ob_tenMany ob_fewestBy ob_covered ob_queue ob_cameBy ob_parent ob_met ob_calls ob_callMany ob_calledOn ob_saved ob_many ob_width ob_numbers ob_moving), (ce_i9080 y ob_world fob_world), (ce_i16 y ob_worthOf fob_worthOf), (ce_z16 y ob_byCall fob_byCall), (ce_i4 y ob_many fob_many), (ce_l240 y ob_numbers fob_numbers)] := ⟨hP, hD⟩
      refine lv_if_eq (tgt := 16) hx hb dX10_may_4 (by decide) (fun _ => ?_) (fun c9 => absurd (by decide) c9)
      exact J_16_1005 _ _ _ _ ⟨rfl, ⟨hP, hD⟩, hS, lv_sub hl [] rfl⟩
    · skip
      obtain ⟨hP, hD⟩ : vPD G A H [(ce_X10 ob ob_thrown ob_world ob_images ob_hasImage ob_tape ob_taped ob_five ob_size ob_at ob_from ob_token ob_value ob_faultKind ob_faultPlace ob_fresh ob_parts ob_houses ob_houseMany ob_worthOf ob_byCall ob_over ob_bestSet ob_bestOver ob_bestWorth ob_row ob_tenDebts ob_tenMany ob_fewestBy ob_covered ob_queue ob_cameBy ob_parent ob_met ob_calls ob_callMany ob_calledOn ob_saved ob_many ob_width ob_numbers ob_moving), (ce_i9080 y ob_world fob_world), (ce_i16 y ob_worthOf fob_worthOf), (ce_z16 y ob_byCall fob_byCall), (ce_i4 y ob_many fob_many), (ce_l240 y ob_numbers fob_numbers)] := ⟨hP, hD⟩
      refine lv_if_eq (tgt := 16) hx hb dX10_may_4 (by decide) (fun c9 => absurd c9 (by decide)) (fun _ => ?_)
      refine lv_aload_n hx hb dX10_may_7 rfl (lv_at hl 0 rfl) ?_
      refine lv_iload_n hx hb dX10_may_8 rfl (lv_at hl 2 rfl) ?_
      refine lv_iload_n hx hb dX10_may_9 rfl (lv_at hl 3 rfl) ?_
      refine cVim (As := [.int a2, .int a3]) (rest := []) ⟨hx, hb, hml, hown, hw0⟩ hA hK hP hD hS [true, true] (sX10_isRound l G y _ ob a2 a3 ob_thrown ob_world ob_images ob_hasImage ob_tape ob_taped ob_five ob_size ob_at ob_from ob_token ob_value ob_faultKind ob_faultPlace ob_fresh ob_parts ob_houses ob_houseMany ob_worthOf ob_byCall ob_over ob_bestSet ob_bestOver ob_bestWorth ob_row ob_tenDebts ob_tenMany ob_fewestBy ob_covered ob_queue ob_cameBy ob_parent ob_met ob_calls ob_callMany ob_calledOn ob_saved ob_many ob_width ob_numbers ob_moving fob_world p_fob_world p_ob_taped p_ob_size p_ob_at p_ob_from p_ob_token p_ob_value p_ob_faultKind p_ob_houseMany p_ob_bestSet p_ob_bestOver p_ob_tenMany p_ob_callMany) rfl ⟨(callB_of 2 hw0 (gA m_541) rfl rfl rfl (hw0 _ m_41) (hw0 _ m_555) cb_X10_isRound ⟨Nat.le_of_ble_eq_true rfl, Nat.le_of_ble_eq_true rfl⟩), (hw0 _ m_556), (hw0 _ m_557)⟩ (ci := 10) (q := (RX10, TX10, 41)) rfl rfl rfl hl.1 (Nat.le_of_ble_eq_true rfl) dX10_may_10 ⟨Nat.le_of_ble_eq_true rfl, Nat.le_of_ble_eq_true rfl⟩ (fun r_1008 w_1008 H locs hw_1008 hP hD hS => ?_)
      rcases hw_1008 with ⟨rfl, rfl⟩ | ⟨h_1009, h_1010, rfl, rfl⟩
      · skip
        obtain ⟨hP, hD⟩ : vPD G A H [(ce_X10 ob ob_thrown ob_world ob_images ob_hasImage ob_tape ob_taped ob_five ob_size ob_at ob_from ob_token ob_value ob_faultKind ob_faultPlace ob_fresh ob_parts ob_houses ob_houseMany ob_worthOf ob_byCall ob_over ob_bestSet ob_bestOver ob_bestWorth ob_row ob_tenDebts ob_tenMany ob_fewestBy ob_covered ob_queue ob_cameBy ob_parent ob_met ob_calls ob_callMany ob_calledOn ob_saved ob_many ob_width ob_numbers ob_moving), (ce_i9080 y ob_world fob_world), (ce_i16 y ob_worthOf fob_worthOf), (ce_z16 y ob_byCall fob_byCall), (ce_i4 y ob_many fob_many), (ce_l240 y ob_numbers fob_numbers)] := ⟨hP, hD⟩
        refine lv_if_ne (tgt := 19) hx hb dX10_may_13 (by decide) (fun c9 => absurd (by decide) c9) (fun _ => ?_)
        exact J_16_1005 _ _ _ _ ⟨rfl, ⟨hP, hD⟩, hS, lv_sub hl [] rfl⟩
      · skip
        obtain ⟨hP, hD⟩ : vPD G A H [(ce_X10 ob ob_thrown ob_world ob_images ob_hasImage ob_tape ob_taped ob_five ob_size ob_at ob_from ob_token ob_value ob_faultKind ob_faultPlace ob_fresh ob_parts ob_houses ob_houseMany ob_worthOf ob_byCall ob_over ob_bestSet ob_bestOver ob_bestWorth ob_row ob_tenDebts ob_tenMany ob_fewestBy ob_covered ob_queue ob_cameBy ob_parent ob_met ob_calls ob_callMany ob_calledOn ob_saved ob_many ob_width ob_numbers ob_moving), (ce_i9080 y ob_world fob_world), (ce_i16 y ob_worthOf fob_worthOf), (ce_z16 y ob_byCall fob_byCall), (ce_i4 y ob_many fob_many), (ce_l240 y ob_numbers fob_numbers)] := ⟨hP, hD⟩
        refine lv_if_ne (tgt := 19) hx hb dX10_may_13 (by decide) (fun _ => ?_) (fun c9 => absurd c9 (by decide))
        refine lv_aload_n hx hb dX10_may_19 rfl (lv_at hl 0 rfl) ?_
        refine va_get (D := G) (ci := 10) (v := .ref ob_many) (C := RX10) (T := TX10) (N := 41) hx hb hw0 inA_wsX100 hown hK.1 hP 0 rfl rfl 37 (by decide) (hw0 _ m_406) (fun _ h9 => h9) rfl dX10_may_20 ?_
        refine lv_iload_n hx hb dX10_may_23 rfl (lv_at hl 1 rfl) ?_
        refine va_iald hx hb hK.1 hP 4 1 rfl rfl (vi h_1007 (by decide)) dX10_may_24 ?_
        refine lv_topi (fun v_1011 ev_1011 => ?_)
        have bv_1011 : (-1 : Int) ≤ v_1011.toInt ∧ v_1011.toInt ≤ 60 := rd_b ev_1011 p_fob_many
        refine lv_iconst (v := (-1)) hx hb dX10_may_25 (by decide) ?_
        refine lv_icmp_ne (tgt := 32) hx hb dX10_may_26 (by decide) (fun c_1012 => ?_) (fun c_1012 => ?_)
        · skip
          have nc_1012 := nb_ne (0) (60) c_1012 bv_1011 (k := -1) (by decide) (by decide)
          refine lv_aload_n hx hb dX10_may_32 rfl (lv_at hl 0 rfl) ?_
          refine lv_iload_n hx hb dX10_may_33 rfl (lv_at hl 2 rfl) ?_
          refine cVvm (As := [.int a2]) (rest := []) ⟨hx, hb, hml, hown, hw0⟩ hA hK hP hD hS [true, true, true, true] (sX10_weighs l G y _ ob a2 ob_thrown ob_world ob_images ob_hasImage ob_tape ob_taped ob_five ob_size ob_at ob_from ob_token ob_value ob_faultKind ob_faultPlace ob_fresh ob_parts ob_houses ob_houseMany ob_worthOf ob_byCall ob_over ob_bestSet ob_bestOver ob_bestWorth ob_row ob_tenDebts ob_tenMany ob_fewestBy ob_covered ob_queue ob_cameBy ob_parent ob_met ob_calls ob_callMany ob_calledOn ob_saved ob_many ob_width ob_numbers ob_moving fob_world fob_worthOf fob_byCall p_fob_world p_ob_taped p_ob_size p_ob_at p_ob_from p_ob_token p_ob_value p_ob_faultKind p_ob_houseMany p_fob_byCall p_ob_bestSet p_ob_bestOver p_ob_tenMany p_ob_callMany) rfl ⟨(callB_of 1 hw0 (gA m_696) rfl rfl rfl (hw0 _ m_41) (hw0 _ m_441) cb_X10_weighs ⟨Nat.le_of_ble_eq_true rfl, Nat.le_of_ble_eq_true rfl⟩), (hw0 _ m_442), (hw0 _ m_443)⟩ (ci := 10) (q := (RX10, TX10, 41)) rfl rfl rfl hl.1 (Nat.le_of_ble_eq_true rfl) dX10_may_34 ⟨Nat.le_of_ble_eq_true rfl, Nat.le_of_ble_eq_true rfl⟩ (fun w_1013 H locs hw_1013 hP hD hS => ?_)
          obtain ⟨f_1014, f_1015, bf_1015, rfl⟩ := hw_1013
          obtain ⟨hP, hD⟩ : vPD G A H [(ce_X10 ob ob_thrown ob_world ob_images ob_hasImage ob_tape ob_taped ob_five ob_size ob_at ob_from ob_token ob_value ob_faultKind ob_faultPlace ob_fresh ob_parts ob_houses ob_houseMany ob_worthOf ob_byCall ob_over ob_bestSet ob_bestOver ob_bestWorth ob_row ob_tenDebts ob_tenMany ob_fewestBy ob_covered ob_queue ob_cameBy ob_parent ob_met ob_calls ob_callMany ob_calledOn ob_saved ob_many ob_width ob_numbers ob_moving), (ce_i9080 y ob_world fob_world), (ce_i16 y ob_worthOf f_1014), (ce_z16 y ob_byCall f_1015), (ce_i4 y ob_many fob_many), (ce_l240 y ob_numbers fob_numbers)] := ⟨hP, hD⟩
          refine lv_iconst (v := 0) hx hb dX10_may_37 (by decide) ?_
          refine lv_istore (lv' := [(4, .int 0), (0, .ref ob), (1, .int a1), (2, .int a2), (3, .int a3)]) hx hb dX10_may_38 hl (by decide) rfl (fun ls hl => ?_)
          refine lv_iload_n hx hb dX10_may_40 rfl (lv_at hl 3 rfl) ?_
          refine lv_istore (lv' := [(5, .int a2), (4, .int 0), (0, .ref ob), (1, .int a1), (2, .int a2), (3, .int a3)]) hx hb dX10_may_41 hl (by decide) rfl (fun ls hl => ?_)
          refine lv_iconst (v := 0) hx hb dX10_may_43 (by decide) ?_
          refine lv_istore (lv' := [(6, .int 0), (5, .int a2), (4, .int 0), (0, .ref ob), (1, .int a1), (2, .int a2), (3, .int a3)]) hx hb dX10_may_44 hl (by decide) rfl (fun ls hl => ?_)
          refine lv_iconst (v := 0) hx hb dX10_may_46 (by decide) ?_
          refine lv_istore (lv' := [(7, .int 0), (6, .int 0), (5, .int a2), (4, .int 0), (0, .ref ob), (1, .int a1), (2, .int a2), (3, .int a3)]) hx hb dX10_may_47 hl (by decide) rfl (fun ls hl => ?_)
          refine loopX (fun n H locs ls st => ∃ (v_1454 : Int32) (v_1455 : Int32) (v_1456 : Int32) (v_1457 : Int32), (60 - v_1454.toInt).toNat = n ∧ ((0 : Int) ≤ v_1454.toInt ∧ v_1454.toInt ≤ 60) ∧ ((0 : Int) ≤ v_1455.toInt ∧ v_1455.toInt ≤ 180) ∧ ((0 : Int) ≤ v_1456.toInt ∧ v_1456.toInt ≤ 15) ∧ ((0 : Int) ≤ v_1457.toInt ∧ v_1457.toInt ≤ 65535) ∧ st = [] ∧ vPD G A H [(ce_X10 ob ob_thrown ob_world ob_images ob_hasImage ob_tape ob_taped ob_five ob_size ob_at ob_from ob_token ob_value ob_faultKind ob_faultPlace ob_fresh ob_parts ob_houses ob_houseMany ob_worthOf ob_byCall ob_over ob_bestSet ob_bestOver ob_bestWorth ob_row ob_tenDebts ob_tenMany ob_fewestBy ob_covered ob_queue ob_cameBy ob_parent ob_met ob_calls ob_callMany ob_calledOn ob_saved ob_many ob_width ob_numbers ob_moving), (ce_i9080 y ob_world fob_world), (ce_i16 y ob_worthOf f_1014), (ce_z16 y ob_byCall f_1015), (ce_i4 y ob_many fob_many), (ce_l240 y ob_numbers fob_numbers)] ∧ va_S A s.heap H locs ∧ lv_has ls 11 [(7, .int v_1454), (6, .int v_1455), (5, .int v_1456), (4, .int v_1457), (0, .ref ob), (1, .int a1), (3, .int a3)]) ?_ (n := (60 - (0 : Int32).toInt).toNat) ⟨0, 0, a2, 0, rfl, (bw (0) (60) (bkc (x := 0) (c := 0) (by decide)) (by decide)), (bw (0) (180) (bkc (x := 0) (c := 0) (by decide)) (by decide)), h_1009, (bw (0) (65535) (bkc (x := 0) (c := 0) (by decide)) (by decide)), rfl, ⟨hP, hD⟩, hS, lv_sub hl [0, 1, 2, 3, 4, 5, 7] rfl⟩
          rintro n ih_1490 H locs ls st ⟨v_1454, v_1455, v_1456, v_1457, hn_1490, bv_1454, bv_1455, bv_1456, bv_1457, rfl, ⟨hP, hD⟩, hS, hl⟩
          refine lv_iload hx hb dX10_may_49 (lv_at hl 0 rfl) ?_
          refine lv_aload_n hx hb dX10_may_51 rfl (lv_at hl 4 rfl) ?_
          refine va_get (D := G) (ci := 10) (v := .ref ob_many) (C := RX10) (T := TX10) (N := 41) hx hb hw0 inA_wsX100 hown hK.1 hP 0 rfl rfl 37 (by decide) (hw0 _ m_406) (fun _ h9 => h9) rfl dX10_may_52 ?_
          refine lv_iload_n hx hb dX10_may_55 rfl (lv_at hl 5 rfl) ?_
          refine va_iald hx hb hK.1 hP 4 1 rfl rfl (vi h_1007 (by decide)) dX10_may_56 ?_
          refine lv_topi (fun v_1491 ev_1491 => ?_)
          obtain rfl : v_1011 = v_1491 := (ev_1491.trans (ev_1011.symm)).symm
          refine lv_icmp_ge (tgt := 161) hx hb dX10_may_57 (by decide) (fun c_1492 => ?_) (fun c_1492 => ?_)
          · skip
            have nc_1492 := nb_le (60) (0) c_1492 nc_1012.1 bv_1454 (by decide)
            refine lv_iconst (v := 1) hx hb dX10_may_161 (by decide) ?_
            exact W.iret (v := 1) hx hb hr (fun t ht hW => ⟨⟨1, _, rfl, ⟨1, f_1014, f_1015, (bw (-6) (1) (bkc (x := 1) (c := 1) (by decide)) (by decide)), bf_1015, rfl, rfl⟩, by rw [ht]; exact hP, hD⟩, hS.F ht⟩) hS.2.2 dX10_may_162
          · skip
            have nc_1492 := nb_nle (59) (1) c_1492 bv_1454 nc_1012.1 (by decide)
            refine lv_aload_n hx hb dX10_may_60 rfl (lv_at hl 4 rfl) ?_
            refine va_get (D := G) (ci := 10) (v := .ref ob_numbers) (C := RX10) (T := TX10) (N := 41) hx hb hw0 inA_wsX100 hown hK.1 hP 0 rfl rfl 39 (by decide) (hw0 _ m_435) (fun _ h9 => h9) rfl dX10_may_61 ?_
            refine lv_bipush (v := 60) hx hb dX10_may_64 (by decide) ?_
            refine lv_iload_n hx hb dX10_may_66 rfl (lv_at hl 5 rfl) ?_
            refine lv_imul hx hb dX10_may_67 ?_
            refine lv_topi (fun v_1493 ev_1493 => ?_)
            have qv_1493 := ba_mul 60 (ev_1493.trans (Int32.mul_comm _ _)) h_1007 (by decide) (by decide) (by decide)
            have bv_1493 : (0 : Int) ≤ v_1493.toInt ∧ v_1493.toInt ≤ 180 := qv_1493.2
            refine lv_iload hx hb dX10_may_68 (lv_at hl 0 rfl) ?_
            refine lv_iadd hx hb dX10_may_70 ?_
            refine lv_topi (fun v_1494 ev_1494 => ?_)
            have qv_1494 := ba_add ev_1494 bv_1493 nc_1492.1 (by decide)
            have bv_1494 : (0 : Int) ≤ v_1494.toInt ∧ v_1494.toInt ≤ 239 := bq_add qv_1494 bv_1493 nc_1492.1 _ _ (by decide)
            refine va_lald hx hb hK.1 hP 5 2 rfl rfl (vi bv_1494 (by decide)) dX10_may_71 ?_
            refine lv_topl (fun v_1495 ev_1495 => ?_)
            refine lv_lstore (lv' := [(8, .long v_1495), (7, .int v_1454), (6, .int v_1455), (5, .int v_1456), (4, .int v_1457), (0, .ref ob), (1, .int a1), (3, .int a3)]) hx hb dX10_may_72 hl (by decide) rfl (fun ls hl => ?_)
            refine lv_lload hx hb dX10_may_74 (lv_at hl 0 rfl) ?_
            refine lv_lconst (v := 0) hx hb dX10_may_76 (by decide) ?_
            refine lv_aload_n hx hb dX10_may_77 rfl (lv_at hl 5 rfl) ?_
            refine va_get (D := G) (ci := 10) (v := .ref ob_world) (C := RX10) (T := TX10) (N := 41) hx hb hw0 inA_wsX100 hown hK.1 hP 0 rfl rfl 1 (by decide) (hw0 _ m_352) (fun _ h9 => h9) rfl dX10_may_78 ?_
            refine lv_iconst (v := 0) hx hb dX10_may_81 (by decide) ?_
            refine va_iald hx hb hK.1 hP 1 1 rfl rfl (vi (bkc (x := 0) (c := 0) (by decide)) (by decide)) dX10_may_82 ?_
            refine lv_topi (fun v_1496 ev_1496 => ?_)
            have bv_1496 : (0 : Int) ≤ v_1496.toInt ∧ v_1496.toInt ≤ 16 := rdk ev_1496 (p_fob_world).1.1 (by decide)
            refine lv_iconst (v := 1) hx hb dX10_may_83 (by decide) ?_
            refine lv_isub hx hb dX10_may_84 ?_
            refine lv_topi (fun v_1497 ev_1497 => ?_)
            have qv_1497 := ba_sub ev_1497 bv_1496 (bkc (x := 1) (c := 1) (by decide)) (by decide)
            have bv_1497 : (-1 : Int) ≤ v_1497.toInt ∧ v_1497.toInt ≤ 15 := bq_sub qv_1497 bv_1496 (bkc (x := 1) (c := 1) (by decide)) _ _ (by decide)
            have qv_1497 : v_1497.toInt = v_1496.toInt - (1) := qv_1497
            refine lv_i2l hx hb dX10_may_85 rfl ?_
            refine cSim (As := [.long v_1495, .long 0, .long (v_1497).toInt64]) (rest := []) ⟨hx, hb, hml, hown, hw0⟩ hA hK hP hD hS [] (sX10_in l G y _ v_1495 0 ((v_1497).toInt64) ) rfl ⟨(callB_of 3 hw0 (gA m_516) rfl rfl rfl (hw0 _ m_41) (hw0 _ m_345) cb_X10_in ⟨Nat.le_of_ble_eq_true rfl, Nat.le_of_ble_eq_true rfl⟩), (hw0 _ m_346)⟩ rfl hl.1 (Nat.le_of_ble_eq_true rfl) dX10_may_86 ⟨Nat.le_of_ble_eq_true rfl, Nat.le_of_ble_eq_true rfl⟩ (fun r_1498 w_1498 H locs hw_1498 hP hD hS => ?_)
            rcases hw_1498 with ⟨h_1499, rfl, rfl⟩ | ⟨h_1500, rfl, rfl⟩
            · skip
              have h_1501 : v_1495.toInt < (0 : Int) ∨ (v_1497.toInt : Int) < v_1495.toInt := in_n h_1499 rfl (by decide) (Int32.toInt_toInt64 _)
              obtain ⟨hP, hD⟩ : vPD G A H [(ce_X10 ob ob_thrown ob_world ob_images ob_hasImage ob_tape ob_taped ob_five ob_size ob_at ob_from ob_token ob_value ob_faultKind ob_faultPlace ob_fresh ob_parts ob_houses ob_houseMany ob_worthOf ob_byCall ob_over ob_bestSet ob_bestOver ob_bestWorth ob_row ob_tenDebts ob_tenMany ob_fewestBy ob_covered ob_queue ob_cameBy ob_parent ob_met ob_calls ob_callMany ob_calledOn ob_saved ob_many ob_width ob_numbers ob_moving), (ce_i9080 y ob_world fob_world), (ce_i16 y ob_worthOf f_1014), (ce_z16 y ob_byCall f_1015), (ce_i4 y ob_many fob_many), (ce_l240 y ob_numbers fob_numbers)] := ⟨hP, hD⟩
              refine lv_if_ne (tgt := 94) hx hb dX10_may_89 (by decide) (fun c9 => absurd (by decide) c9) (fun _ => ?_)
              refine lv_iconst (v := 0) hx hb dX10_may_92 (by decide) ?_
              exact W.iret (v := 0) hx hb hr (fun t ht hW => ⟨⟨0, _, rfl, ⟨0, f_1014, f_1015, (bw (-6) (1) (bkc (x := 0) (c := 0) (by decide)) (by decide)), bf_1015, rfl, rfl⟩, by rw [ht]; exact hP, hD⟩, hS.F ht⟩) hS.2.2 dX10_may_93
            · skip
              have h_1502 : (0 : Int) ≤ v_1495.toInt ∧ v_1495.toInt ≤ (v_1497.toInt : Int) := in_y h_1500 rfl (by decide) (Int32.toInt_toInt64 _)
              have h_1503_0 := (ltop v_1495)
              have h_1503_1 := True.intro
              have h_1503_2 := bv_1497
              have h_1503 : (0 : Int) ≤ v_1495.toInt ∧ v_1495.toInt ≤ 15 := by omega
              have h_1504 : (0 : Int) ≤ v_1497.toInt ∧ v_1497.toInt ≤ 15 := by have h9 := bv_1497; have h8 := True.intro; omega
              obtain ⟨hP, hD⟩ : vPD G A H [(ce_X10 ob ob_thrown ob_world ob_images ob_hasImage ob_tape ob_taped ob_five ob_size ob_at ob_from ob_token ob_value ob_faultKind ob_faultPlace ob_fresh ob_parts ob_houses ob_houseMany ob_worthOf ob_byCall ob_over ob_bestSet ob_bestOver ob_bestWorth ob_row ob_tenDebts ob_tenMany ob_fewestBy ob_covered ob_queue ob_cameBy ob_parent ob_met ob_calls ob_callMany ob_calledOn ob_saved ob_many ob_width ob_numbers ob_moving), (ce_i9080 y ob_world fob_world), (ce_i16 y ob_worthOf f_1014), (ce_z16 y ob_byCall f_1015), (ce_i4 y ob_many fob_many), (ce_l240 y ob_numbers fob_numbers)] := ⟨hP, hD⟩
              refine lv_if_ne (tgt := 94) hx hb dX10_may_89 (by decide) (fun _ => ?_) (fun c9 => absurd c9 (by decide))
              refine lv_lload hx hb dX10_may_94 (lv_at hl 0 rfl) ?_
              refine lv_l2i hx hb dX10_may_96 rfl ?_
              refine lv_topi (fun v_1505 ev_1505 => ?_)
              have bv_1505 : (0 : Int) ≤ v_1505.toInt ∧ v_1505.toInt ≤ 15 := ba_l2i ev_1505 h_1503 (by decide)
              refine lv_istore (lv' := [(10, .int v_1505), (8, .long v_1495), (7, .int v_1454), (6, .int v_1455), (5, .int v_1456), (4, .int v_1457), (0, .ref ob), (1, .int a1), (3, .int a3)]) hx hb dX10_may_97 hl (by decide) rfl (fun ls hl => ?_)
              refine lv_iload hx hb dX10_may_99 (lv_at hl 5 rfl) ?_
              refine lv_iload hx hb dX10_may_101 (lv_at hl 0 rfl) ?_
              refine cutW 119 (fun H locs ls st => st = [] ∧ vPD G A H [(ce_X10 ob ob_thrown ob_world ob_images ob_hasImage ob_tape ob_taped ob_five ob_size ob_at ob_from ob_token ob_value ob_faultKind ob_faultPlace ob_fresh ob_parts ob_houses ob_houseMany ob_worthOf ob_byCall ob_over ob_bestSet ob_bestOver ob_bestWorth ob_row ob_tenDebts ob_tenMany ob_fewestBy ob_covered ob_queue ob_cameBy ob_parent ob_met ob_calls ob_callMany ob_calledOn ob_saved ob_many ob_width ob_numbers ob_moving), (ce_i9080 y ob_world fob_world), (ce_i16 y ob_worthOf f_1014), (ce_z16 y ob_byCall f_1015), (ce_i4 y ob_many fob_many), (ce_l240 y ob_numbers fob_numbers)] ∧ va_S A s.heap H locs ∧ lv_has ls 11 []) ?_ (fun J_119_1514 => ?_)
              · rintro H locs ls st ⟨rfl, ⟨hP, hD⟩, hS, hl⟩
                refine lv_iconst (v := 0) hx hb dX10_may_119 (by decide) ?_
                exact W.iret (v := 0) hx hb hr (fun t ht hW => ⟨⟨0, _, rfl, ⟨0, f_1014, f_1015, (bw (-6) (1) (bkc (x := 0) (c := 0) (by decide)) (by decide)), bf_1015, rfl, rfl⟩, by rw [ht]; exact hP, hD⟩, hS.F ht⟩) hS.2.2 dX10_may_120
              · skip
                refine cSim (As := [.int v_1457, .int v_1505]) (rest := []) ⟨hx, hb, hml, hown, hw0⟩ hA hK hP hD hS [] (sX10_holds l G y _ v_1457 v_1505 ) rfl ⟨(callB_of 2 hw0 (gA m_512) rfl rfl rfl (hw0 _ m_41) (hw0 _ m_353) cb_X10_holds ⟨Nat.le_of_ble_eq_true rfl, Nat.le_of_ble_eq_true rfl⟩), (hw0 _ m_354)⟩ rfl hl.1 (Nat.le_of_ble_eq_true rfl) dX10_may_103 ⟨Nat.le_of_ble_eq_true rfl, Nat.le_of_ble_eq_true rfl⟩ (fun r_1515 w_1515 H locs hw_1515 hP hD hS => ?_)
                rcases hw_1515 with ⟨rfl, rfl⟩ | ⟨rfl, rfl⟩
                · skip
                  obtain ⟨hP, hD⟩ : vPD G A H [(ce_X10 ob ob_thrown ob_world ob_images ob_hasImage ob_tape ob_taped ob_five ob_size ob_at ob_from ob_token ob_value ob_faultKind ob_faultPlace ob_fresh ob_parts ob_houses ob_houseMany ob_worthOf ob_byCall ob_over ob_bestSet ob_bestOver ob_bestWorth ob_row ob_tenDebts ob_tenMany ob_fewestBy ob_covered ob_queue ob_cameBy ob_parent ob_met ob_calls ob_callMany ob_calledOn ob_saved ob_many ob_width ob_numbers ob_moving), (ce_i9080 y ob_world fob_world), (ce_i16 y ob_worthOf f_1014), (ce_z16 y ob_byCall f_1015), (ce_i4 y ob_many fob_many), (ce_l240 y ob_numbers fob_numbers)] := ⟨hP, hD⟩
                  refine lv_if_ne (tgt := 119) hx hb dX10_may_106 (by decide) (fun c9 => absurd (by decide) c9) (fun _ => ?_)
                  refine lv_aload_n hx hb dX10_may_109 rfl (lv_at hl 6 rfl) ?_
                  refine va_get (D := G) (ci := 10) (v := .ref ob_worthOf) (C := RX10) (T := TX10) (N := 41) hx hb hw0 inA_wsX100 hown hK.1 hP 0 rfl rfl 18 (by decide) (hw0 _ m_449) (fun _ h9 => h9) rfl dX10_may_110 ?_
                  refine lv_iload hx hb dX10_may_113 (lv_at hl 0 rfl) ?_
                  refine va_iald hx hb hK.1 hP 2 1 rfl rfl (vi bv_1505 (by decide)) dX10_may_115 ?_
                  refine lv_topi (fun v_1516 ev_1516 => ?_)
                  refine lv_if_ne (tgt := 121) hx hb dX10_may_116 (by decide) (fun c_1517 => ?_) (fun c_1517 => ?_)
                  · skip
                    have nc_1517 := nb_ne (-2147483648) (2147483647) c_1517 (btop v_1516) (k := 0) (by decide) (by decide)
                    refine lv_iload hx hb dX10_may_121 (lv_at hl 5 rfl) ?_
                    refine lv_iconst (v := 1) hx hb dX10_may_123 (by decide) ?_
                    refine lv_iload hx hb dX10_may_124 (lv_at hl 0 rfl) ?_
                    refine lv_ishl hx hb dX10_may_126 ?_
                    refine lv_topi (fun v_1518 ev_1518 => ?_)
                    have bv_1518 : (1 : Int) ≤ v_1518.toInt ∧ v_1518.toInt ≤ 32768 := ba_shl 0 15 ev_1518 bv_1505 (by decide)
                    refine lv_ior hx hb dX10_may_127 ?_
                    refine lv_topi (fun v_1519 ev_1519 => ?_)
                    have bv_1519 : (0 : Int) ≤ v_1519.toInt ∧ v_1519.toInt ≤ 65535 := ba_or 16 ev_1519 bv_1457 bv_1518 (by decide)
                    refine lv_istore (lv' := [(4, .int v_1519), (10, .int v_1505), (8, .long v_1495), (7, .int v_1454), (6, .int v_1455), (5, .int v_1456), (0, .ref ob), (1, .int a1), (3, .int a3)]) hx hb dX10_may_128 hl (by decide) rfl (fun ls hl => ?_)
                    refine lv_aload_n hx hb dX10_may_130 rfl (lv_at hl 6 rfl) ?_
                    refine lv_iload hx hb dX10_may_131 (lv_at hl 5 rfl) ?_
                    refine lv_iload hx hb dX10_may_133 (lv_at hl 4 rfl) ?_
                    refine lv_iload hx hb dX10_may_135 (lv_at hl 1 rfl) ?_
                    refine lv_iload_n hx hb dX10_may_137 rfl (lv_at hl 8 rfl) ?_
                    refine cVim (As := [.int v_1456, .int v_1455, .int v_1505, .int a3]) (rest := []) ⟨hx, hb, hml, hown, hw0⟩ hA hK hP hD hS [true, true, false, true] (sX10_seen l G y _ ob v_1456 v_1455 v_1505 a3 ob_thrown ob_world ob_images ob_hasImage ob_tape ob_taped ob_five ob_size ob_at ob_from ob_token ob_value ob_faultKind ob_faultPlace ob_fresh ob_parts ob_houses ob_houseMany ob_worthOf ob_byCall ob_over ob_bestSet ob_bestOver ob_bestWorth ob_row ob_tenDebts ob_tenMany ob_fewestBy ob_covered ob_queue ob_cameBy ob_parent ob_met ob_calls ob_callMany ob_calledOn ob_saved ob_many ob_width ob_numbers ob_moving fob_world f_1015 p_fob_world p_ob_taped p_ob_size p_ob_at p_ob_from p_ob_token p_ob_value p_ob_faultKind p_ob_houseMany bf_1015 p_ob_bestSet p_ob_bestOver p_ob_tenMany p_ob_callMany bv_1456 bv_1455 bv_1505 (bw (0) (405) h_1010 (by decide))) rfl ⟨(callB_of 4 hw0 (gA m_670) rfl rfl rfl (hw0 _ m_41) (hw0 _ m_507) cb_X10_seen ⟨Nat.le_of_ble_eq_true rfl, Nat.le_of_ble_eq_true rfl⟩), (hw0 _ m_508), (hw0 _ m_509)⟩ (ci := 10) (q := (RX10, TX10, 41)) rfl rfl rfl hl.1 (Nat.le_of_ble_eq_true rfl) dX10_may_138 ⟨Nat.le_of_ble_eq_true rfl, Nat.le_of_ble_eq_true rfl⟩ (fun r_1520 w_1520 H locs hw_1520 hP hD hS => ?_)
                    obtain ⟨v_1521, bv_1521, er_1520, rfl⟩ := hw_1520
                    subst r_1520
                    obtain ⟨hP, hD⟩ : vPD G A H [(ce_X10 ob ob_thrown ob_world ob_images ob_hasImage ob_tape ob_taped ob_five ob_size ob_at ob_from ob_token ob_value ob_faultKind ob_faultPlace ob_fresh ob_parts ob_houses ob_houseMany ob_worthOf ob_byCall ob_over ob_bestSet ob_bestOver ob_bestWorth ob_row ob_tenDebts ob_tenMany ob_fewestBy ob_covered ob_queue ob_cameBy ob_parent ob_met ob_calls ob_callMany ob_calledOn ob_saved ob_many ob_width ob_numbers ob_moving), (ce_i9080 y ob_world fob_world), (ce_i16 y ob_worthOf f_1014), (ce_z16 y ob_byCall f_1015), (ce_i4 y ob_many fob_many), (ce_l240 y ob_numbers fob_numbers)] := ⟨hP, hD⟩
                    refine lv_istore (lv' := [(6, .int v_1521), (4, .int v_1519), (10, .int v_1505), (8, .long v_1495), (7, .int v_1454), (5, .int v_1456), (0, .ref ob), (1, .int a1), (3, .int a3)]) hx hb dX10_may_141 hl (by decide) rfl (fun ls hl => ?_)
                    refine lv_iload hx hb dX10_may_143 (lv_at hl 0 rfl) ?_
                    refine lv_iconst (v := (-1)) hx hb dX10_may_145 (by decide) ?_
                    refine lv_icmp_ne (tgt := 151) hx hb dX10_may_146 (by decide) (fun c_1522 => ?_) (fun c_1522 => ?_)
                    · skip
                      have nc_1522 := nb_ne (0) (180) c_1522 bv_1521 (k := -1) (by decide) (by decide)
                      refine lv_iload hx hb dX10_may_151 (lv_at hl 2 rfl) ?_
                      refine lv_istore (lv' := [(5, .int v_1505), (6, .int v_1521), (4, .int v_1519), (10, .int v_1505), (8, .long v_1495), (7, .int v_1454), (0, .ref ob), (1, .int a1), (3, .int a3)]) hx hb dX10_may_153 hl (by decide) rfl (fun ls hl => ?_)
                      obtain ⟨v_1523, ev_1523⟩ : ∃ z : Int32, z = v_1454 + 1 := ⟨_, rfl⟩
                      have qv_1523 := ba_add ev_1523 nc_1492.1 (bkc (x := 1) (c := 1) (by decide)) (by decide)
                      have bv_1523 : (1 : Int) ≤ v_1523.toInt ∧ v_1523.toInt ≤ 60 := bq_add qv_1523 nc_1492.1 (bkc (x := 1) (c := 1) (by decide)) _ _ (by decide)
                      have qv_1523 : v_1523.toInt = v_1454.toInt + (1) := qv_1523
                      refine lv_iinc (v := v_1523) (lv' := [(7, .int v_1523), (5, .int v_1505), (6, .int v_1521), (4, .int v_1519), (10, .int v_1505), (8, .long v_1495), (0, .ref ob), (1, .int a1), (3, .int a3)]) hx hb dX10_may_155 hl (k := 5) rfl (ev_1523.symm) (by decide) rfl (fun ls hl => ?_)
                      refine lv_goto (tgt := 49) hx hb dX10_may_158 (by decide) ?_
                      exact ih_1490 _ (ml_inc (hi := 60) hn_1490 qv_1523 (by decide) ((bw (0) (60) bv_1523 (by decide))).2) _ _ _ _ ⟨v_1523, v_1521, v_1505, v_1519, rfl, (bw (0) (60) bv_1523 (by decide)), nc_1522.1, bv_1505, bv_1519, rfl, ⟨hP, hD⟩, hS, lv_sub hl [0, 2, 1, 3, 6, 7, 8] rfl⟩
                    · skip
                      have nc_1522 := nb_eq (-1) (-1) c_1522 bv_1521 (bkc (x := (-1)) (c := -1) (by decide)) (by decide)
                      refine lv_iconst (v := 0) hx hb dX10_may_149 (by decide) ?_
                      exact W.iret (v := 0) hx hb hr (fun t ht hW => ⟨⟨0, _, rfl, ⟨0, f_1014, f_1015, (bw (-6) (1) (bkc (x := 0) (c := 0) (by decide)) (by decide)), bf_1015, rfl, rfl⟩, by rw [ht]; exact hP, hD⟩, hS.F ht⟩) hS.2.2 dX10_may_150
                  · skip
                    have nc_1517 := nb_eq (0) (0) c_1517 (btop v_1516) (bkc (x := 0) (c := 0) (by decide)) (by decide)
                    exact J_119_1514 _ _ _ _ ⟨rfl, ⟨hP, hD⟩, hS, lv_sub hl [] rfl⟩
                · skip
                  obtain ⟨hP, hD⟩ : vPD G A H [(ce_X10 ob ob_thrown ob_world ob_images ob_hasImage ob_tape ob_taped ob_five ob_size ob_at ob_from ob_token ob_value ob_faultKind ob_faultPlace ob_fresh ob_parts ob_houses ob_houseMany ob_worthOf ob_byCall ob_over ob_bestSet ob_bestOver ob_bestWorth ob_row ob_tenDebts ob_tenMany ob_fewestBy ob_covered ob_queue ob_cameBy ob_parent ob_met ob_calls ob_callMany ob_calledOn ob_saved ob_many ob_width ob_numbers ob_moving), (ce_i9080 y ob_world fob_world), (ce_i16 y ob_worthOf f_1014), (ce_z16 y ob_byCall f_1015), (ce_i4 y ob_many fob_many), (ce_l240 y ob_numbers fob_numbers)] := ⟨hP, hD⟩
                  refine lv_if_ne (tgt := 119) hx hb dX10_may_106 (by decide) (fun _ => ?_) (fun c9 => absurd c9 (by decide))
                  exact J_119_1514 _ _ _ _ ⟨rfl, ⟨hP, hD⟩, hS, lv_sub hl [] rfl⟩
        · skip
          have nc_1012 := nb_eq (-1) (-1) c_1012 bv_1011 (bkc (x := (-1)) (c := -1) (by decide)) (by decide)
          refine lv_bipush (v := (-6)) hx hb dX10_may_29 (by decide) ?_
          exact W.iret (v := (-6)) hx hb hr (fun t ht hW => ⟨⟨(-6), _, rfl, ⟨(-6), fob_worthOf, fob_byCall, (bw (-6) (1) (bkc (x := (-6)) (c := -6) (by decide)) (by decide)), p_fob_byCall, rfl, rfl⟩, by rw [ht]; exact hP, hD⟩, hS.F ht⟩) hS.2.2 dX10_may_31

set_option maxHeartbeats 4000000 in
set_option maxRecDepth 100000 in
theorem sX10_covers (l : Launch) (G : va_G) (y : Nat → ClassId) (sz : Nat) (ob : Nat) (a1 : Int32) (a2 : Int32) (ob_thrown : Int32) (ob_world : Nat) (ob_images : Nat) (ob_hasImage : Nat) (ob_tape : Nat) (ob_taped : Int32) (ob_five : Nat) (ob_size : Int32) (ob_at : Int32) (ob_from : Int32) (ob_token : Int32) (ob_value : Int32) (ob_faultKind : Int32) (ob_faultPlace : Int32) (ob_fresh : Nat) (ob_parts : Nat) (ob_houses : Nat) (ob_houseMany : Int32) (ob_worthOf : Nat) (ob_byCall : Nat) (ob_over : Nat) (ob_bestSet : Int32) (ob_bestOver : Int32) (ob_bestWorth : Int32) (ob_row : Nat) (ob_tenDebts : Nat) (ob_tenMany : Int32) (ob_fewestBy : Nat) (ob_covered : Nat) (ob_queue : Nat) (ob_cameBy : Nat) (ob_parent : Nat) (ob_met : Nat) (ob_calls : Nat) (ob_callMany : Int32) (ob_calledOn : Nat) (ob_saved : Nat) (ob_many : Nat) (ob_width : Nat) (ob_numbers : Nat) (ob_moving : Nat) (fob_world : Nat → Int32) (fob_houses : Nat → Int32) (fob_tenDebts : Nat → Int32) (p_fob_world : RWw fob_world) (p_ob_taped : (0 : Int) ≤ ob_taped.toInt ∧ ob_taped.toInt ≤ 1400) (p_ob_size : (0 : Int) ≤ ob_size.toInt ∧ ob_size.toInt ≤ 1400) (p_ob_at : (0 : Int) ≤ ob_at.toInt ∧ ob_at.toInt ≤ 1400) (p_ob_from : (0 : Int) ≤ ob_from.toInt ∧ ob_from.toInt ≤ 1400) (p_ob_token : (0 : Int) ≤ ob_token.toInt ∧ ob_token.toInt ≤ 4) (p_ob_value : (0 : Int) ≤ ob_value.toInt ∧ ob_value.toInt ≤ 9999) (p_ob_faultKind : (0 : Int) ≤ ob_faultKind.toInt ∧ ob_faultKind.toInt ≤ 3) (p_fob_houses : ∀ i, (0 : Int) ≤ (fob_houses i).toInt ∧ (fob_houses i).toInt ≤ 15) (p_ob_houseMany : (0 : Int) ≤ ob_houseMany.toInt ∧ ob_houseMany.toInt ≤ 10) (p_ob_bestSet : (0 : Int) ≤ ob_bestSet.toInt ∧ ob_bestSet.toInt ≤ 1023) (p_ob_bestOver : (-1 : Int) ≤ ob_bestOver.toInt ∧ ob_bestOver.toInt ≤ 180) (p_fob_tenDebts : ∀ i, (0 : Int) ≤ (fob_tenDebts i).toInt ∧ (fob_tenDebts i).toInt ≤ 959) (p_ob_tenMany : (0 : Int) ≤ ob_tenMany.toInt ∧ ob_tenMany.toInt ≤ 10) (p_ob_callMany : (0 : Int) ≤ ob_callMany.toInt ∧ ob_callMany.toInt ≤ 16) (p_a1 : (0 : Int) ≤ a1.toInt ∧ a1.toInt ≤ 1023) : Met l yX10_covers (Cond.code yX10_covers cX10_covers 6 (some .int) :: wAll) ({ frames := 1, cells := 0, slots := 0, locals := 22 }) (va_Pc [.ref ob, .int a1, .int a2] (kp G y sz [(ce_X10 ob ob_thrown ob_world ob_images ob_hasImage ob_tape ob_taped ob_five ob_size ob_at ob_from ob_token ob_value ob_faultKind ob_faultPlace ob_fresh ob_parts ob_houses ob_houseMany ob_worthOf ob_byCall ob_over ob_bestSet ob_bestOver ob_bestWorth ob_row ob_tenDebts ob_tenMany ob_fewestBy ob_covered ob_queue ob_cameBy ob_parent ob_met ob_calls ob_callMany ob_calledOn ob_saved ob_many ob_width ob_numbers ob_moving), (ce_i9080 y ob_world fob_world), (ce_i16 y ob_houses fob_houses), (ce_i10 y ob_tenDebts fob_tenDebts)])) (va_Qi (fun (r : Int32) (w : va_W) => (∃ (v_8561 : Int32), ((0 : Int) ≤ v_8561.toInt ∧ v_8561.toInt ≤ 1023) ∧ r = v_8561 ∧ w = [(ce_X10 ob ob_thrown ob_world ob_images ob_hasImage ob_tape ob_taped ob_five ob_size ob_at ob_from ob_token ob_value ob_faultKind ob_faultPlace ob_fresh ob_parts ob_houses ob_houseMany ob_worthOf ob_byCall ob_over ob_bestSet ob_bestOver ob_bestWorth ob_row ob_tenDebts ob_tenMany ob_fewestBy ob_covered ob_queue ob_cameBy ob_parent ob_met ob_calls ob_callMany ob_calledOn ob_saved ob_many ob_width ob_numbers ob_moving), (ce_i9080 y ob_world fob_world), (ce_i16 y ob_houses fob_houses), (ce_i10 y ob_tenDebts fob_tenDebts)])) (kq G (va_A [(ce_X10 ob ob_thrown ob_world ob_images ob_hasImage ob_tape ob_taped ob_five ob_size ob_at ob_from ob_token ob_value ob_faultKind ob_faultPlace ob_fresh ob_parts ob_houses ob_houseMany ob_worthOf ob_byCall ob_over ob_bestSet ob_bestOver ob_bestWorth ob_row ob_tenDebts ob_tenMany ob_fewestBy ob_covered ob_queue ob_cameBy ob_parent ob_met ob_calls ob_callMany ob_calledOn ob_saved ob_many ob_width ob_numbers ob_moving), (ce_i9080 y ob_world fob_world), (ce_i16 y ob_houses fob_houses), (ce_i10 y ob_tenDebts fob_tenDebts)] sz)) (va_A [(ce_X10 ob ob_thrown ob_world ob_images ob_hasImage ob_tape ob_taped ob_five ob_size ob_at ob_from ob_token ob_value ob_faultKind ob_faultPlace ob_fresh ob_parts ob_houses ob_houseMany ob_worthOf ob_byCall ob_over ob_bestSet ob_bestOver ob_bestWorth ob_row ob_tenDebts ob_tenMany ob_fewestBy ob_covered ob_queue ob_cameBy ob_parent ob_met ob_calls ob_callMany ob_calledOn ob_saved ob_many ob_width ob_numbers ob_moving), (ce_i9080 y ob_world fob_world), (ce_i16 y ob_houses fob_houses), (ce_i10 y ob_tenDebts fob_tenDebts)] sz)) 0 0 (va_A [(ce_X10 ob ob_thrown ob_world ob_images ob_hasImage ob_tape ob_taped ob_five ob_size ob_at ob_from ob_token ob_value ob_faultKind ob_faultPlace ob_fresh ob_parts ob_houses ob_houseMany ob_worthOf ob_byCall ob_over ob_bestSet ob_bestOver ob_bestWorth ob_row ob_tenDebts ob_tenMany ob_fewestBy ob_covered ob_queue ob_cameBy ob_parent ob_met ob_calls ob_callMany ob_calledOn ob_saved ob_many ob_width ob_numbers ob_moving), (ce_i9080 y ob_world fob_world), (ce_i16 y ob_houses fob_houses), (ce_i10 y ob_tenDebts fob_tenDebts)] sz) := by
  refine Met.ofW (cc := cX10_covers) (maxL := 6) (ret := (some .int)) (by decide) rfl ?_
  intro p e s m args below meth c s₁ B hml hv
  obtain ⟨rfl, hsz, hP, hK, hD0⟩ := hv
  have hx := B.exec
  have hb := B.bytes
  have hr := B.returns
  have hw0 : ∀ w ∈ wAll, w.before _ s = true := fun w h => atoms_spec (ws := Cond.code yX10_covers cX10_covers 6 (some .int) :: wAll) B.pre w (List.mem_cons_of_mem _ h)
  have hown : s.vm.findClass RX10 = some m.cls := findClass_of_methodNamed B.named
  subst hsz
  have hD := hD0.self (sz := s.heap.size)
  generalize hAe : va_A [(ce_X10 ob ob_thrown ob_world ob_images ob_hasImage ob_tape ob_taped ob_five ob_size ob_at ob_from ob_token ob_value ob_faultKind ob_faultPlace ob_fresh ob_parts ob_houses ob_houseMany ob_worthOf ob_byCall ob_over ob_bestSet ob_bestOver ob_bestWorth ob_row ob_tenDebts ob_tenMany ob_fewestBy ob_covered ob_queue ob_cameBy ob_parent ob_met ob_calls ob_callMany ob_calledOn ob_saved ob_many ob_width ob_numbers ob_moving), (ce_i9080 y ob_world fob_world), (ce_i16 y ob_houses fob_houses), (ce_i10 y ob_tenDebts fob_tenDebts)] s.heap.size = A at hD ⊢
  have hA : ∀ q : Nat, s.heap.size ≤ q → A q := fun q h => by rw [← hAe]; exact Or.inr h
  have hS : va_S A s.heap s.heap [] := va_S.rf
  have hP : va_P G vwCl [(ce_X10 ob ob_thrown ob_world ob_images ob_hasImage ob_tape ob_taped ob_five ob_size ob_at ob_from ob_token ob_value ob_faultKind ob_faultPlace ob_fresh ob_parts ob_houses ob_houseMany ob_worthOf ob_byCall ob_over ob_bestSet ob_bestOver ob_bestWorth ob_row ob_tenDebts ob_tenMany ob_fewestBy ob_covered ob_queue ob_cameBy ob_parent ob_met ob_calls ob_callMany ob_calledOn ob_saved ob_many ob_width ob_numbers ob_moving), (ce_i9080 y ob_world fob_world), (ce_i16 y ob_houses fob_houses), (ce_i10 y ob_tenDebts fob_tenDebts)] s.heap := hP
  have hl := lv_entry ([.ref ob, .int a1, .int a2]) (n := 6) (Nat.le_of_ble_eq_true rfl)
  rw [lg_entry_eq]
  generalize (lg_sl ([.ref ob, .int a1, .int a2]) ++ List.replicate (6 - (lg_sl ([.ref ob, .int a1, .int a2])).length) Slot.unset).toArray = ls at hl ⊢
  have hl : lv_has ls 6 [(0, .ref ob), (1, .int a1), (2, .int a2)] := hl
  refine lv_iconst (v := 0) hx hb dX10_covers_0 (by decide) ?_
  refine lv_istore_n (lv' := [(3, .int 0), (0, .ref ob), (1, .int a1), (2, .int a2)]) hx hb dX10_covers_1 rfl hl (by decide) rfl (fun ls hl => ?_)
  refine lv_iconst (v := 0) hx hb dX10_covers_2 (by decide) ?_
  refine lv_istore (lv' := [(4, .int 0), (3, .int 0), (0, .ref ob), (1, .int a1), (2, .int a2)]) hx hb dX10_covers_3 hl (by decide) rfl (fun ls hl => ?_)
  refine loopX (fun n H locs ls st => ∃ (v_4567 : Int32) (v_4568 : Int32), (10 - v_4567.toInt).toNat = n ∧ ((0 : Int) ≤ v_4567.toInt ∧ v_4567.toInt ≤ 10) ∧ ((0 : Int) ≤ v_4568.toInt ∧ v_4568.toInt ≤ 1023) ∧ st = [] ∧ vPD G A H [(ce_X10 ob ob_thrown ob_world ob_images ob_hasImage ob_tape ob_taped ob_five ob_size ob_at ob_from ob_token ob_value ob_faultKind ob_faultPlace ob_fresh ob_parts ob_houses ob_houseMany ob_worthOf ob_byCall ob_over ob_bestSet ob_bestOver ob_bestWorth ob_row ob_tenDebts ob_tenMany ob_fewestBy ob_covered ob_queue ob_cameBy ob_parent ob_met ob_calls ob_callMany ob_calledOn ob_saved ob_many ob_width ob_numbers ob_moving), (ce_i9080 y ob_world fob_world), (ce_i16 y ob_houses fob_houses), (ce_i10 y ob_tenDebts fob_tenDebts)] ∧ va_S A s.heap H locs ∧ lv_has ls 6 [(4, .int v_4567), (3, .int v_4568), (0, .ref ob), (1, .int a1), (2, .int a2)]) ?_ (n := (10 - (0 : Int32).toInt).toNat) ⟨0, 0, rfl, (bw (0) (10) (bkc (x := 0) (c := 0) (by decide)) (by decide)), (bw (0) (1023) (bkc (x := 0) (c := 0) (by decide)) (by decide)), rfl, ⟨hP, hD⟩, hS, lv_sub hl [0, 1, 2, 3, 4] rfl⟩
  rintro n ih_4924 H locs ls st ⟨v_4567, v_4568, hn_4924, bv_4567, bv_4568, rfl, ⟨hP, hD⟩, hS, hl⟩
  refine lv_iload hx hb dX10_covers_5 (lv_at hl 0 rfl) ?_
  refine lv_aload_n hx hb dX10_covers_7 rfl (lv_at hl 2 rfl) ?_
  refine va_get (D := G) (ci := 10) (v := .int ob_tenMany) (C := RX10) (T := TX10) (N := 41) hx hb hw0 inA_wsX100 hown hK.1 hP 0 rfl rfl 26 (by decide) (hw0 _ m_408) (fun _ h9 => h9) rfl dX10_covers_8 ?_
  refine lv_icmp_ge (tgt := 92) hx hb dX10_covers_11 (by decide) (fun c_4925 => ?_) (fun c_4925 => ?_)
  · skip
    have nc_4925 := nb_le (10) (0) c_4925 p_ob_tenMany bv_4567 (by decide)
    refine lv_iload_n hx hb dX10_covers_92 rfl (lv_at hl 1 rfl) ?_
    exact W.iret (v := v_4568) hx hb hr (fun t ht hW => ⟨⟨v_4568, _, rfl, ⟨v_4568, bv_4568, rfl, rfl⟩, by rw [ht]; exact hP, hD⟩, hS.F ht⟩) hS.2.2 dX10_covers_93
  · skip
    have nc_4925 := nb_nle (9) (1) c_4925 bv_4567 p_ob_tenMany (by decide)
    refine lv_iconst (v := 0) hx hb dX10_covers_14 (by decide) ?_
    refine lv_istore (lv' := [(5, .int 0), (4, .int v_4567), (3, .int v_4568), (0, .ref ob), (1, .int a1), (2, .int a2)]) hx hb dX10_covers_15 hl (by decide) rfl (fun ls hl => ?_)
    refine loopX (fun n H locs ls st => ∃ (v_5223 : Int32) (v_5224 : Int32), (10 - v_5223.toInt).toNat = n ∧ ((0 : Int) ≤ v_5223.toInt ∧ v_5223.toInt ≤ 10) ∧ ((0 : Int) ≤ v_5224.toInt ∧ v_5224.toInt ≤ 1023) ∧ st = [] ∧ vPD G A H [(ce_X10 ob ob_thrown ob_world ob_images ob_hasImage ob_tape ob_taped ob_five ob_size ob_at ob_from ob_token ob_value ob_faultKind ob_faultPlace ob_fresh ob_parts ob_houses ob_houseMany ob_worthOf ob_byCall ob_over ob_bestSet ob_bestOver ob_bestWorth ob_row ob_tenDebts ob_tenMany ob_fewestBy ob_covered ob_queue ob_cameBy ob_parent ob_met ob_calls ob_callMany ob_calledOn ob_saved ob_many ob_width ob_numbers ob_moving), (ce_i9080 y ob_world fob_world), (ce_i16 y ob_houses fob_houses), (ce_i10 y ob_tenDebts fob_tenDebts)] ∧ va_S A s.heap H locs ∧ lv_has ls 6 [(5, .int v_5223), (4, .int v_4567), (3, .int v_5224), (0, .ref ob), (1, .int a1), (2, .int a2)]) ?_ (n := (10 - (0 : Int32).toInt).toNat) ⟨0, v_4568, rfl, (bw (0) (10) (bkc (x := 0) (c := 0) (by decide)) (by decide)), bv_4568, rfl, ⟨hP, hD⟩, hS, lv_sub hl [0, 1, 2, 3, 4, 5] rfl⟩
    rintro n ih_5252 H locs ls st ⟨v_5223, v_5224, hn_5252, bv_5223, bv_5224, rfl, ⟨hP, hD⟩, hS, hl⟩
    refine lv_iload hx hb dX10_covers_17 (lv_at hl 0 rfl) ?_
    refine lv_aload_n hx hb dX10_covers_19 rfl (lv_at hl 3 rfl) ?_
    refine va_get (D := G) (ci := 10) (v := .int ob_houseMany) (C := RX10) (T := TX10) (N := 41) hx hb hw0 inA_wsX100 hown hK.1 hP 0 rfl rfl 17 (by decide) (hw0 _ m_409) (fun _ h9 => h9) rfl dX10_covers_20 ?_
    refine lv_icmp_ge (tgt := 86) hx hb dX10_covers_23 (by decide) (fun c_5253 => ?_) (fun c_5253 => ?_)
    · skip
      have nc_5253 := nb_le (10) (0) c_5253 p_ob_houseMany bv_5223 (by decide)
      obtain ⟨v_5254, ev_5254⟩ : ∃ z : Int32, z = v_4567 + 1 := ⟨_, rfl⟩
      have qv_5254 := ba_add ev_5254 nc_4925.1 (bkc (x := 1) (c := 1) (by decide)) (by decide)
      have bv_5254 : (1 : Int) ≤ v_5254.toInt ∧ v_5254.toInt ≤ 10 := bq_add qv_5254 nc_4925.1 (bkc (x := 1) (c := 1) (by decide)) _ _ (by decide)
      have qv_5254 : v_5254.toInt = v_4567.toInt + (1) := qv_5254
      refine lv_iinc (v := v_5254) (lv' := [(4, .int v_5254), (5, .int v_5223), (3, .int v_5224), (0, .ref ob), (1, .int a1), (2, .int a2)]) hx hb dX10_covers_86 hl (k := 1) rfl (ev_5254.symm) (by decide) rfl (fun ls hl => ?_)
      refine lv_goto (tgt := 5) hx hb dX10_covers_89 (by decide) ?_
      exact ih_4924 _ (ml_inc (hi := 10) hn_4924 qv_5254 (by decide) ((bw (0) (10) bv_5254 (by decide))).2) _ _ _ _ ⟨v_5254, v_5224, rfl, (bw (0) (10) bv_5254 (by decide)), bv_5224, rfl, ⟨hP, hD⟩, hS, lv_sub hl [0, 2, 3, 4, 5] rfl⟩
    · skip
      have nc_5253 := nb_nle (9) (1) c_5253 bv_5223 p_ob_houseMany (by decide)
      refine lv_iload_n hx hb dX10_covers_26 rfl (lv_at hl 4 rfl) ?_
      refine lv_iload hx hb dX10_covers_27 (lv_at hl 0 rfl) ?_
      refine cutW 80 (fun H locs ls st => ∃ (v_5267 : Int32), ((0 : Int) ≤ v_5267.toInt ∧ v_5267.toInt ≤ 1023) ∧ st = [] ∧ vPD G A H [(ce_X10 ob ob_thrown ob_world ob_images ob_hasImage ob_tape ob_taped ob_five ob_size ob_at ob_from ob_token ob_value ob_faultKind ob_faultPlace ob_fresh ob_parts ob_houses ob_houseMany ob_worthOf ob_byCall ob_over ob_bestSet ob_bestOver ob_bestWorth ob_row ob_tenDebts ob_tenMany ob_fewestBy ob_covered ob_queue ob_cameBy ob_parent ob_met ob_calls ob_callMany ob_calledOn ob_saved ob_many ob_width ob_numbers ob_moving), (ce_i9080 y ob_world fob_world), (ce_i16 y ob_houses fob_houses), (ce_i10 y ob_tenDebts fob_tenDebts)] ∧ va_S A s.heap H locs ∧ lv_has ls 6 [(5, .int v_5223), (4, .int v_4567), (3, .int v_5267), (0, .ref ob), (1, .int a1), (2, .int a2)]) ?_ (fun J_80_5267 => ?_)
      · rintro H locs ls st ⟨v_5267, bv_5267, rfl, ⟨hP, hD⟩, hS, hl⟩
        obtain ⟨v_5268, ev_5268⟩ : ∃ z : Int32, z = v_5223 + 1 := ⟨_, rfl⟩
        have qv_5268 := ba_add ev_5268 nc_5253.1 (bkc (x := 1) (c := 1) (by decide)) (by decide)
        have bv_5268 : (1 : Int) ≤ v_5268.toInt ∧ v_5268.toInt ≤ 10 := bq_add qv_5268 nc_5253.1 (bkc (x := 1) (c := 1) (by decide)) _ _ (by decide)
        have qv_5268 : v_5268.toInt = v_5223.toInt + (1) := qv_5268
        refine lv_iinc (v := v_5268) (lv' := [(5, .int v_5268), (4, .int v_4567), (3, .int v_5267), (0, .ref ob), (1, .int a1), (2, .int a2)]) hx hb dX10_covers_80 hl (k := 0) rfl (ev_5268.symm) (by decide) rfl (fun ls hl => ?_)
        refine lv_goto (tgt := 17) hx hb dX10_covers_83 (by decide) ?_
        exact ih_5252 _ (ml_inc (hi := 10) hn_5252 qv_5268 (by decide) ((bw (0) (10) bv_5268 (by decide))).2) _ _ _ _ ⟨v_5268, v_5267, rfl, (bw (0) (10) bv_5268 (by decide)), bv_5267, rfl, ⟨hP, hD⟩, hS, lv_sub hl [0, 1, 2, 3, 4, 5] rfl⟩
      · skip
        refine cSim (As := [.int a1, .int v_5223]) (rest := []) ⟨hx, hb, hml, hown, hw0⟩ hA hK hP hD hS [] (sX10_holds l G y _ a1 v_5223 ) rfl ⟨(callB_of 2 hw0 (gA m_512) rfl rfl rfl (hw0 _ m_41) (hw0 _ m_353) cb_X10_holds ⟨Nat.le_of_ble_eq_true rfl, Nat.le_of_ble_eq_true rfl⟩), (hw0 _ m_354)⟩ rfl hl.1 (Nat.le_of_ble_eq_true rfl) dX10_covers_29 ⟨Nat.le_of_ble_eq_true rfl, Nat.le_of_ble_eq_true rfl⟩ (fun r_5269 w_5269 H locs hw_5269 hP hD hS => ?_)
        rcases hw_5269 with ⟨rfl, rfl⟩ | ⟨rfl, rfl⟩
        · skip
          obtain ⟨hP, hD⟩ : vPD G A H [(ce_X10 ob ob_thrown ob_world ob_images ob_hasImage ob_tape ob_taped ob_five ob_size ob_at ob_from ob_token ob_value ob_faultKind ob_faultPlace ob_fresh ob_parts ob_houses ob_houseMany ob_worthOf ob_byCall ob_over ob_bestSet ob_bestOver ob_bestWorth ob_row ob_tenDebts ob_tenMany ob_fewestBy ob_covered ob_queue ob_cameBy ob_parent ob_met ob_calls ob_callMany ob_calledOn ob_saved ob_many ob_width ob_numbers ob_moving), (ce_i9080 y ob_world fob_world), (ce_i16 y ob_houses fob_houses), (ce_i10 y ob_tenDebts fob_tenDebts)] := ⟨hP, hD⟩
          refine lv_if_eq (tgt := 80) hx hb dX10_covers_32 (by decide) (fun _ => ?_) (fun c9 => absurd (by decide) c9)
          exact J_80_5267 _ _ _ _ ⟨v_5224, bv_5224, rfl, ⟨hP, hD⟩, hS, lv_sub hl [0, 1, 2, 3, 4, 5] rfl⟩
        · skip
          obtain ⟨hP, hD⟩ : vPD G A H [(ce_X10 ob ob_thrown ob_world ob_images ob_hasImage ob_tape ob_taped ob_five ob_size ob_at ob_from ob_token ob_value ob_faultKind ob_faultPlace ob_fresh ob_parts ob_houses ob_houseMany ob_worthOf ob_byCall ob_over ob_bestSet ob_bestOver ob_bestWorth ob_row ob_tenDebts ob_tenMany ob_fewestBy ob_covered ob_queue ob_cameBy ob_parent ob_met ob_calls ob_callMany ob_calledOn ob_saved ob_many ob_width ob_numbers ob_moving), (ce_i9080 y ob_world fob_world), (ce_i16 y ob_houses fob_houses), (ce_i10 y ob_tenDebts fob_tenDebts)] := ⟨hP, hD⟩
          refine lv_if_eq (tgt := 80) hx hb dX10_covers_32 (by decide) (fun c9 => absurd c9 (by decide)) (fun _ => ?_)
          refine lv_aload_n hx hb dX10_covers_35 rfl (lv_at hl 3 rfl) ?_
          refine va_get (D := G) (ci := 10) (v := .ref ob_houses) (C := RX10) (T := TX10) (N := 41) hx hb hw0 inA_wsX100 hown hK.1 hP 0 rfl rfl 16 (by decide) (hw0 _ m_410) (fun _ h9 => h9) rfl dX10_covers_36 ?_
          refine lv_iload hx hb dX10_covers_39 (lv_at hl 0 rfl) ?_
          refine va_iald hx hb hK.1 hP 2 1 rfl rfl (vi nc_5253.1 (by decide)) dX10_covers_41 ?_
          refine lv_topi (fun v_5270 ev_5270 => ?_)
          have bv_5270 : (0 : Int) ≤ v_5270.toInt ∧ v_5270.toInt ≤ 15 := rd_b ev_5270 p_fob_houses
          refine lv_aload_n hx hb dX10_covers_42 rfl (lv_at hl 3 rfl) ?_
          refine lv_aload_n hx hb dX10_covers_43 rfl (lv_at hl 3 rfl) ?_
          refine va_get (D := G) (ci := 10) (v := .ref ob_tenDebts) (C := RX10) (T := TX10) (N := 41) hx hb hw0 inA_wsX100 hown hK.1 hP 0 rfl rfl 25 (by decide) (hw0 _ m_411) (fun _ h9 => h9) rfl dX10_covers_44 ?_
          refine lv_iload hx hb dX10_covers_47 (lv_at hl 1 rfl) ?_
          refine va_iald hx hb hK.1 hP 3 1 rfl rfl (vi nc_4925.1 (by decide)) dX10_covers_49 ?_
          refine lv_topi (fun v_5271 ev_5271 => ?_)
          have bv_5271 : (0 : Int) ≤ v_5271.toInt ∧ v_5271.toInt ≤ 959 := rd_b ev_5271 p_fob_tenDebts
          refine lv_iconst (v := 1) hx hb dX10_covers_50 (by decide) ?_
          refine cVim (As := [.int v_5271, .int 1]) (rest := [.int v_5270]) ⟨hx, hb, hml, hown, hw0⟩ hA hK hP hD hS [true, true] (sofDebt1 l G y _ ob v_5271 ob_thrown ob_world ob_images ob_hasImage ob_tape ob_taped ob_five ob_size ob_at ob_from ob_token ob_value ob_faultKind ob_faultPlace ob_fresh ob_parts ob_houses ob_houseMany ob_worthOf ob_byCall ob_over ob_bestSet ob_bestOver ob_bestWorth ob_row ob_tenDebts ob_tenMany ob_fewestBy ob_covered ob_queue ob_cameBy ob_parent ob_met ob_calls ob_callMany ob_calledOn ob_saved ob_many ob_width ob_numbers ob_moving fob_world p_fob_world p_ob_taped p_ob_size p_ob_at p_ob_from p_ob_token p_ob_value p_ob_faultKind (bw (0) (10) nc_5253.2.1 (by decide)) p_ob_bestSet p_ob_bestOver (bw (0) (10) nc_4925.2.1 (by decide)) p_ob_callMany bv_5271) rfl ⟨(callB_of 2 hw0 (gA m_576) rfl rfl rfl (hw0 _ m_41) (hw0 _ m_402) cb_X10_ofDebt ⟨Nat.le_of_ble_eq_true rfl, Nat.le_of_ble_eq_true rfl⟩), (hw0 _ m_403), (hw0 _ m_404)⟩ (ci := 10) (q := (RX10, TX10, 41)) rfl rfl rfl hl.1 (Nat.le_of_ble_eq_true rfl) dX10_covers_51 ⟨Nat.le_of_ble_eq_true rfl, Nat.le_of_ble_eq_true rfl⟩ (fun r_5272 w_5272 H locs hw_5272 hP hD hS => ?_)
          obtain ⟨v_5273, bv_5273, er_5272, rfl⟩ := hw_5272
          subst r_5272
          obtain ⟨hP, hD⟩ : vPD G A H [(ce_X10 ob ob_thrown ob_world ob_images ob_hasImage ob_tape ob_taped ob_five ob_size ob_at ob_from ob_token ob_value ob_faultKind ob_faultPlace ob_fresh ob_parts ob_houses ob_houseMany ob_worthOf ob_byCall ob_over ob_bestSet ob_bestOver ob_bestWorth ob_row ob_tenDebts ob_tenMany ob_fewestBy ob_covered ob_queue ob_cameBy ob_parent ob_met ob_calls ob_callMany ob_calledOn ob_saved ob_many ob_width ob_numbers ob_moving), (ce_i9080 y ob_world fob_world), (ce_i16 y ob_houses fob_houses), (ce_i10 y ob_tenDebts fob_tenDebts)] := ⟨hP, hD⟩
          refine lv_icmp_ne (tgt := 80) hx hb dX10_covers_54 (by decide) (fun c_5274 => ?_) (fun c_5274 => ?_)
          · skip
            exact J_80_5267 _ _ _ _ ⟨v_5224, bv_5224, rfl, ⟨hP, hD⟩, hS, lv_sub hl [0, 1, 2, 3, 4, 5] rfl⟩
          · skip
            have nc_5274 := nb_eq (0) (15) c_5274 bv_5270 bv_5273 (by decide)
            refine lv_aload_n hx hb dX10_covers_57 rfl (lv_at hl 3 rfl) ?_
            refine lv_aload_n hx hb dX10_covers_58 rfl (lv_at hl 3 rfl) ?_
            refine va_get (D := G) (ci := 10) (v := .ref ob_tenDebts) (C := RX10) (T := TX10) (N := 41) hx hb hw0 inA_wsX100 hown hK.1 hP 0 rfl rfl 25 (by decide) (hw0 _ m_411) (fun _ h9 => h9) rfl dX10_covers_59 ?_
            refine lv_iload hx hb dX10_covers_62 (lv_at hl 1 rfl) ?_
            refine va_iald hx hb hK.1 hP 3 1 rfl rfl (vi nc_4925.1 (by decide)) dX10_covers_64 ?_
            refine lv_topi (fun v_5275 ev_5275 => ?_)
            obtain rfl : v_5271 = v_5275 := (ev_5275.trans (ev_5271.symm)).symm
            refine lv_iconst (v := 3) hx hb dX10_covers_65 (by decide) ?_
            refine cVim (As := [.int v_5271, .int 3]) (rest := []) ⟨hx, hb, hml, hown, hw0⟩ hA hK hP hD hS [true, true] (sofDebt3 l G y _ ob v_5271 ob_thrown ob_world ob_images ob_hasImage ob_tape ob_taped ob_five ob_size ob_at ob_from ob_token ob_value ob_faultKind ob_faultPlace ob_fresh ob_parts ob_houses ob_houseMany ob_worthOf ob_byCall ob_over ob_bestSet ob_bestOver ob_bestWorth ob_row ob_tenDebts ob_tenMany ob_fewestBy ob_covered ob_queue ob_cameBy ob_parent ob_met ob_calls ob_callMany ob_calledOn ob_saved ob_many ob_width ob_numbers ob_moving fob_world p_fob_world p_ob_taped p_ob_size p_ob_at p_ob_from p_ob_token p_ob_value p_ob_faultKind (bw (0) (10) nc_5253.2.1 (by decide)) p_ob_bestSet p_ob_bestOver (bw (0) (10) nc_4925.2.1 (by decide)) p_ob_callMany bv_5271) rfl ⟨(callB_of 2 hw0 (gA m_576) rfl rfl rfl (hw0 _ m_41) (hw0 _ m_402) cb_X10_ofDebt ⟨Nat.le_of_ble_eq_true rfl, Nat.le_of_ble_eq_true rfl⟩), (hw0 _ m_403), (hw0 _ m_404)⟩ (ci := 10) (q := (RX10, TX10, 41)) rfl rfl rfl hl.1 (Nat.le_of_ble_eq_true rfl) dX10_covers_66 ⟨Nat.le_of_ble_eq_true rfl, Nat.le_of_ble_eq_true rfl⟩ (fun r_5276 w_5276 H locs hw_5276 hP hD hS => ?_)
            obtain ⟨v_5277, er_5276, rfl⟩ := hw_5276
            subst r_5276
            obtain ⟨hP, hD⟩ : vPD G A H [(ce_X10 ob ob_thrown ob_world ob_images ob_hasImage ob_tape ob_taped ob_five ob_size ob_at ob_from ob_token ob_value ob_faultKind ob_faultPlace ob_fresh ob_parts ob_houses ob_houseMany ob_worthOf ob_byCall ob_over ob_bestSet ob_bestOver ob_bestWorth ob_row ob_tenDebts ob_tenMany ob_fewestBy ob_covered ob_queue ob_cameBy ob_parent ob_met ob_calls ob_callMany ob_calledOn ob_saved ob_many ob_width ob_numbers ob_moving), (ce_i9080 y ob_world fob_world), (ce_i16 y ob_houses fob_houses), (ce_i10 y ob_tenDebts fob_tenDebts)] := ⟨hP, hD⟩
            refine lv_iload_n hx hb dX10_covers_69 rfl (lv_at hl 5 rfl) ?_
            refine lv_icmp_lt (tgt := 80) hx hb dX10_covers_70 (by decide) (fun c_5278 => ?_) (fun c_5278 => ?_)
            · skip
              have nc_5278 := nb_lt (2147483646) (-2147483647) c_5278 (btop v_5277) (btop a2) (by decide)
              exact J_80_5267 _ _ _ _ ⟨v_5224, bv_5224, rfl, ⟨hP, hD⟩, hS, lv_sub hl [0, 1, 2, 3, 4, 5] rfl⟩
            · skip
              have nc_5278 := nb_nlt (2147483647) (-2147483648) c_5278 (btop a2) (btop v_5277) (by decide)
              refine lv_iload_n hx hb dX10_covers_73 rfl (lv_at hl 2 rfl) ?_
              refine lv_iconst (v := 1) hx hb dX10_covers_74 (by decide) ?_
              refine lv_iload hx hb dX10_covers_75 (lv_at hl 1 rfl) ?_
              refine lv_ishl hx hb dX10_covers_77 ?_
              refine lv_topi (fun v_5279 ev_5279 => ?_)
              have bv_5279 : (1 : Int) ≤ v_5279.toInt ∧ v_5279.toInt ≤ 512 := ba_shl 0 9 ev_5279 nc_4925.1 (by decide)
              refine lv_ior hx hb dX10_covers_78 ?_
              refine lv_topi (fun v_5280 ev_5280 => ?_)
              have bv_5280 : (0 : Int) ≤ v_5280.toInt ∧ v_5280.toInt ≤ 1023 := ba_or 10 ev_5280 bv_5224 bv_5279 (by decide)
              refine lv_istore_n (lv' := [(3, .int v_5280), (5, .int v_5223), (4, .int v_4567), (0, .ref ob), (1, .int a1), (2, .int a2)]) hx hb dX10_covers_79 rfl hl (by decide) rfl (fun ls hl => ?_)
              exact J_80_5267 _ _ _ _ ⟨v_5280, bv_5280, rfl, ⟨hP, hD⟩, hS, lv_sub hl [1, 2, 0, 3, 4, 5] rfl⟩
