set_option maxHeartbeats 4000000 in
set_option maxRecDepth 100000 in
theorem fpasteM00 (l : Launch) (G : va_G) (y : Nat → ClassId) (sz : Nat) (ob : Nat) (a2 : Int32) (a4 : Int32) (a5 : Int32) (ob_thrown : Int32) (ob_world : Nat) (ob_images : Nat) (ob_hasImage : Nat) (ob_tape : Nat) (ob_taped : Int32) (ob_five : Nat) (ob_size : Int32) (ob_at : Int32) (ob_from : Int32) (ob_token : Int32) (ob_value : Int32) (ob_faultKind : Int32) (ob_faultPlace : Int32) (ob_fresh : Nat) (ob_parts : Nat) (ob_houses : Nat) (ob_houseMany : Int32) (ob_worthOf : Nat) (ob_byCall : Nat) (ob_over : Nat) (ob_bestSet : Int32) (ob_bestOver : Int32) (ob_bestWorth : Int32) (ob_row : Nat) (ob_tenDebts : Nat) (ob_tenMany : Int32) (ob_fewestBy : Nat) (ob_covered : Nat) (ob_queue : Nat) (ob_cameBy : Nat) (ob_parent : Nat) (ob_met : Nat) (ob_calls : Nat) (ob_callMany : Int32) (ob_calledOn : Nat) (ob_saved : Nat) (ob_many : Nat) (ob_width : Nat) (ob_numbers : Nat) (ob_moving : Nat) (fob_many : Nat → Int32) (fob_width : Nat → Int32) (fob_numbers : Nat → Int64) (fob_moving : Nat → Int64) (p_ob_taped : (0 : Int) ≤ ob_taped.toInt ∧ ob_taped.toInt ≤ 1400) (p_ob_size : (0 : Int) ≤ ob_size.toInt ∧ ob_size.toInt ≤ 1400) (p_ob_at : (0 : Int) ≤ ob_at.toInt ∧ ob_at.toInt ≤ 1400) (p_ob_from : (0 : Int) ≤ ob_from.toInt ∧ ob_from.toInt ≤ 1400) (p_ob_token : (0 : Int) ≤ ob_token.toInt ∧ ob_token.toInt ≤ 4) (p_ob_value : (0 : Int) ≤ ob_value.toInt ∧ ob_value.toInt ≤ 9999) (p_ob_faultKind : (0 : Int) ≤ ob_faultKind.toInt ∧ ob_faultKind.toInt ≤ 3) (p_ob_houseMany : (0 : Int) ≤ ob_houseMany.toInt ∧ ob_houseMany.toInt ≤ 10) (p_ob_bestSet : (0 : Int) ≤ ob_bestSet.toInt ∧ ob_bestSet.toInt ≤ 1023) (p_ob_bestOver : (-1 : Int) ≤ ob_bestOver.toInt ∧ ob_bestOver.toInt ≤ 180) (p_ob_tenMany : (0 : Int) ≤ ob_tenMany.toInt ∧ ob_tenMany.toInt ≤ 10) (p_ob_callMany : (0 : Int) ≤ ob_callMany.toInt ∧ ob_callMany.toInt ≤ 16) (p_fob_many : ∀ i, (-1 : Int) ≤ (fob_many i).toInt ∧ (fob_many i).toInt ≤ 60) (p_fob_width : ∀ i, (0 : Int) ≤ (fob_width i).toInt ∧ (fob_width i).toInt ≤ 3) : Met l yX10_paste (Cond.code yX10_paste cX10_paste 7 (some .int) :: wAll) ({ frames := 2, cells := 0, slots := 0, locals := 45 }) (va_Pc [.ref ob, .int 0, .int a2, .int 0, .int a4, .int a5] (kp G y sz [(ce_X10 ob ob_thrown ob_world ob_images ob_hasImage ob_tape ob_taped ob_five ob_size ob_at ob_from ob_token ob_value ob_faultKind ob_faultPlace ob_fresh ob_parts ob_houses ob_houseMany ob_worthOf ob_byCall ob_over ob_bestSet ob_bestOver ob_bestWorth ob_row ob_tenDebts ob_tenMany ob_fewestBy ob_covered ob_queue ob_cameBy ob_parent ob_met ob_calls ob_callMany ob_calledOn ob_saved ob_many ob_width ob_numbers ob_moving), (ce_i4 y ob_many fob_many), (ce_i4 y ob_width fob_width), (ce_l240 y ob_numbers fob_numbers), (ce_l60 y ob_moving fob_moving)])) (va_Qi (fun (r : Int32) (w : va_W) => (((fob_many 0).toInt = -1 ∨ (fob_many 0).toInt = -1) ∧ r = (-6) ∧ w = [(ce_X10 ob ob_thrown ob_world ob_images ob_hasImage ob_tape ob_taped ob_five ob_size ob_at ob_from ob_token ob_value ob_faultKind ob_faultPlace ob_fresh ob_parts ob_houses ob_houseMany ob_worthOf ob_byCall ob_over ob_bestSet ob_bestOver ob_bestWorth ob_row ob_tenDebts ob_tenMany ob_fewestBy ob_covered ob_queue ob_cameBy ob_parent ob_met ob_calls ob_callMany ob_calledOn ob_saved ob_many ob_width ob_numbers ob_moving), (ce_i4 y ob_many fob_many), (ce_i4 y ob_width fob_width), (ce_l240 y ob_numbers fob_numbers), (ce_l60 y ob_moving fob_moving)]) ∨ ((¬ (fob_many 0).toInt = -1 ∧ ¬ (fob_many 0).toInt = -1 ∧ (fob_width 0).toInt = (fob_width 0).toInt ∧ ¬ (0 ≤ a2.toInt ∧ 0 ≤ a4.toInt ∧ 0 ≤ a5.toInt ∧ a2.toInt + a5.toInt ≤ (fob_many 0).toInt ∧ a4.toInt + a5.toInt ≤ (fob_many 0).toInt)) ∧ r = (-7) ∧ w = [(ce_X10 ob ob_thrown ob_world ob_images ob_hasImage ob_tape ob_taped ob_five ob_size ob_at ob_from ob_token ob_value ob_faultKind ob_faultPlace ob_fresh ob_parts ob_houses ob_houseMany ob_worthOf ob_byCall ob_over ob_bestSet ob_bestOver ob_bestWorth ob_row ob_tenDebts ob_tenMany ob_fewestBy ob_covered ob_queue ob_cameBy ob_parent ob_met ob_calls ob_callMany ob_calledOn ob_saved ob_many ob_width ob_numbers ob_moving), (ce_i4 y ob_many fob_many), (ce_i4 y ob_width fob_width), (ce_l240 y ob_numbers fob_numbers), (ce_l60 y ob_moving fob_moving)]) ∨ (∃ (f_547 : Nat → Int64) (f_548 : Nat → Int64), ((0 : Int) ≤ a2.toInt ∧ a2.toInt ≤ 60) ∧ ((0 : Int) ≤ a4.toInt ∧ a4.toInt ≤ 60) ∧ ((0 : Int) ≤ a5.toInt ∧ a5.toInt ≤ 60) ∧ (¬ (fob_many 0).toInt = -1 ∧ ¬ (fob_many 0).toInt = -1 ∧ (fob_width 0).toInt = (fob_width 0).toInt ∧ 0 ≤ a2.toInt ∧ 0 ≤ a4.toInt ∧ 0 ≤ a5.toInt ∧ a2.toInt + a5.toInt ≤ (fob_many 0).toInt ∧ a4.toInt + a5.toInt ≤ (fob_many 0).toInt) ∧ r = 0 ∧ w = [(ce_X10 ob ob_thrown ob_world ob_images ob_hasImage ob_tape ob_taped ob_five ob_size ob_at ob_from ob_token ob_value ob_faultKind ob_faultPlace ob_fresh ob_parts ob_houses ob_houseMany ob_worthOf ob_byCall ob_over ob_bestSet ob_bestOver ob_bestWorth ob_row ob_tenDebts ob_tenMany ob_fewestBy ob_covered ob_queue ob_cameBy ob_parent ob_met ob_calls ob_callMany ob_calledOn ob_saved ob_many ob_width ob_numbers ob_moving), (ce_i4 y ob_many fob_many), (ce_i4 y ob_width fob_width), (ce_l240 y ob_numbers f_547), (ce_l60 y ob_moving f_548)])) (kq G (va_A [(ce_X10 ob ob_thrown ob_world ob_images ob_hasImage ob_tape ob_taped ob_five ob_size ob_at ob_from ob_token ob_value ob_faultKind ob_faultPlace ob_fresh ob_parts ob_houses ob_houseMany ob_worthOf ob_byCall ob_over ob_bestSet ob_bestOver ob_bestWorth ob_row ob_tenDebts ob_tenMany ob_fewestBy ob_covered ob_queue ob_cameBy ob_parent ob_met ob_calls ob_callMany ob_calledOn ob_saved ob_many ob_width ob_numbers ob_moving), (ce_i4 y ob_many fob_many), (ce_i4 y ob_width fob_width), (ce_l240 y ob_numbers fob_numbers), (ce_l60 y ob_moving fob_moving)] sz)) (va_A [(ce_X10 ob ob_thrown ob_world ob_images ob_hasImage ob_tape ob_taped ob_five ob_size ob_at ob_from ob_token ob_value ob_faultKind ob_faultPlace ob_fresh ob_parts ob_houses ob_houseMany ob_worthOf ob_byCall ob_over ob_bestSet ob_bestOver ob_bestWorth ob_row ob_tenDebts ob_tenMany ob_fewestBy ob_covered ob_queue ob_cameBy ob_parent ob_met ob_calls ob_callMany ob_calledOn ob_saved ob_many ob_width ob_numbers ob_moving), (ce_i4 y ob_many fob_many), (ce_i4 y ob_width fob_width), (ce_l240 y ob_numbers fob_numbers), (ce_l60 y ob_moving fob_moving)] sz)) 0 0 (va_A [(ce_X10 ob ob_thrown ob_world ob_images ob_hasImage ob_tape ob_taped ob_five ob_size ob_at ob_from ob_token ob_value ob_faultKind ob_faultPlace ob_fresh ob_parts ob_houses ob_houseMany ob_worthOf ob_byCall ob_over ob_bestSet ob_bestOver ob_bestWorth ob_row ob_tenDebts ob_tenMany ob_fewestBy ob_covered ob_queue ob_cameBy ob_parent ob_met ob_calls ob_callMany ob_calledOn ob_saved ob_many ob_width ob_numbers ob_moving), (ce_i4 y ob_many fob_many), (ce_i4 y ob_width fob_width), (ce_l240 y ob_numbers fob_numbers), (ce_l60 y ob_moving fob_moving)] sz) := by
  refine Met.ofW (cc := cX10_paste) (maxL := 7) (ret := (some .int)) (by decide) rfl ?_
  intro p e s m args below meth c s₁ B hml hv
  obtain ⟨rfl, hsz, hP, hK, hD0⟩ := hv
  have hx := B.exec
  have hb := B.bytes
  have hr := B.returns
  have hw0 : ∀ w ∈ wAll, w.before _ s = true := fun w h => atoms_spec (ws := Cond.code yX10_paste cX10_paste 7 (some .int) :: wAll) B.pre w (List.mem_cons_of_mem _ h)
  have hown : s.vm.findClass RX10 = some m.cls := findClass_of_methodNamed B.named
  subst hsz
  have hD := hD0.self (sz := s.heap.size)
  generalize hAe : va_A [(ce_X10 ob ob_thrown ob_world ob_images ob_hasImage ob_tape ob_taped ob_five ob_size ob_at ob_from ob_token ob_value ob_faultKind ob_faultPlace ob_fresh ob_parts ob_houses ob_houseMany ob_worthOf ob_byCall ob_over ob_bestSet ob_bestOver ob_bestWorth ob_row ob_tenDebts ob_tenMany ob_fewestBy ob_covered ob_queue ob_cameBy ob_parent ob_met ob_calls ob_callMany ob_calledOn ob_saved ob_many ob_width ob_numbers ob_moving), (ce_i4 y ob_many fob_many), (ce_i4 y ob_width fob_width), (ce_l240 y ob_numbers fob_numbers), (ce_l60 y ob_moving fob_moving)] s.heap.size = A at hD ⊢
  have hA : ∀ q : Nat, s.heap.size ≤ q → A q := fun q h => by rw [← hAe]; exact Or.inr h
  have hS : va_S A s.heap s.heap [] := va_S.rf
  have hP : va_P G vwCl [(ce_X10 ob ob_thrown ob_world ob_images ob_hasImage ob_tape ob_taped ob_five ob_size ob_at ob_from ob_token ob_value ob_faultKind ob_faultPlace ob_fresh ob_parts ob_houses ob_houseMany ob_worthOf ob_byCall ob_over ob_bestSet ob_bestOver ob_bestWorth ob_row ob_tenDebts ob_tenMany ob_fewestBy ob_covered ob_queue ob_cameBy ob_parent ob_met ob_calls ob_callMany ob_calledOn ob_saved ob_many ob_width ob_numbers ob_moving), (ce_i4 y ob_many fob_many), (ce_i4 y ob_width fob_width), (ce_l240 y ob_numbers fob_numbers), (ce_l60 y ob_moving fob_moving)] s.heap := hP
  have hl := lv_entry ([.ref ob, .int 0, .int a2, .int 0, .int a4, .int a5]) (n := 7) (Nat.le_of_ble_eq_true rfl)
  rw [lg_entry_eq]
  generalize (lg_sl ([.ref ob, .int 0, .int a2, .int 0, .int a4, .int a5]) ++ List.replicate (7 - (lg_sl ([.ref ob, .int 0, .int a2, .int 0, .int a4, .int a5])).length) Slot.unset).toArray = ls at hl ⊢
  have hl : lv_has ls 7 [(0, .ref ob), (1, .int 0), (2, .int a2), (3, .int 0), (4, .int a4), (5, .int a5)] := hl
  refine lv_iload_n hx hb dX10_paste_0 rfl (lv_at hl 1 rfl) ?_
  refine cSim (As := [.int 0]) (rest := []) ⟨hx, hb, hml, hown, hw0⟩ hA hK hP hD hS [] (fisSlotM l G y _ 0 ) rfl ⟨(callB_of 1 hw0 (gA m_543) rfl rfl rfl (hw0 _ m_41) (hw0 _ m_433) cb_X10_isSlot ⟨Nat.le_of_ble_eq_true rfl, Nat.le_of_ble_eq_true rfl⟩), (hw0 _ m_434)⟩ rfl hl.1 (Nat.le_of_ble_eq_true rfl) dX10_paste_1 ⟨Nat.le_of_ble_eq_true rfl, Nat.le_of_ble_eq_true rfl⟩ (fun r_1001 w_1001 H locs hw_1001 hP hD hS => ?_)
  rcases hw_1001 with ⟨h_1002, rfl, rfl⟩ | ⟨h_1003, h_1004, rfl, rfl⟩
  · skip
    exact False.elim (by have h9 : Int32.toInt 0 = 0 := (by decide); omega)
  · skip
    obtain ⟨hP, hD⟩ : vPD G A H [(ce_X10 ob ob_thrown ob_world ob_images ob_hasImage ob_tape ob_taped ob_five ob_size ob_at ob_from ob_token ob_value ob_faultKind ob_faultPlace ob_fresh ob_parts ob_houses ob_houseMany ob_worthOf ob_byCall ob_over ob_bestSet ob_bestOver ob_bestWorth ob_row ob_tenDebts ob_tenMany ob_fewestBy ob_covered ob_queue ob_cameBy ob_parent ob_met ob_calls ob_callMany ob_calledOn ob_saved ob_many ob_width ob_numbers ob_moving), (ce_i4 y ob_many fob_many), (ce_i4 y ob_width fob_width), (ce_l240 y ob_numbers fob_numbers), (ce_l60 y ob_moving fob_moving)] := ⟨hP, hD⟩
    refine lv_if_eq (tgt := 14) hx hb dX10_paste_4 (by decide) (fun c9 => absurd c9 (by decide)) (fun _ => ?_)
    refine lv_iload_n hx hb dX10_paste_7 rfl (lv_at hl 3 rfl) ?_
    refine cSim (As := [.int 0]) (rest := []) ⟨hx, hb, hml, hown, hw0⟩ hA hK hP hD hS [] (fisSlotM l G y _ 0 ) rfl ⟨(callB_of 1 hw0 (gA m_543) rfl rfl rfl (hw0 _ m_41) (hw0 _ m_433) cb_X10_isSlot ⟨Nat.le_of_ble_eq_true rfl, Nat.le_of_ble_eq_true rfl⟩), (hw0 _ m_434)⟩ rfl hl.1 (Nat.le_of_ble_eq_true rfl) dX10_paste_8 ⟨Nat.le_of_ble_eq_true rfl, Nat.le_of_ble_eq_true rfl⟩ (fun r_1005 w_1005 H locs hw_1005 hP hD hS => ?_)
    rcases hw_1005 with ⟨h_1006, rfl, rfl⟩ | ⟨h_1007, h_1008, rfl, rfl⟩
    · skip
      exact False.elim (by have h9 : Int32.toInt 0 = 0 := (by decide); omega)
    · skip
      obtain ⟨hP, hD⟩ : vPD G A H [(ce_X10 ob ob_thrown ob_world ob_images ob_hasImage ob_tape ob_taped ob_five ob_size ob_at ob_from ob_token ob_value ob_faultKind ob_faultPlace ob_fresh ob_parts ob_houses ob_houseMany ob_worthOf ob_byCall ob_over ob_bestSet ob_bestOver ob_bestWorth ob_row ob_tenDebts ob_tenMany ob_fewestBy ob_covered ob_queue ob_cameBy ob_parent ob_met ob_calls ob_callMany ob_calledOn ob_saved ob_many ob_width ob_numbers ob_moving), (ce_i4 y ob_many fob_many), (ce_i4 y ob_width fob_width), (ce_l240 y ob_numbers fob_numbers), (ce_l60 y ob_moving fob_moving)] := ⟨hP, hD⟩
      refine lv_if_ne (tgt := 17) hx hb dX10_paste_11 (by decide) (fun _ => ?_) (fun c9 => absurd c9 (by decide))
      refine lv_aload_n hx hb dX10_paste_17 rfl (lv_at hl 0 rfl) ?_
      refine va_get (D := G) (ci := 10) (v := .ref ob_many) (C := RX10) (T := TX10) (N := 41) hx hb hw0 inA_wsX100 hown hK.1 hP 0 rfl rfl 37 (by decide) (hw0 _ m_406) (fun _ h9 => h9) rfl dX10_paste_18 ?_
      refine lv_iload_n hx hb dX10_paste_21 rfl (lv_at hl 1 rfl) ?_
      refine va_iald hx hb hK.1 hP 1 1 rfl rfl (vi (bkc (x := 0) (c := 0) (by decide)) (by decide)) dX10_paste_22 ?_
      refine lv_topi (fun v_1009 ev_1009 => ?_)
      have bv_1009 : (-1 : Int) ≤ v_1009.toInt ∧ v_1009.toInt ≤ 60 := rd_b ev_1009 p_fob_many
      have yv_1009 : v_1009.toInt = (fob_many 0).toInt := congrArg Int32.toInt ev_1009
      refine lv_iconst (v := (-1)) hx hb dX10_paste_23 (by decide) ?_
      refine lv_icmp_eq (tgt := 37) hx hb dX10_paste_24 (by decide) (fun c_1010 => ?_) (fun c_1010 => ?_)
      · skip
        have nc_1010 := nb_eq (-1) (-1) c_1010 bv_1009 (bkc (x := (-1)) (c := -1) (by decide)) (by decide)
        refine lv_bipush (v := (-6)) hx hb dX10_paste_37 (by decide) ?_
        exact W.iret (v := (-6)) hx hb hr (fun t ht hW => ⟨⟨(-6), _, rfl, Or.inl (⟨by have h90 : Int32.toInt (-6) = -6 := (by decide); have h91 : Int32.toInt 0 = 0 := (by decide); omega, rfl, rfl⟩), by rw [ht]; exact hP, hD⟩, hS.F ht⟩) hS.2.2 dX10_paste_39
      · skip
        have nc_1010 := nb_ne (0) (60) c_1010 bv_1009 (k := -1) (by decide) (by decide)
        refine lv_aload_n hx hb dX10_paste_27 rfl (lv_at hl 0 rfl) ?_
        refine va_get (D := G) (ci := 10) (v := .ref ob_many) (C := RX10) (T := TX10) (N := 41) hx hb hw0 inA_wsX100 hown hK.1 hP 0 rfl rfl 37 (by decide) (hw0 _ m_406) (fun _ h9 => h9) rfl dX10_paste_28 ?_
        refine lv_iload_n hx hb dX10_paste_31 rfl (lv_at hl 3 rfl) ?_
        refine va_iald hx hb hK.1 hP 1 1 rfl rfl (vi (bkc (x := 0) (c := 0) (by decide)) (by decide)) dX10_paste_32 ?_
        refine lv_topi (fun v_1011 ev_1011 => ?_)
        obtain rfl : v_1009 = v_1011 := (ev_1011.trans (ev_1009.symm)).symm
        refine lv_iconst (v := (-1)) hx hb dX10_paste_33 (by decide) ?_
        refine lv_icmp_ne (tgt := 40) hx hb dX10_paste_34 (by decide) (fun _ => ?_) (fun c9 => absurd c9 (dc_neq nc_1010.1 (bkc (x := (-1)) (c := -1) (by decide)) (by decide)))
        refine lv_aload_n hx hb dX10_paste_40 rfl (lv_at hl 0 rfl) ?_
        refine va_get (D := G) (ci := 10) (v := .ref ob_width) (C := RX10) (T := TX10) (N := 41) hx hb hw0 inA_wsX100 hown hK.1 hP 0 rfl rfl 38 (by decide) (hw0 _ m_527) (fun _ h9 => h9) rfl dX10_paste_41 ?_
        refine lv_iload_n hx hb dX10_paste_44 rfl (lv_at hl 1 rfl) ?_
        refine va_iald hx hb hK.1 hP 2 1 rfl rfl (vi (bkc (x := 0) (c := 0) (by decide)) (by decide)) dX10_paste_45 ?_
        refine lv_topi (fun v_1012 ev_1012 => ?_)
        have bv_1012 : (0 : Int) ≤ v_1012.toInt ∧ v_1012.toInt ≤ 3 := rd_b ev_1012 p_fob_width
        have yv_1012 : v_1012.toInt = (fob_width 0).toInt := congrArg Int32.toInt ev_1012
        refine lv_aload_n hx hb dX10_paste_46 rfl (lv_at hl 0 rfl) ?_
        refine va_get (D := G) (ci := 10) (v := .ref ob_width) (C := RX10) (T := TX10) (N := 41) hx hb hw0 inA_wsX100 hown hK.1 hP 0 rfl rfl 38 (by decide) (hw0 _ m_527) (fun _ h9 => h9) rfl dX10_paste_47 ?_
        refine lv_iload_n hx hb dX10_paste_50 rfl (lv_at hl 3 rfl) ?_
        refine va_iald hx hb hK.1 hP 2 1 rfl rfl (vi (bkc (x := 0) (c := 0) (by decide)) (by decide)) dX10_paste_51 ?_
        refine lv_topi (fun v_1013 ev_1013 => ?_)
        obtain rfl : v_1012 = v_1013 := (ev_1013.trans (ev_1012.symm)).symm
        refine lv_icmp_eq (tgt := 58) hx hb dX10_paste_52 (by decide) (fun _ => ?_) (fun c9 => absurd (rfl) c9)
        refine lv_iload_n hx hb dX10_paste_58 rfl (lv_at hl 2 rfl) ?_
        refine lv_if_lt (tgt := 107) hx hb dX10_paste_59 (by decide) (fun c_1014 => ?_) (fun c_1014 => ?_)
        · skip
          have nc_1014 := nb_lt (-1) (0) c_1014 (btop a2) (bkc (x := 0) (c := 0) (by decide)) (by decide)
          refine lv_bipush (v := (-7)) hx hb dX10_paste_107 (by decide) ?_
          exact W.iret (v := (-7)) hx hb hr (fun t ht hW => ⟨⟨(-7), _, rfl, Or.inr (Or.inl (⟨by have h90 : Int32.toInt (-7) = -7 := (by decide); have h91 : Int32.toInt 0 = 0 := (by decide); omega, rfl, rfl⟩)), by rw [ht]; exact hP, hD⟩, hS.F ht⟩) hS.2.2 dX10_paste_109
        · skip
          have nc_1014 := nb_nlt (0) (0) c_1014 (bkc (x := 0) (c := 0) (by decide)) (btop a2) (by decide)
          refine lv_iload hx hb dX10_paste_62 (lv_at hl 4 rfl) ?_
          refine lv_if_lt (tgt := 107) hx hb dX10_paste_64 (by decide) (fun c_1015 => ?_) (fun c_1015 => ?_)
          · skip
            have nc_1015 := nb_lt (-1) (0) c_1015 (btop a4) (bkc (x := 0) (c := 0) (by decide)) (by decide)
            refine lv_bipush (v := (-7)) hx hb dX10_paste_107 (by decide) ?_
            exact W.iret (v := (-7)) hx hb hr (fun t ht hW => ⟨⟨(-7), _, rfl, Or.inr (Or.inl (⟨by have h90 : Int32.toInt (-7) = -7 := (by decide); have h91 : Int32.toInt 0 = 0 := (by decide); omega, rfl, rfl⟩)), by rw [ht]; exact hP, hD⟩, hS.F ht⟩) hS.2.2 dX10_paste_109
          · skip
            have nc_1015 := nb_nlt (0) (0) c_1015 (bkc (x := 0) (c := 0) (by decide)) (btop a4) (by decide)
            refine lv_iload hx hb dX10_paste_67 (lv_at hl 5 rfl) ?_
            refine lv_if_lt (tgt := 107) hx hb dX10_paste_69 (by decide) (fun c_1016 => ?_) (fun c_1016 => ?_)
            · skip
              have nc_1016 := nb_lt (-1) (0) c_1016 (btop a5) (bkc (x := 0) (c := 0) (by decide)) (by decide)
              refine lv_bipush (v := (-7)) hx hb dX10_paste_107 (by decide) ?_
              exact W.iret (v := (-7)) hx hb hr (fun t ht hW => ⟨⟨(-7), _, rfl, Or.inr (Or.inl (⟨by have h90 : Int32.toInt (-7) = -7 := (by decide); have h91 : Int32.toInt 0 = 0 := (by decide); omega, rfl, rfl⟩)), by rw [ht]; exact hP, hD⟩, hS.F ht⟩) hS.2.2 dX10_paste_109
            · skip
              have nc_1016 := nb_nlt (0) (0) c_1016 (bkc (x := 0) (c := 0) (by decide)) (btop a5) (by decide)
              refine lv_iload_n hx hb dX10_paste_72 rfl (lv_at hl 2 rfl) ?_
              refine lv_i2l hx hb dX10_paste_73 rfl ?_
              have kk_1017 : ((a2).toInt64).toInt = (a2).toInt := Int32.toInt_toInt64 _
              refine lv_iload hx hb dX10_paste_74 (lv_at hl 5 rfl) ?_
              refine lv_i2l hx hb dX10_paste_76 rfl ?_
              have kk_1018 : ((a5).toInt64).toInt = (a5).toInt := Int32.toInt_toInt64 _
              refine lv_ladd hx hb dX10_paste_77 ?_
              refine lv_topl (fun v_1019 ev_1019 => ?_)
              have qv_1019 := la_add ev_1019
              refine lv_aload_n hx hb dX10_paste_78 rfl (lv_at hl 0 rfl) ?_
              refine va_get (D := G) (ci := 10) (v := .ref ob_many) (C := RX10) (T := TX10) (N := 41) hx hb hw0 inA_wsX100 hown hK.1 hP 0 rfl rfl 37 (by decide) (hw0 _ m_406) (fun _ h9 => h9) rfl dX10_paste_79 ?_
              refine lv_iload_n hx hb dX10_paste_82 rfl (lv_at hl 1 rfl) ?_
              refine va_iald hx hb hK.1 hP 1 1 rfl rfl (vi (bkc (x := 0) (c := 0) (by decide)) (by decide)) dX10_paste_83 ?_
              refine lv_topi (fun v_1020 ev_1020 => ?_)
              obtain rfl : v_1009 = v_1020 := (ev_1020.trans (ev_1009.symm)).symm
              refine lv_i2l hx hb dX10_paste_84 rfl ?_
              have kk_1021 : ((v_1009).toInt64).toInt = (v_1009).toInt := Int32.toInt_toInt64 _
              refine W.lcmp hx hb dX10_paste_85 ?_
              refine lv_if_gt (tgt := 107) hx hb dX10_paste_86 (by decide) (fun c_1022 => ?_) (fun c_1022 => ?_)
              · skip
                have nc_1022 := jl_gt c_1022
                refine lv_bipush (v := (-7)) hx hb dX10_paste_107 (by decide) ?_
                exact W.iret (v := (-7)) hx hb hr (fun t ht hW => ⟨⟨(-7), _, rfl, Or.inr (Or.inl (⟨by have h90 : Int32.toInt (-7) = -7 := (by decide); have h91 : Int32.toInt 0 = 0 := (by decide); omega, rfl, rfl⟩)), by rw [ht]; exact hP, hD⟩, hS.F ht⟩) hS.2.2 dX10_paste_109
              · skip
                have nc_1022 := jl_ngt c_1022
                refine lv_iload hx hb dX10_paste_89 (lv_at hl 4 rfl) ?_
                refine lv_i2l hx hb dX10_paste_91 rfl ?_
                have kk_1023 : ((a4).toInt64).toInt = (a4).toInt := Int32.toInt_toInt64 _
                refine lv_iload hx hb dX10_paste_92 (lv_at hl 5 rfl) ?_
                refine lv_i2l hx hb dX10_paste_94 rfl ?_
                have kk_1024 : ((a5).toInt64).toInt = (a5).toInt := Int32.toInt_toInt64 _
                refine lv_ladd hx hb dX10_paste_95 ?_
                refine lv_topl (fun v_1025 ev_1025 => ?_)
                have qv_1025 := la_add ev_1025
                refine lv_aload_n hx hb dX10_paste_96 rfl (lv_at hl 0 rfl) ?_
                refine va_get (D := G) (ci := 10) (v := .ref ob_many) (C := RX10) (T := TX10) (N := 41) hx hb hw0 inA_wsX100 hown hK.1 hP 0 rfl rfl 37 (by decide) (hw0 _ m_406) (fun _ h9 => h9) rfl dX10_paste_97 ?_
                refine lv_iload_n hx hb dX10_paste_100 rfl (lv_at hl 3 rfl) ?_
                refine va_iald hx hb hK.1 hP 1 1 rfl rfl (vi (bkc (x := 0) (c := 0) (by decide)) (by decide)) dX10_paste_101 ?_
                refine lv_topi (fun v_1026 ev_1026 => ?_)
                obtain rfl : v_1009 = v_1026 := (ev_1026.trans (ev_1009.symm)).symm
                refine lv_i2l hx hb dX10_paste_102 rfl ?_
                have kk_1027 : ((v_1009).toInt64).toInt = (v_1009).toInt := Int32.toInt_toInt64 _
                refine W.lcmp hx hb dX10_paste_103 ?_
                refine lv_if_le (tgt := 110) hx hb dX10_paste_104 (by decide) (fun c_1028 => ?_) (fun c_1028 => ?_)
                · skip
                  have nc_1028 := jl_le c_1028
                  have h_1029 : (0 : Int) ≤ a2.toInt ∧ a2.toInt ≤ 60 := by omega
                  have h_1030 : (0 : Int) ≤ a4.toInt ∧ a4.toInt ≤ 60 := by omega
                  have h_1031 : (0 : Int) ≤ a5.toInt ∧ a5.toInt ≤ 60 := by omega
                  refine lv_iconst (v := 0) hx hb dX10_paste_110 (by decide) ?_
                  refine lv_istore (lv' := [(6, .int 0), (0, .ref ob), (1, .int 0), (2, .int a2), (3, .int 0), (4, .int a4), (5, .int a5)]) hx hb dX10_paste_111 hl (by decide) rfl (fun ls hl => ?_)
                  refine loopX (fun n H locs ls st => ∃ (v_1137 : Int32) (f_1138 : Nat → Int64), (60 - v_1137.toInt).toNat = n ∧ ((0 : Int) ≤ v_1137.toInt ∧ v_1137.toInt ≤ 60) ∧ st = [] ∧ vPD G A H [(ce_X10 ob ob_thrown ob_world ob_images ob_hasImage ob_tape ob_taped ob_five ob_size ob_at ob_from ob_token ob_value ob_faultKind ob_faultPlace ob_fresh ob_parts ob_houses ob_houseMany ob_worthOf ob_byCall ob_over ob_bestSet ob_bestOver ob_bestWorth ob_row ob_tenDebts ob_tenMany ob_fewestBy ob_covered ob_queue ob_cameBy ob_parent ob_met ob_calls ob_callMany ob_calledOn ob_saved ob_many ob_width ob_numbers ob_moving), (ce_i4 y ob_many fob_many), (ce_i4 y ob_width fob_width), (ce_l240 y ob_numbers fob_numbers), (ce_l60 y ob_moving f_1138)] ∧ va_S A s.heap H locs ∧ lv_has ls 7 [(6, .int v_1137), (0, .ref ob), (1, .int 0), (2, .int a2), (3, .int 0), (4, .int a4), (5, .int a5)]) ?_ (n := (60 - (0 : Int32).toInt).toNat) ⟨0, fob_moving, rfl, (bw (0) (60) (bkc (x := 0) (c := 0) (by decide)) (by decide)), rfl, ⟨hP, hD⟩, hS, lv_sub hl [0, 1, 2, 3, 4, 5, 6] rfl⟩
                  rintro n ih_1145 H locs ls st ⟨v_1137, f_1138, hn_1145, bv_1137, rfl, ⟨hP, hD⟩, hS, hl⟩
                  refine lv_iload hx hb dX10_paste_113 (lv_at hl 0 rfl) ?_
                  refine lv_iload hx hb dX10_paste_115 (lv_at hl 6 rfl) ?_
                  refine lv_icmp_ge (tgt := 147) hx hb dX10_paste_117 (by decide) (fun c_1146 => ?_) (fun c_1146 => ?_)
                  · skip
                    have nc_1146 := nb_le (60) (0) c_1146 h_1031 bv_1137 (by decide)
                    refine lv_iconst (v := 0) hx hb dX10_paste_147 (by decide) ?_
                    refine lv_istore (lv' := [(6, .int 0), (0, .ref ob), (1, .int 0), (2, .int a2), (3, .int 0), (4, .int a4), (5, .int a5)]) hx hb dX10_paste_148 hl (by decide) rfl (fun ls hl => ?_)
                    refine loopX (fun n H locs ls st => ∃ (v_1252 : Int32) (f_1253 : Nat → Int64), (60 - v_1252.toInt).toNat = n ∧ ((0 : Int) ≤ v_1252.toInt ∧ v_1252.toInt ≤ 60) ∧ st = [] ∧ vPD G A H [(ce_X10 ob ob_thrown ob_world ob_images ob_hasImage ob_tape ob_taped ob_five ob_size ob_at ob_from ob_token ob_value ob_faultKind ob_faultPlace ob_fresh ob_parts ob_houses ob_houseMany ob_worthOf ob_byCall ob_over ob_bestSet ob_bestOver ob_bestWorth ob_row ob_tenDebts ob_tenMany ob_fewestBy ob_covered ob_queue ob_cameBy ob_parent ob_met ob_calls ob_callMany ob_calledOn ob_saved ob_many ob_width ob_numbers ob_moving), (ce_i4 y ob_many fob_many), (ce_i4 y ob_width fob_width), (ce_l240 y ob_numbers f_1253), (ce_l60 y ob_moving f_1138)] ∧ va_S A s.heap H locs ∧ lv_has ls 7 [(6, .int v_1252), (0, .ref ob), (3, .int 0), (4, .int a4), (5, .int a5)]) ?_ (n := (60 - (0 : Int32).toInt).toNat) ⟨0, fob_numbers, rfl, (bw (0) (60) (bkc (x := 0) (c := 0) (by decide)) (by decide)), rfl, ⟨hP, hD⟩, hS, lv_sub hl [0, 1, 4, 5, 6] rfl⟩
                    rintro n ih_1260 H locs ls st ⟨v_1252, f_1253, hn_1260, bv_1252, rfl, ⟨hP, hD⟩, hS, hl⟩
                    refine lv_iload hx hb dX10_paste_150 (lv_at hl 0 rfl) ?_
                    refine lv_iload hx hb dX10_paste_152 (lv_at hl 4 rfl) ?_
                    refine lv_icmp_ge (tgt := 185) hx hb dX10_paste_154 (by decide) (fun c_1261 => ?_) (fun c_1261 => ?_)
                    · skip
                      have nc_1261 := nb_le (60) (0) c_1261 nc_1146.1 bv_1252 (by decide)
                      refine lv_iconst (v := 0) hx hb dX10_paste_185 (by decide) ?_
                      exact W.iret (v := 0) hx hb hr (fun t ht hW => ⟨⟨0, _, rfl, Or.inr (Or.inr (⟨f_1253, f_1138, h_1029, h_1030, nc_1261.1, by have h90 : Int32.toInt 0 = 0 := (by decide); omega, rfl, rfl⟩)), by rw [ht]; exact hP, hD⟩, hS.F ht⟩) hS.2.2 dX10_paste_186
                    · skip
                      have nc_1261 := nb_nle (59) (1) c_1261 bv_1252 nc_1146.1 (by decide)
                      refine lv_aload_n hx hb dX10_paste_157 rfl (lv_at hl 1 rfl) ?_
                      refine va_get (D := G) (ci := 10) (v := .ref ob_numbers) (C := RX10) (T := TX10) (N := 41) hx hb hw0 inA_wsX100 hown hK.1 hP 0 rfl rfl 39 (by decide) (hw0 _ m_435) (fun _ h9 => h9) rfl dX10_paste_158 ?_
                      refine lv_bipush (v := 60) hx hb dX10_paste_161 (by decide) ?_
                      refine lv_iload_n hx hb dX10_paste_163 rfl (lv_at hl 2 rfl) ?_
                      refine lv_imul hx hb dX10_paste_164 ?_
                      refine lv_topi (fun v_1262 ev_1262 => ?_)
                      obtain rfl : 0 = v_1262 := (ev_1262.trans (by decide)).symm
                      refine lv_iload hx hb dX10_paste_165 (lv_at hl 3 rfl) ?_
                      refine lv_iadd hx hb dX10_paste_167 ?_
                      refine lv_topi (fun v_1263 ev_1263 => ?_)
                      have qv_1263 := ba_add ev_1263 (bkc (x := 0) (c := 0) (by decide)) h_1030 (by decide)
                      have bv_1263 : (0 : Int) ≤ v_1263.toInt ∧ v_1263.toInt ≤ 60 := bq_add qv_1263 (bkc (x := 0) (c := 0) (by decide)) h_1030 _ _ (by decide)
                      have qv_1263 : v_1263.toInt = (0) + a4.toInt := qv_1263
                      refine lv_iload hx hb dX10_paste_168 (lv_at hl 0 rfl) ?_
                      refine lv_iadd hx hb dX10_paste_170 ?_
                      refine lv_topi (fun v_1264 ev_1264 => ?_)
                      have qv_1264 := ba_add ev_1264 bv_1263 nc_1261.1 (by decide)
                      have bv_1264 : (0 : Int) ≤ v_1264.toInt ∧ v_1264.toInt ≤ 119 := bq_add qv_1264 bv_1263 nc_1261.1 _ _ (by decide)
                      refine lv_aload_n hx hb dX10_paste_171 rfl (lv_at hl 1 rfl) ?_
                      refine va_get (D := G) (ci := 10) (v := .ref ob_moving) (C := RX10) (T := TX10) (N := 41) hx hb hw0 inA_wsX100 hown hK.1 hP 0 rfl rfl 40 (by decide) (hw0 _ m_529) (fun _ h9 => h9) rfl dX10_paste_172 ?_
                      refine lv_iload hx hb dX10_paste_175 (lv_at hl 0 rfl) ?_
                      refine va_lald hx hb hK.1 hP 4 2 rfl rfl (vi nc_1261.1 (by decide)) dX10_paste_177 ?_
                      refine lv_topl (fun v_1265 ev_1265 => ?_)
                      refine va_last hx hb hK.1 hP hD hS 3 2 rfl rfl (vi bv_1264 (by decide)) dX10_paste_178 (fun H locs hP hD hS => ?_)
                      generalize hf_1266 : (vp_updL f_1253 (v_1264 : Int32).toNatClampNeg v_1265) = f_1266 at hP hD
                      obtain ⟨hP, hD⟩ : vPD G A H [(ce_X10 ob ob_thrown ob_world ob_images ob_hasImage ob_tape ob_taped ob_five ob_size ob_at ob_from ob_token ob_value ob_faultKind ob_faultPlace ob_fresh ob_parts ob_houses ob_houseMany ob_worthOf ob_byCall ob_over ob_bestSet ob_bestOver ob_bestWorth ob_row ob_tenDebts ob_tenMany ob_fewestBy ob_covered ob_queue ob_cameBy ob_parent ob_met ob_calls ob_callMany ob_calledOn ob_saved ob_many ob_width ob_numbers ob_moving), (ce_i4 y ob_many fob_many), (ce_i4 y ob_width fob_width), (ce_l240 y ob_numbers f_1266), (ce_l60 y ob_moving f_1138)] := ⟨hP, hD⟩
                      obtain ⟨v_1267, ev_1267⟩ : ∃ z : Int32, z = v_1252 + 1 := ⟨_, rfl⟩
                      have qv_1267 := ba_add ev_1267 nc_1261.1 (bkc (x := 1) (c := 1) (by decide)) (by decide)
                      have bv_1267 : (1 : Int) ≤ v_1267.toInt ∧ v_1267.toInt ≤ 60 := bq_add qv_1267 nc_1261.1 (bkc (x := 1) (c := 1) (by decide)) _ _ (by decide)
                      have qv_1267 : v_1267.toInt = v_1252.toInt + (1) := qv_1267
                      refine lv_iinc (v := v_1267) (lv' := [(6, .int v_1267), (0, .ref ob), (3, .int 0), (4, .int a4), (5, .int a5)]) hx hb dX10_paste_179 hl (k := 0) rfl (ev_1267.symm) (by decide) rfl (fun ls hl => ?_)
                      refine lv_goto (tgt := 150) hx hb dX10_paste_182 (by decide) ?_
                      exact ih_1260 _ (ml_inc (hi := 60) hn_1260 qv_1267 (by decide) ((bw (0) (60) bv_1267 (by decide))).2) _ _ _ _ ⟨v_1267, f_1266, rfl, (bw (0) (60) bv_1267 (by decide)), rfl, ⟨hP, hD⟩, hS, lv_sub hl [0, 1, 2, 3, 4] rfl⟩
                  · skip
                    have nc_1146 := nb_nle (59) (1) c_1146 bv_1137 h_1031 (by decide)
                    refine lv_aload_n hx hb dX10_paste_120 rfl (lv_at hl 1 rfl) ?_
                    refine va_get (D := G) (ci := 10) (v := .ref ob_moving) (C := RX10) (T := TX10) (N := 41) hx hb hw0 inA_wsX100 hown hK.1 hP 0 rfl rfl 40 (by decide) (hw0 _ m_529) (fun _ h9 => h9) rfl dX10_paste_121 ?_
                    refine lv_iload hx hb dX10_paste_124 (lv_at hl 0 rfl) ?_
                    refine lv_aload_n hx hb dX10_paste_126 rfl (lv_at hl 1 rfl) ?_
                    refine va_get (D := G) (ci := 10) (v := .ref ob_numbers) (C := RX10) (T := TX10) (N := 41) hx hb hw0 inA_wsX100 hown hK.1 hP 0 rfl rfl 39 (by decide) (hw0 _ m_435) (fun _ h9 => h9) rfl dX10_paste_127 ?_
                    refine lv_bipush (v := 60) hx hb dX10_paste_130 (by decide) ?_
                    refine lv_iload_n hx hb dX10_paste_132 rfl (lv_at hl 2 rfl) ?_
                    refine lv_imul hx hb dX10_paste_133 ?_
                    refine lv_topi (fun v_1268 ev_1268 => ?_)
                    obtain rfl : 0 = v_1268 := (ev_1268.trans (by decide)).symm
                    refine lv_iload_n hx hb dX10_paste_134 rfl (lv_at hl 3 rfl) ?_
                    refine lv_iadd hx hb dX10_paste_135 ?_
                    refine lv_topi (fun v_1269 ev_1269 => ?_)
                    have qv_1269 := ba_add ev_1269 (bkc (x := 0) (c := 0) (by decide)) h_1029 (by decide)
                    have bv_1269 : (0 : Int) ≤ v_1269.toInt ∧ v_1269.toInt ≤ 60 := bq_add qv_1269 (bkc (x := 0) (c := 0) (by decide)) h_1029 _ _ (by decide)
                    have qv_1269 : v_1269.toInt = (0) + a2.toInt := qv_1269
                    refine lv_iload hx hb dX10_paste_136 (lv_at hl 0 rfl) ?_
                    refine lv_iadd hx hb dX10_paste_138 ?_
                    refine lv_topi (fun v_1270 ev_1270 => ?_)
                    have qv_1270 := ba_add ev_1270 bv_1269 nc_1146.1 (by decide)
                    have bv_1270 : (0 : Int) ≤ v_1270.toInt ∧ v_1270.toInt ≤ 119 := bq_add qv_1270 bv_1269 nc_1146.1 _ _ (by decide)
                    refine va_lald hx hb hK.1 hP 3 2 rfl rfl (vi bv_1270 (by decide)) dX10_paste_139 ?_
                    refine lv_topl (fun v_1271 ev_1271 => ?_)
                    refine va_last hx hb hK.1 hP hD hS 4 2 rfl rfl (vi nc_1146.1 (by decide)) dX10_paste_140 (fun H locs hP hD hS => ?_)
                    generalize hf_1272 : (vp_updL f_1138 (v_1137 : Int32).toNatClampNeg v_1271) = f_1272 at hP hD
                    obtain ⟨hP, hD⟩ : vPD G A H [(ce_X10 ob ob_thrown ob_world ob_images ob_hasImage ob_tape ob_taped ob_five ob_size ob_at ob_from ob_token ob_value ob_faultKind ob_faultPlace ob_fresh ob_parts ob_houses ob_houseMany ob_worthOf ob_byCall ob_over ob_bestSet ob_bestOver ob_bestWorth ob_row ob_tenDebts ob_tenMany ob_fewestBy ob_covered ob_queue ob_cameBy ob_parent ob_met ob_calls ob_callMany ob_calledOn ob_saved ob_many ob_width ob_numbers ob_moving), (ce_i4 y ob_many fob_many), (ce_i4 y ob_width fob_width), (ce_l240 y ob_numbers fob_numbers), (ce_l60 y ob_moving f_1272)] := ⟨hP, hD⟩
                    obtain ⟨v_1273, ev_1273⟩ : ∃ z : Int32, z = v_1137 + 1 := ⟨_, rfl⟩
                    have qv_1273 := ba_add ev_1273 nc_1146.1 (bkc (x := 1) (c := 1) (by decide)) (by decide)
                    have bv_1273 : (1 : Int) ≤ v_1273.toInt ∧ v_1273.toInt ≤ 60 := bq_add qv_1273 nc_1146.1 (bkc (x := 1) (c := 1) (by decide)) _ _ (by decide)
                    have qv_1273 : v_1273.toInt = v_1137.toInt + (1) := qv_1273
                    refine lv_iinc (v := v_1273) (lv' := [(6, .int v_1273), (0, .ref ob), (1, .int 0), (2, .int a2), (3, .int 0), (4, .int a4), (5, .int a5)]) hx hb dX10_paste_141 hl (k := 0) rfl (ev_1273.symm) (by decide) rfl (fun ls hl => ?_)
                    refine lv_goto (tgt := 113) hx hb dX10_paste_144 (by decide) ?_
                    exact ih_1145 _ (ml_inc (hi := 60) hn_1145 qv_1273 (by decide) ((bw (0) (60) bv_1273 (by decide))).2) _ _ _ _ ⟨v_1273, f_1272, rfl, (bw (0) (60) bv_1273 (by decide)), rfl, ⟨hP, hD⟩, hS, lv_sub hl [0, 1, 2, 3, 4, 5, 6] rfl⟩
                · skip
                  have nc_1028 := jl_nle c_1028
                  refine lv_bipush (v := (-7)) hx hb dX10_paste_107 (by decide) ?_
                  exact W.iret (v := (-7)) hx hb hr (fun t ht hW => ⟨⟨(-7), _, rfl, Or.inr (Or.inl (⟨by have h90 : Int32.toInt (-7) = -7 := (by decide); have h91 : Int32.toInt 0 = 0 := (by decide); omega, rfl, rfl⟩)), by rw [ht]; exact hP, hD⟩, hS.F ht⟩) hS.2.2 dX10_paste_109

set_option maxHeartbeats 4000000 in
set_option maxRecDepth 100000 in
theorem fpasteM01 (l : Launch) (G : va_G) (y : Nat → ClassId) (sz : Nat) (ob : Nat) (a2 : Int32) (a4 : Int32) (a5 : Int32) (ob_thrown : Int32) (ob_world : Nat) (ob_images : Nat) (ob_hasImage : Nat) (ob_tape : Nat) (ob_taped : Int32) (ob_five : Nat) (ob_size : Int32) (ob_at : Int32) (ob_from : Int32) (ob_token : Int32) (ob_value : Int32) (ob_faultKind : Int32) (ob_faultPlace : Int32) (ob_fresh : Nat) (ob_parts : Nat) (ob_houses : Nat) (ob_houseMany : Int32) (ob_worthOf : Nat) (ob_byCall : Nat) (ob_over : Nat) (ob_bestSet : Int32) (ob_bestOver : Int32) (ob_bestWorth : Int32) (ob_row : Nat) (ob_tenDebts : Nat) (ob_tenMany : Int32) (ob_fewestBy : Nat) (ob_covered : Nat) (ob_queue : Nat) (ob_cameBy : Nat) (ob_parent : Nat) (ob_met : Nat) (ob_calls : Nat) (ob_callMany : Int32) (ob_calledOn : Nat) (ob_saved : Nat) (ob_many : Nat) (ob_width : Nat) (ob_numbers : Nat) (ob_moving : Nat) (fob_many : Nat → Int32) (fob_width : Nat → Int32) (fob_numbers : Nat → Int64) (fob_moving : Nat → Int64) (p_ob_taped : (0 : Int) ≤ ob_taped.toInt ∧ ob_taped.toInt ≤ 1400) (p_ob_size : (0 : Int) ≤ ob_size.toInt ∧ ob_size.toInt ≤ 1400) (p_ob_at : (0 : Int) ≤ ob_at.toInt ∧ ob_at.toInt ≤ 1400) (p_ob_from : (0 : Int) ≤ ob_from.toInt ∧ ob_from.toInt ≤ 1400) (p_ob_token : (0 : Int) ≤ ob_token.toInt ∧ ob_token.toInt ≤ 4) (p_ob_value : (0 : Int) ≤ ob_value.toInt ∧ ob_value.toInt ≤ 9999) (p_ob_faultKind : (0 : Int) ≤ ob_faultKind.toInt ∧ ob_faultKind.toInt ≤ 3) (p_ob_houseMany : (0 : Int) ≤ ob_houseMany.toInt ∧ ob_houseMany.toInt ≤ 10) (p_ob_bestSet : (0 : Int) ≤ ob_bestSet.toInt ∧ ob_bestSet.toInt ≤ 1023) (p_ob_bestOver : (-1 : Int) ≤ ob_bestOver.toInt ∧ ob_bestOver.toInt ≤ 180) (p_ob_tenMany : (0 : Int) ≤ ob_tenMany.toInt ∧ ob_tenMany.toInt ≤ 10) (p_ob_callMany : (0 : Int) ≤ ob_callMany.toInt ∧ ob_callMany.toInt ≤ 16) (p_fob_many : ∀ i, (-1 : Int) ≤ (fob_many i).toInt ∧ (fob_many i).toInt ≤ 60) (p_fob_width : ∀ i, (0 : Int) ≤ (fob_width i).toInt ∧ (fob_width i).toInt ≤ 3) : Met l yX10_paste (Cond.code yX10_paste cX10_paste 7 (some .int) :: wAll) ({ frames := 2, cells := 0, slots := 0, locals := 45 }) (va_Pc [.ref ob, .int 0, .int a2, .int 1, .int a4, .int a5] (kp G y sz [(ce_X10 ob ob_thrown ob_world ob_images ob_hasImage ob_tape ob_taped ob_five ob_size ob_at ob_from ob_token ob_value ob_faultKind ob_faultPlace ob_fresh ob_parts ob_houses ob_houseMany ob_worthOf ob_byCall ob_over ob_bestSet ob_bestOver ob_bestWorth ob_row ob_tenDebts ob_tenMany ob_fewestBy ob_covered ob_queue ob_cameBy ob_parent ob_met ob_calls ob_callMany ob_calledOn ob_saved ob_many ob_width ob_numbers ob_moving), (ce_i4 y ob_many fob_many), (ce_i4 y ob_width fob_width), (ce_l240 y ob_numbers fob_numbers), (ce_l60 y ob_moving fob_moving)])) (va_Qi (fun (r : Int32) (w : va_W) => (((fob_many 0).toInt = -1 ∨ (fob_many 1).toInt = -1) ∧ r = (-6) ∧ w = [(ce_X10 ob ob_thrown ob_world ob_images ob_hasImage ob_tape ob_taped ob_five ob_size ob_at ob_from ob_token ob_value ob_faultKind ob_faultPlace ob_fresh ob_parts ob_houses ob_houseMany ob_worthOf ob_byCall ob_over ob_bestSet ob_bestOver ob_bestWorth ob_row ob_tenDebts ob_tenMany ob_fewestBy ob_covered ob_queue ob_cameBy ob_parent ob_met ob_calls ob_callMany ob_calledOn ob_saved ob_many ob_width ob_numbers ob_moving), (ce_i4 y ob_many fob_many), (ce_i4 y ob_width fob_width), (ce_l240 y ob_numbers fob_numbers), (ce_l60 y ob_moving fob_moving)]) ∨ ((¬ (fob_many 0).toInt = -1 ∧ ¬ (fob_many 1).toInt = -1 ∧ (fob_width 0).toInt = (fob_width 1).toInt ∧ ¬ (0 ≤ a2.toInt ∧ 0 ≤ a4.toInt ∧ 0 ≤ a5.toInt ∧ a2.toInt + a5.toInt ≤ (fob_many 0).toInt ∧ a4.toInt + a5.toInt ≤ (fob_many 1).toInt)) ∧ r = (-7) ∧ w = [(ce_X10 ob ob_thrown ob_world ob_images ob_hasImage ob_tape ob_taped ob_five ob_size ob_at ob_from ob_token ob_value ob_faultKind ob_faultPlace ob_fresh ob_parts ob_houses ob_houseMany ob_worthOf ob_byCall ob_over ob_bestSet ob_bestOver ob_bestWorth ob_row ob_tenDebts ob_tenMany ob_fewestBy ob_covered ob_queue ob_cameBy ob_parent ob_met ob_calls ob_callMany ob_calledOn ob_saved ob_many ob_width ob_numbers ob_moving), (ce_i4 y ob_many fob_many), (ce_i4 y ob_width fob_width), (ce_l240 y ob_numbers fob_numbers), (ce_l60 y ob_moving fob_moving)]) ∨ ((¬ (fob_many 0).toInt = -1 ∧ ¬ (fob_many 1).toInt = -1 ∧ ¬ (fob_width 0).toInt = (fob_width 1).toInt) ∧ r = (-8) ∧ w = [(ce_X10 ob ob_thrown ob_world ob_images ob_hasImage ob_tape ob_taped ob_five ob_size ob_at ob_from ob_token ob_value ob_faultKind ob_faultPlace ob_fresh ob_parts ob_houses ob_houseMany ob_worthOf ob_byCall ob_over ob_bestSet ob_bestOver ob_bestWorth ob_row ob_tenDebts ob_tenMany ob_fewestBy ob_covered ob_queue ob_cameBy ob_parent ob_met ob_calls ob_callMany ob_calledOn ob_saved ob_many ob_width ob_numbers ob_moving), (ce_i4 y ob_many fob_many), (ce_i4 y ob_width fob_width), (ce_l240 y ob_numbers fob_numbers), (ce_l60 y ob_moving fob_moving)]) ∨ (∃ (f_551 : Nat → Int64) (f_552 : Nat → Int64), ((0 : Int) ≤ a2.toInt ∧ a2.toInt ≤ 60) ∧ ((0 : Int) ≤ a4.toInt ∧ a4.toInt ≤ 60) ∧ ((0 : Int) ≤ a5.toInt ∧ a5.toInt ≤ 60) ∧ (¬ (fob_many 0).toInt = -1 ∧ ¬ (fob_many 1).toInt = -1 ∧ (fob_width 0).toInt = (fob_width 1).toInt ∧ 0 ≤ a2.toInt ∧ 0 ≤ a4.toInt ∧ 0 ≤ a5.toInt ∧ a2.toInt + a5.toInt ≤ (fob_many 0).toInt ∧ a4.toInt + a5.toInt ≤ (fob_many 1).toInt) ∧ r = 0 ∧ w = [(ce_X10 ob ob_thrown ob_world ob_images ob_hasImage ob_tape ob_taped ob_five ob_size ob_at ob_from ob_token ob_value ob_faultKind ob_faultPlace ob_fresh ob_parts ob_houses ob_houseMany ob_worthOf ob_byCall ob_over ob_bestSet ob_bestOver ob_bestWorth ob_row ob_tenDebts ob_tenMany ob_fewestBy ob_covered ob_queue ob_cameBy ob_parent ob_met ob_calls ob_callMany ob_calledOn ob_saved ob_many ob_width ob_numbers ob_moving), (ce_i4 y ob_many fob_many), (ce_i4 y ob_width fob_width), (ce_l240 y ob_numbers f_551), (ce_l60 y ob_moving f_552)])) (kq G (va_A [(ce_X10 ob ob_thrown ob_world ob_images ob_hasImage ob_tape ob_taped ob_five ob_size ob_at ob_from ob_token ob_value ob_faultKind ob_faultPlace ob_fresh ob_parts ob_houses ob_houseMany ob_worthOf ob_byCall ob_over ob_bestSet ob_bestOver ob_bestWorth ob_row ob_tenDebts ob_tenMany ob_fewestBy ob_covered ob_queue ob_cameBy ob_parent ob_met ob_calls ob_callMany ob_calledOn ob_saved ob_many ob_width ob_numbers ob_moving), (ce_i4 y ob_many fob_many), (ce_i4 y ob_width fob_width), (ce_l240 y ob_numbers fob_numbers), (ce_l60 y ob_moving fob_moving)] sz)) (va_A [(ce_X10 ob ob_thrown ob_world ob_images ob_hasImage ob_tape ob_taped ob_five ob_size ob_at ob_from ob_token ob_value ob_faultKind ob_faultPlace ob_fresh ob_parts ob_houses ob_houseMany ob_worthOf ob_byCall ob_over ob_bestSet ob_bestOver ob_bestWorth ob_row ob_tenDebts ob_tenMany ob_fewestBy ob_covered ob_queue ob_cameBy ob_parent ob_met ob_calls ob_callMany ob_calledOn ob_saved ob_many ob_width ob_numbers ob_moving), (ce_i4 y ob_many fob_many), (ce_i4 y ob_width fob_width), (ce_l240 y ob_numbers fob_numbers), (ce_l60 y ob_moving fob_moving)] sz)) 0 0 (va_A [(ce_X10 ob ob_thrown ob_world ob_images ob_hasImage ob_tape ob_taped ob_five ob_size ob_at ob_from ob_token ob_value ob_faultKind ob_faultPlace ob_fresh ob_parts ob_houses ob_houseMany ob_worthOf ob_byCall ob_over ob_bestSet ob_bestOver ob_bestWorth ob_row ob_tenDebts ob_tenMany ob_fewestBy ob_covered ob_queue ob_cameBy ob_parent ob_met ob_calls ob_callMany ob_calledOn ob_saved ob_many ob_width ob_numbers ob_moving), (ce_i4 y ob_many fob_many), (ce_i4 y ob_width fob_width), (ce_l240 y ob_numbers fob_numbers), (ce_l60 y ob_moving fob_moving)] sz) := by
  refine Met.ofW (cc := cX10_paste) (maxL := 7) (ret := (some .int)) (by decide) rfl ?_
  intro p e s m args below meth c s₁ B hml hv
  obtain ⟨rfl, hsz, hP, hK, hD0⟩ := hv
  have hx := B.exec
  have hb := B.bytes
  have hr := B.returns
  have hw0 : ∀ w ∈ wAll, w.before _ s = true := fun w h => atoms_spec (ws := Cond.code yX10_paste cX10_paste 7 (some .int) :: wAll) B.pre w (List.mem_cons_of_mem _ h)
  have hown : s.vm.findClass RX10 = some m.cls := findClass_of_methodNamed B.named
  subst hsz
  have hD := hD0.self (sz := s.heap.size)
  generalize hAe : va_A [(ce_X10 ob ob_thrown ob_world ob_images ob_hasImage ob_tape ob_taped ob_five ob_size ob_at ob_from ob_token ob_value ob_faultKind ob_faultPlace ob_fresh ob_parts ob_houses ob_houseMany ob_worthOf ob_byCall ob_over ob_bestSet ob_bestOver ob_bestWorth ob_row ob_tenDebts ob_tenMany ob_fewestBy ob_covered ob_queue ob_cameBy ob_parent ob_met ob_calls ob_callMany ob_calledOn ob_saved ob_many ob_width ob_numbers ob_moving), (ce_i4 y ob_many fob_many), (ce_i4 y ob_width fob_width), (ce_l240 y ob_numbers fob_numbers), (ce_l60 y ob_moving fob_moving)] s.heap.size = A at hD ⊢
  have hA : ∀ q : Nat, s.heap.size ≤ q → A q := fun q h => by rw [← hAe]; exact Or.inr h
  have hS : va_S A s.heap s.heap [] := va_S.rf
  have hP : va_P G vwCl [(ce_X10 ob ob_thrown ob_world ob_images ob_hasImage ob_tape ob_taped ob_five ob_size ob_at ob_from ob_token ob_value ob_faultKind ob_faultPlace ob_fresh ob_parts ob_houses ob_houseMany ob_worthOf ob_byCall ob_over ob_bestSet ob_bestOver ob_bestWorth ob_row ob_tenDebts ob_tenMany ob_fewestBy ob_covered ob_queue ob_cameBy ob_parent ob_met ob_calls ob_callMany ob_calledOn ob_saved ob_many ob_width ob_numbers ob_moving), (ce_i4 y ob_many fob_many), (ce_i4 y ob_width fob_width), (ce_l240 y ob_numbers fob_numbers), (ce_l60 y ob_moving fob_moving)] s.heap := hP
  have hl := lv_entry ([.ref ob, .int 0, .int a2, .int 1, .int a4, .int a5]) (n := 7) (Nat.le_of_ble_eq_true rfl)
  rw [lg_entry_eq]
  generalize (lg_sl ([.ref ob, .int 0, .int a2, .int 1, .int a4, .int a5]) ++ List.replicate (7 - (lg_sl ([.ref ob, .int 0, .int a2, .int 1, .int a4, .int a5])).length) Slot.unset).toArray = ls at hl ⊢
  have hl : lv_has ls 7 [(0, .ref ob), (1, .int 0), (2, .int a2), (3, .int 1), (4, .int a4), (5, .int a5)] := hl
  refine lv_iload_n hx hb dX10_paste_0 rfl (lv_at hl 1 rfl) ?_
  refine cSim (As := [.int 0]) (rest := []) ⟨hx, hb, hml, hown, hw0⟩ hA hK hP hD hS [] (fisSlotM l G y _ 0 ) rfl ⟨(callB_of 1 hw0 (gA m_543) rfl rfl rfl (hw0 _ m_41) (hw0 _ m_433) cb_X10_isSlot ⟨Nat.le_of_ble_eq_true rfl, Nat.le_of_ble_eq_true rfl⟩), (hw0 _ m_434)⟩ rfl hl.1 (Nat.le_of_ble_eq_true rfl) dX10_paste_1 ⟨Nat.le_of_ble_eq_true rfl, Nat.le_of_ble_eq_true rfl⟩ (fun r_1001 w_1001 H locs hw_1001 hP hD hS => ?_)
  rcases hw_1001 with ⟨h_1002, rfl, rfl⟩ | ⟨h_1003, h_1004, rfl, rfl⟩
  · skip
    exact False.elim (by have h9 : Int32.toInt 0 = 0 := (by decide); omega)
  · skip
    obtain ⟨hP, hD⟩ : vPD G A H [(ce_X10 ob ob_thrown ob_world ob_images ob_hasImage ob_tape ob_taped ob_five ob_size ob_at ob_from ob_token ob_value ob_faultKind ob_faultPlace ob_fresh ob_parts ob_houses ob_houseMany ob_worthOf ob_byCall ob_over ob_bestSet ob_bestOver ob_bestWorth ob_row ob_tenDebts ob_tenMany ob_fewestBy ob_covered ob_queue ob_cameBy ob_parent ob_met ob_calls ob_callMany ob_calledOn ob_saved ob_many ob_width ob_numbers ob_moving), (ce_i4 y ob_many fob_many), (ce_i4 y ob_width fob_width), (ce_l240 y ob_numbers fob_numbers), (ce_l60 y ob_moving fob_moving)] := ⟨hP, hD⟩
    refine lv_if_eq (tgt := 14) hx hb dX10_paste_4 (by decide) (fun c9 => absurd c9 (by decide)) (fun _ => ?_)
    refine lv_iload_n hx hb dX10_paste_7 rfl (lv_at hl 3 rfl) ?_
    refine cSim (As := [.int 1]) (rest := []) ⟨hx, hb, hml, hown, hw0⟩ hA hK hP hD hS [] (fisSlotM l G y _ 1 ) rfl ⟨(callB_of 1 hw0 (gA m_543) rfl rfl rfl (hw0 _ m_41) (hw0 _ m_433) cb_X10_isSlot ⟨Nat.le_of_ble_eq_true rfl, Nat.le_of_ble_eq_true rfl⟩), (hw0 _ m_434)⟩ rfl hl.1 (Nat.le_of_ble_eq_true rfl) dX10_paste_8 ⟨Nat.le_of_ble_eq_true rfl, Nat.le_of_ble_eq_true rfl⟩ (fun r_1005 w_1005 H locs hw_1005 hP hD hS => ?_)
    rcases hw_1005 with ⟨h_1006, rfl, rfl⟩ | ⟨h_1007, h_1008, rfl, rfl⟩
    · skip
      exact False.elim (by have h9 : Int32.toInt 1 = 1 := (by decide); omega)
    · skip
      obtain ⟨hP, hD⟩ : vPD G A H [(ce_X10 ob ob_thrown ob_world ob_images ob_hasImage ob_tape ob_taped ob_five ob_size ob_at ob_from ob_token ob_value ob_faultKind ob_faultPlace ob_fresh ob_parts ob_houses ob_houseMany ob_worthOf ob_byCall ob_over ob_bestSet ob_bestOver ob_bestWorth ob_row ob_tenDebts ob_tenMany ob_fewestBy ob_covered ob_queue ob_cameBy ob_parent ob_met ob_calls ob_callMany ob_calledOn ob_saved ob_many ob_width ob_numbers ob_moving), (ce_i4 y ob_many fob_many), (ce_i4 y ob_width fob_width), (ce_l240 y ob_numbers fob_numbers), (ce_l60 y ob_moving fob_moving)] := ⟨hP, hD⟩
      refine lv_if_ne (tgt := 17) hx hb dX10_paste_11 (by decide) (fun _ => ?_) (fun c9 => absurd c9 (by decide))
      refine lv_aload_n hx hb dX10_paste_17 rfl (lv_at hl 0 rfl) ?_
      refine va_get (D := G) (ci := 10) (v := .ref ob_many) (C := RX10) (T := TX10) (N := 41) hx hb hw0 inA_wsX100 hown hK.1 hP 0 rfl rfl 37 (by decide) (hw0 _ m_406) (fun _ h9 => h9) rfl dX10_paste_18 ?_
      refine lv_iload_n hx hb dX10_paste_21 rfl (lv_at hl 1 rfl) ?_
      refine va_iald hx hb hK.1 hP 1 1 rfl rfl (vi (bkc (x := 0) (c := 0) (by decide)) (by decide)) dX10_paste_22 ?_
      refine lv_topi (fun v_1009 ev_1009 => ?_)
      have bv_1009 : (-1 : Int) ≤ v_1009.toInt ∧ v_1009.toInt ≤ 60 := rd_b ev_1009 p_fob_many
      have yv_1009 : v_1009.toInt = (fob_many 0).toInt := congrArg Int32.toInt ev_1009
      refine lv_iconst (v := (-1)) hx hb dX10_paste_23 (by decide) ?_
      refine lv_icmp_eq (tgt := 37) hx hb dX10_paste_24 (by decide) (fun c_1010 => ?_) (fun c_1010 => ?_)
      · skip
        have nc_1010 := nb_eq (-1) (-1) c_1010 bv_1009 (bkc (x := (-1)) (c := -1) (by decide)) (by decide)
        refine lv_bipush (v := (-6)) hx hb dX10_paste_37 (by decide) ?_
        exact W.iret (v := (-6)) hx hb hr (fun t ht hW => ⟨⟨(-6), _, rfl, Or.inl (⟨by have h90 : Int32.toInt (-6) = -6 := (by decide); have h91 : Int32.toInt 0 = 0 := (by decide); have h92 : Int32.toInt 1 = 1 := (by decide); omega, rfl, rfl⟩), by rw [ht]; exact hP, hD⟩, hS.F ht⟩) hS.2.2 dX10_paste_39
      · skip
        have nc_1010 := nb_ne (0) (60) c_1010 bv_1009 (k := -1) (by decide) (by decide)
        refine lv_aload_n hx hb dX10_paste_27 rfl (lv_at hl 0 rfl) ?_
        refine va_get (D := G) (ci := 10) (v := .ref ob_many) (C := RX10) (T := TX10) (N := 41) hx hb hw0 inA_wsX100 hown hK.1 hP 0 rfl rfl 37 (by decide) (hw0 _ m_406) (fun _ h9 => h9) rfl dX10_paste_28 ?_
        refine lv_iload_n hx hb dX10_paste_31 rfl (lv_at hl 3 rfl) ?_
        refine va_iald hx hb hK.1 hP 1 1 rfl rfl (vi (bkc (x := 1) (c := 1) (by decide)) (by decide)) dX10_paste_32 ?_
        refine lv_topi (fun v_1011 ev_1011 => ?_)
        have bv_1011 : (-1 : Int) ≤ v_1011.toInt ∧ v_1011.toInt ≤ 60 := rd_b ev_1011 p_fob_many
        have yv_1011 : v_1011.toInt = (fob_many 1).toInt := congrArg Int32.toInt ev_1011
        refine lv_iconst (v := (-1)) hx hb dX10_paste_33 (by decide) ?_
        refine lv_icmp_ne (tgt := 40) hx hb dX10_paste_34 (by decide) (fun c_1012 => ?_) (fun c_1012 => ?_)
        · skip
          have nc_1012 := nb_ne (0) (60) c_1012 bv_1011 (k := -1) (by decide) (by decide)
          refine lv_aload_n hx hb dX10_paste_40 rfl (lv_at hl 0 rfl) ?_
          refine va_get (D := G) (ci := 10) (v := .ref ob_width) (C := RX10) (T := TX10) (N := 41) hx hb hw0 inA_wsX100 hown hK.1 hP 0 rfl rfl 38 (by decide) (hw0 _ m_527) (fun _ h9 => h9) rfl dX10_paste_41 ?_
          refine lv_iload_n hx hb dX10_paste_44 rfl (lv_at hl 1 rfl) ?_
          refine va_iald hx hb hK.1 hP 2 1 rfl rfl (vi (bkc (x := 0) (c := 0) (by decide)) (by decide)) dX10_paste_45 ?_
          refine lv_topi (fun v_1013 ev_1013 => ?_)
          have bv_1013 : (0 : Int) ≤ v_1013.toInt ∧ v_1013.toInt ≤ 3 := rd_b ev_1013 p_fob_width
          have yv_1013 : v_1013.toInt = (fob_width 0).toInt := congrArg Int32.toInt ev_1013
          refine lv_aload_n hx hb dX10_paste_46 rfl (lv_at hl 0 rfl) ?_
          refine va_get (D := G) (ci := 10) (v := .ref ob_width) (C := RX10) (T := TX10) (N := 41) hx hb hw0 inA_wsX100 hown hK.1 hP 0 rfl rfl 38 (by decide) (hw0 _ m_527) (fun _ h9 => h9) rfl dX10_paste_47 ?_
          refine lv_iload_n hx hb dX10_paste_50 rfl (lv_at hl 3 rfl) ?_
          refine va_iald hx hb hK.1 hP 2 1 rfl rfl (vi (bkc (x := 1) (c := 1) (by decide)) (by decide)) dX10_paste_51 ?_
          refine lv_topi (fun v_1014 ev_1014 => ?_)
          have bv_1014 : (0 : Int) ≤ v_1014.toInt ∧ v_1014.toInt ≤ 3 := rd_b ev_1014 p_fob_width
          have yv_1014 : v_1014.toInt = (fob_width 1).toInt := congrArg Int32.toInt ev_1014
          refine lv_icmp_eq (tgt := 58) hx hb dX10_paste_52 (by decide) (fun c_1015 => ?_) (fun c_1015 => ?_)
          · skip
            have nc_1015 := nb_eq (0) (3) c_1015 bv_1013 bv_1014 (by decide)
            refine lv_iload_n hx hb dX10_paste_58 rfl (lv_at hl 2 rfl) ?_
            refine lv_if_lt (tgt := 107) hx hb dX10_paste_59 (by decide) (fun c_1016 => ?_) (fun c_1016 => ?_)
            · skip
              have nc_1016 := nb_lt (-1) (0) c_1016 (btop a2) (bkc (x := 0) (c := 0) (by decide)) (by decide)
              refine lv_bipush (v := (-7)) hx hb dX10_paste_107 (by decide) ?_
              exact W.iret (v := (-7)) hx hb hr (fun t ht hW => ⟨⟨(-7), _, rfl, Or.inr (Or.inl (⟨by have h90 : Int32.toInt (-7) = -7 := (by decide); have h91 : Int32.toInt 0 = 0 := (by decide); have h92 : Int32.toInt 1 = 1 := (by decide); omega, rfl, rfl⟩)), by rw [ht]; exact hP, hD⟩, hS.F ht⟩) hS.2.2 dX10_paste_109
            · skip
              have nc_1016 := nb_nlt (0) (0) c_1016 (bkc (x := 0) (c := 0) (by decide)) (btop a2) (by decide)
              refine lv_iload hx hb dX10_paste_62 (lv_at hl 4 rfl) ?_
              refine lv_if_lt (tgt := 107) hx hb dX10_paste_64 (by decide) (fun c_1017 => ?_) (fun c_1017 => ?_)
              · skip
                have nc_1017 := nb_lt (-1) (0) c_1017 (btop a4) (bkc (x := 0) (c := 0) (by decide)) (by decide)
                refine lv_bipush (v := (-7)) hx hb dX10_paste_107 (by decide) ?_
                exact W.iret (v := (-7)) hx hb hr (fun t ht hW => ⟨⟨(-7), _, rfl, Or.inr (Or.inl (⟨by have h90 : Int32.toInt (-7) = -7 := (by decide); have h91 : Int32.toInt 0 = 0 := (by decide); have h92 : Int32.toInt 1 = 1 := (by decide); omega, rfl, rfl⟩)), by rw [ht]; exact hP, hD⟩, hS.F ht⟩) hS.2.2 dX10_paste_109
              · skip
                have nc_1017 := nb_nlt (0) (0) c_1017 (bkc (x := 0) (c := 0) (by decide)) (btop a4) (by decide)
                refine lv_iload hx hb dX10_paste_67 (lv_at hl 5 rfl) ?_
                refine lv_if_lt (tgt := 107) hx hb dX10_paste_69 (by decide) (fun c_1018 => ?_) (fun c_1018 => ?_)
                · skip
                  have nc_1018 := nb_lt (-1) (0) c_1018 (btop a5) (bkc (x := 0) (c := 0) (by decide)) (by decide)
                  refine lv_bipush (v := (-7)) hx hb dX10_paste_107 (by decide) ?_
                  exact W.iret (v := (-7)) hx hb hr (fun t ht hW => ⟨⟨(-7), _, rfl, Or.inr (Or.inl (⟨by have h90 : Int32.toInt (-7) = -7 := (by decide); have h91 : Int32.toInt 0 = 0 := (by decide); have h92 : Int32.toInt 1 = 1 := (by decide); omega, rfl, rfl⟩)), by rw [ht]; exact hP, hD⟩, hS.F ht⟩) hS.2.2 dX10_paste_109
                · skip
                  have nc_1018 := nb_nlt (0) (0) c_1018 (bkc (x := 0) (c := 0) (by decide)) (btop a5) (by decide)
                  refine lv_iload_n hx hb dX10_paste_72 rfl (lv_at hl 2 rfl) ?_
                  refine lv_i2l hx hb dX10_paste_73 rfl ?_
                  have kk_1019 : ((a2).toInt64).toInt = (a2).toInt := Int32.toInt_toInt64 _
                  refine lv_iload hx hb dX10_paste_74 (lv_at hl 5 rfl) ?_
                  refine lv_i2l hx hb dX10_paste_76 rfl ?_
                  have kk_1020 : ((a5).toInt64).toInt = (a5).toInt := Int32.toInt_toInt64 _
                  refine lv_ladd hx hb dX10_paste_77 ?_
                  refine lv_topl (fun v_1021 ev_1021 => ?_)
                  have qv_1021 := la_add ev_1021
                  refine lv_aload_n hx hb dX10_paste_78 rfl (lv_at hl 0 rfl) ?_
                  refine va_get (D := G) (ci := 10) (v := .ref ob_many) (C := RX10) (T := TX10) (N := 41) hx hb hw0 inA_wsX100 hown hK.1 hP 0 rfl rfl 37 (by decide) (hw0 _ m_406) (fun _ h9 => h9) rfl dX10_paste_79 ?_
                  refine lv_iload_n hx hb dX10_paste_82 rfl (lv_at hl 1 rfl) ?_
                  refine va_iald hx hb hK.1 hP 1 1 rfl rfl (vi (bkc (x := 0) (c := 0) (by decide)) (by decide)) dX10_paste_83 ?_
                  refine lv_topi (fun v_1022 ev_1022 => ?_)
                  obtain rfl : v_1009 = v_1022 := (ev_1022.trans (ev_1009.symm)).symm
                  refine lv_i2l hx hb dX10_paste_84 rfl ?_
                  have kk_1023 : ((v_1009).toInt64).toInt = (v_1009).toInt := Int32.toInt_toInt64 _
                  refine W.lcmp hx hb dX10_paste_85 ?_
                  refine lv_if_gt (tgt := 107) hx hb dX10_paste_86 (by decide) (fun c_1024 => ?_) (fun c_1024 => ?_)
                  · skip
                    have nc_1024 := jl_gt c_1024
                    refine lv_bipush (v := (-7)) hx hb dX10_paste_107 (by decide) ?_
                    exact W.iret (v := (-7)) hx hb hr (fun t ht hW => ⟨⟨(-7), _, rfl, Or.inr (Or.inl (⟨by have h90 : Int32.toInt (-7) = -7 := (by decide); have h91 : Int32.toInt 0 = 0 := (by decide); have h92 : Int32.toInt 1 = 1 := (by decide); omega, rfl, rfl⟩)), by rw [ht]; exact hP, hD⟩, hS.F ht⟩) hS.2.2 dX10_paste_109
                  · skip
                    have nc_1024 := jl_ngt c_1024
                    refine lv_iload hx hb dX10_paste_89 (lv_at hl 4 rfl) ?_
                    refine lv_i2l hx hb dX10_paste_91 rfl ?_
                    have kk_1025 : ((a4).toInt64).toInt = (a4).toInt := Int32.toInt_toInt64 _
                    refine lv_iload hx hb dX10_paste_92 (lv_at hl 5 rfl) ?_
                    refine lv_i2l hx hb dX10_paste_94 rfl ?_
                    have kk_1026 : ((a5).toInt64).toInt = (a5).toInt := Int32.toInt_toInt64 _
                    refine lv_ladd hx hb dX10_paste_95 ?_
                    refine lv_topl (fun v_1027 ev_1027 => ?_)
                    have qv_1027 := la_add ev_1027
                    refine lv_aload_n hx hb dX10_paste_96 rfl (lv_at hl 0 rfl) ?_
                    refine va_get (D := G) (ci := 10) (v := .ref ob_many) (C := RX10) (T := TX10) (N := 41) hx hb hw0 inA_wsX100 hown hK.1 hP 0 rfl rfl 37 (by decide) (hw0 _ m_406) (fun _ h9 => h9) rfl dX10_paste_97 ?_
                    refine lv_iload_n hx hb dX10_paste_100 rfl (lv_at hl 3 rfl) ?_
                    refine va_iald hx hb hK.1 hP 1 1 rfl rfl (vi (bkc (x := 1) (c := 1) (by decide)) (by decide)) dX10_paste_101 ?_
                    refine lv_topi (fun v_1028 ev_1028 => ?_)
                    obtain rfl : v_1011 = v_1028 := (ev_1028.trans (ev_1011.symm)).symm
                    refine lv_i2l hx hb dX10_paste_102 rfl ?_
                    have kk_1029 : ((v_1011).toInt64).toInt = (v_1011).toInt := Int32.toInt_toInt64 _
                    refine W.lcmp hx hb dX10_paste_103 ?_
                    refine lv_if_le (tgt := 110) hx hb dX10_paste_104 (by decide) (fun c_1030 => ?_) (fun c_1030 => ?_)
                    · skip
                      have nc_1030 := jl_le c_1030
                      have h_1031 : (0 : Int) ≤ a2.toInt ∧ a2.toInt ≤ 60 := by omega
                      have h_1032 : (0 : Int) ≤ a4.toInt ∧ a4.toInt ≤ 60 := by omega
                      have h_1033 : (0 : Int) ≤ a5.toInt ∧ a5.toInt ≤ 60 := by omega
                      refine lv_iconst (v := 0) hx hb dX10_paste_110 (by decide) ?_
                      refine lv_istore (lv' := [(6, .int 0), (0, .ref ob), (1, .int 0), (2, .int a2), (3, .int 1), (4, .int a4), (5, .int a5)]) hx hb dX10_paste_111 hl (by decide) rfl (fun ls hl => ?_)
                      refine loopX (fun n H locs ls st => ∃ (v_1139 : Int32) (f_1140 : Nat → Int64), (60 - v_1139.toInt).toNat = n ∧ ((0 : Int) ≤ v_1139.toInt ∧ v_1139.toInt ≤ 60) ∧ st = [] ∧ vPD G A H [(ce_X10 ob ob_thrown ob_world ob_images ob_hasImage ob_tape ob_taped ob_five ob_size ob_at ob_from ob_token ob_value ob_faultKind ob_faultPlace ob_fresh ob_parts ob_houses ob_houseMany ob_worthOf ob_byCall ob_over ob_bestSet ob_bestOver ob_bestWorth ob_row ob_tenDebts ob_tenMany ob_fewestBy ob_covered ob_queue ob_cameBy ob_parent ob_met ob_calls ob_callMany ob_calledOn ob_saved ob_many ob_width ob_numbers ob_moving), (ce_i4 y ob_many fob_many), (ce_i4 y ob_width fob_width), (ce_l240 y ob_numbers fob_numbers), (ce_l60 y ob_moving f_1140)] ∧ va_S A s.heap H locs ∧ lv_has ls 7 [(6, .int v_1139), (0, .ref ob), (1, .int 0), (2, .int a2), (3, .int 1), (4, .int a4), (5, .int a5)]) ?_ (n := (60 - (0 : Int32).toInt).toNat) ⟨0, fob_moving, rfl, (bw (0) (60) (bkc (x := 0) (c := 0) (by decide)) (by decide)), rfl, ⟨hP, hD⟩, hS, lv_sub hl [0, 1, 2, 3, 4, 5, 6] rfl⟩
                      rintro n ih_1147 H locs ls st ⟨v_1139, f_1140, hn_1147, bv_1139, rfl, ⟨hP, hD⟩, hS, hl⟩
                      refine lv_iload hx hb dX10_paste_113 (lv_at hl 0 rfl) ?_
                      refine lv_iload hx hb dX10_paste_115 (lv_at hl 6 rfl) ?_
                      refine lv_icmp_ge (tgt := 147) hx hb dX10_paste_117 (by decide) (fun c_1148 => ?_) (fun c_1148 => ?_)
                      · skip
                        have nc_1148 := nb_le (60) (0) c_1148 h_1033 bv_1139 (by decide)
                        refine lv_iconst (v := 0) hx hb dX10_paste_147 (by decide) ?_
                        refine lv_istore (lv' := [(6, .int 0), (0, .ref ob), (1, .int 0), (2, .int a2), (3, .int 1), (4, .int a4), (5, .int a5)]) hx hb dX10_paste_148 hl (by decide) rfl (fun ls hl => ?_)
                        refine loopX (fun n H locs ls st => ∃ (v_1254 : Int32) (f_1255 : Nat → Int64), (60 - v_1254.toInt).toNat = n ∧ ((0 : Int) ≤ v_1254.toInt ∧ v_1254.toInt ≤ 60) ∧ st = [] ∧ vPD G A H [(ce_X10 ob ob_thrown ob_world ob_images ob_hasImage ob_tape ob_taped ob_five ob_size ob_at ob_from ob_token ob_value ob_faultKind ob_faultPlace ob_fresh ob_parts ob_houses ob_houseMany ob_worthOf ob_byCall ob_over ob_bestSet ob_bestOver ob_bestWorth ob_row ob_tenDebts ob_tenMany ob_fewestBy ob_covered ob_queue ob_cameBy ob_parent ob_met ob_calls ob_callMany ob_calledOn ob_saved ob_many ob_width ob_numbers ob_moving), (ce_i4 y ob_many fob_many), (ce_i4 y ob_width fob_width), (ce_l240 y ob_numbers f_1255), (ce_l60 y ob_moving f_1140)] ∧ va_S A s.heap H locs ∧ lv_has ls 7 [(6, .int v_1254), (0, .ref ob), (3, .int 1), (4, .int a4), (5, .int a5)]) ?_ (n := (60 - (0 : Int32).toInt).toNat) ⟨0, fob_numbers, rfl, (bw (0) (60) (bkc (x := 0) (c := 0) (by decide)) (by decide)), rfl, ⟨hP, hD⟩, hS, lv_sub hl [0, 1, 4, 5, 6] rfl⟩
                        rintro n ih_1262 H locs ls st ⟨v_1254, f_1255, hn_1262, bv_1254, rfl, ⟨hP, hD⟩, hS, hl⟩
                        refine lv_iload hx hb dX10_paste_150 (lv_at hl 0 rfl) ?_
                        refine lv_iload hx hb dX10_paste_152 (lv_at hl 4 rfl) ?_
                        refine lv_icmp_ge (tgt := 185) hx hb dX10_paste_154 (by decide) (fun c_1263 => ?_) (fun c_1263 => ?_)
                        · skip
                          have nc_1263 := nb_le (60) (0) c_1263 nc_1148.1 bv_1254 (by decide)
                          refine lv_iconst (v := 0) hx hb dX10_paste_185 (by decide) ?_
                          exact W.iret (v := 0) hx hb hr (fun t ht hW => ⟨⟨0, _, rfl, Or.inr (Or.inr (Or.inr (⟨f_1255, f_1140, h_1031, h_1032, nc_1263.1, by have h90 : Int32.toInt 0 = 0 := (by decide); have h91 : Int32.toInt 1 = 1 := (by decide); omega, rfl, rfl⟩))), by rw [ht]; exact hP, hD⟩, hS.F ht⟩) hS.2.2 dX10_paste_186
                        · skip
                          have nc_1263 := nb_nle (59) (1) c_1263 bv_1254 nc_1148.1 (by decide)
                          refine lv_aload_n hx hb dX10_paste_157 rfl (lv_at hl 1 rfl) ?_
                          refine va_get (D := G) (ci := 10) (v := .ref ob_numbers) (C := RX10) (T := TX10) (N := 41) hx hb hw0 inA_wsX100 hown hK.1 hP 0 rfl rfl 39 (by decide) (hw0 _ m_435) (fun _ h9 => h9) rfl dX10_paste_158 ?_
                          refine lv_bipush (v := 60) hx hb dX10_paste_161 (by decide) ?_
                          refine lv_iload_n hx hb dX10_paste_163 rfl (lv_at hl 2 rfl) ?_
                          refine lv_imul hx hb dX10_paste_164 ?_
                          refine lv_topi (fun v_1264 ev_1264 => ?_)
                          obtain rfl : 60 = v_1264 := (ev_1264.trans (by decide)).symm
                          refine lv_iload hx hb dX10_paste_165 (lv_at hl 3 rfl) ?_
                          refine lv_iadd hx hb dX10_paste_167 ?_
                          refine lv_topi (fun v_1265 ev_1265 => ?_)
                          have qv_1265 := ba_add ev_1265 (bkc (x := 60) (c := 60) (by decide)) h_1032 (by decide)
                          have bv_1265 : (60 : Int) ≤ v_1265.toInt ∧ v_1265.toInt ≤ 120 := bq_add qv_1265 (bkc (x := 60) (c := 60) (by decide)) h_1032 _ _ (by decide)
                          have qv_1265 : v_1265.toInt = (60) + a4.toInt := qv_1265
                          refine lv_iload hx hb dX10_paste_168 (lv_at hl 0 rfl) ?_
                          refine lv_iadd hx hb dX10_paste_170 ?_
                          refine lv_topi (fun v_1266 ev_1266 => ?_)
                          have qv_1266 := ba_add ev_1266 bv_1265 nc_1263.1 (by decide)
                          have bv_1266 : (60 : Int) ≤ v_1266.toInt ∧ v_1266.toInt ≤ 179 := bq_add qv_1266 bv_1265 nc_1263.1 _ _ (by decide)
                          refine lv_aload_n hx hb dX10_paste_171 rfl (lv_at hl 1 rfl) ?_
                          refine va_get (D := G) (ci := 10) (v := .ref ob_moving) (C := RX10) (T := TX10) (N := 41) hx hb hw0 inA_wsX100 hown hK.1 hP 0 rfl rfl 40 (by decide) (hw0 _ m_529) (fun _ h9 => h9) rfl dX10_paste_172 ?_
                          refine lv_iload hx hb dX10_paste_175 (lv_at hl 0 rfl) ?_
                          refine va_lald hx hb hK.1 hP 4 2 rfl rfl (vi nc_1263.1 (by decide)) dX10_paste_177 ?_
                          refine lv_topl (fun v_1267 ev_1267 => ?_)
                          refine va_last hx hb hK.1 hP hD hS 3 2 rfl rfl (vi bv_1266 (by decide)) dX10_paste_178 (fun H locs hP hD hS => ?_)
                          generalize hf_1268 : (vp_updL f_1255 (v_1266 : Int32).toNatClampNeg v_1267) = f_1268 at hP hD
                          obtain ⟨hP, hD⟩ : vPD G A H [(ce_X10 ob ob_thrown ob_world ob_images ob_hasImage ob_tape ob_taped ob_five ob_size ob_at ob_from ob_token ob_value ob_faultKind ob_faultPlace ob_fresh ob_parts ob_houses ob_houseMany ob_worthOf ob_byCall ob_over ob_bestSet ob_bestOver ob_bestWorth ob_row ob_tenDebts ob_tenMany ob_fewestBy ob_covered ob_queue ob_cameBy ob_parent ob_met ob_calls ob_callMany ob_calledOn ob_saved ob_many ob_width ob_numbers ob_moving), (ce_i4 y ob_many fob_many), (ce_i4 y ob_width fob_width), (ce_l240 y ob_numbers f_1268), (ce_l60 y ob_moving f_1140)] := ⟨hP, hD⟩
                          obtain ⟨v_1269, ev_1269⟩ : ∃ z : Int32, z = v_1254 + 1 := ⟨_, rfl⟩
                          have qv_1269 := ba_add ev_1269 nc_1263.1 (bkc (x := 1) (c := 1) (by decide)) (by decide)
                          have bv_1269 : (1 : Int) ≤ v_1269.toInt ∧ v_1269.toInt ≤ 60 := bq_add qv_1269 nc_1263.1 (bkc (x := 1) (c := 1) (by decide)) _ _ (by decide)
                          have qv_1269 : v_1269.toInt = v_1254.toInt + (1) := qv_1269
                          refine lv_iinc (v := v_1269) (lv' := [(6, .int v_1269), (0, .ref ob), (3, .int 1), (4, .int a4), (5, .int a5)]) hx hb dX10_paste_179 hl (k := 0) rfl (ev_1269.symm) (by decide) rfl (fun ls hl => ?_)
                          refine lv_goto (tgt := 150) hx hb dX10_paste_182 (by decide) ?_
                          exact ih_1262 _ (ml_inc (hi := 60) hn_1262 qv_1269 (by decide) ((bw (0) (60) bv_1269 (by decide))).2) _ _ _ _ ⟨v_1269, f_1268, rfl, (bw (0) (60) bv_1269 (by decide)), rfl, ⟨hP, hD⟩, hS, lv_sub hl [0, 1, 2, 3, 4] rfl⟩
                      · skip
                        have nc_1148 := nb_nle (59) (1) c_1148 bv_1139 h_1033 (by decide)
                        refine lv_aload_n hx hb dX10_paste_120 rfl (lv_at hl 1 rfl) ?_
                        refine va_get (D := G) (ci := 10) (v := .ref ob_moving) (C := RX10) (T := TX10) (N := 41) hx hb hw0 inA_wsX100 hown hK.1 hP 0 rfl rfl 40 (by decide) (hw0 _ m_529) (fun _ h9 => h9) rfl dX10_paste_121 ?_
                        refine lv_iload hx hb dX10_paste_124 (lv_at hl 0 rfl) ?_
                        refine lv_aload_n hx hb dX10_paste_126 rfl (lv_at hl 1 rfl) ?_
                        refine va_get (D := G) (ci := 10) (v := .ref ob_numbers) (C := RX10) (T := TX10) (N := 41) hx hb hw0 inA_wsX100 hown hK.1 hP 0 rfl rfl 39 (by decide) (hw0 _ m_435) (fun _ h9 => h9) rfl dX10_paste_127 ?_
                        refine lv_bipush (v := 60) hx hb dX10_paste_130 (by decide) ?_
                        refine lv_iload_n hx hb dX10_paste_132 rfl (lv_at hl 2 rfl) ?_
                        refine lv_imul hx hb dX10_paste_133 ?_
                        refine lv_topi (fun v_1270 ev_1270 => ?_)
                        obtain rfl : 0 = v_1270 := (ev_1270.trans (by decide)).symm
                        refine lv_iload_n hx hb dX10_paste_134 rfl (lv_at hl 3 rfl) ?_
                        refine lv_iadd hx hb dX10_paste_135 ?_
                        refine lv_topi (fun v_1271 ev_1271 => ?_)
                        have qv_1271 := ba_add ev_1271 (bkc (x := 0) (c := 0) (by decide)) h_1031 (by decide)
                        have bv_1271 : (0 : Int) ≤ v_1271.toInt ∧ v_1271.toInt ≤ 60 := bq_add qv_1271 (bkc (x := 0) (c := 0) (by decide)) h_1031 _ _ (by decide)
                        have qv_1271 : v_1271.toInt = (0) + a2.toInt := qv_1271
                        refine lv_iload hx hb dX10_paste_136 (lv_at hl 0 rfl) ?_
                        refine lv_iadd hx hb dX10_paste_138 ?_
                        refine lv_topi (fun v_1272 ev_1272 => ?_)
                        have qv_1272 := ba_add ev_1272 bv_1271 nc_1148.1 (by decide)
                        have bv_1272 : (0 : Int) ≤ v_1272.toInt ∧ v_1272.toInt ≤ 119 := bq_add qv_1272 bv_1271 nc_1148.1 _ _ (by decide)
                        refine va_lald hx hb hK.1 hP 3 2 rfl rfl (vi bv_1272 (by decide)) dX10_paste_139 ?_
                        refine lv_topl (fun v_1273 ev_1273 => ?_)
                        refine va_last hx hb hK.1 hP hD hS 4 2 rfl rfl (vi nc_1148.1 (by decide)) dX10_paste_140 (fun H locs hP hD hS => ?_)
                        generalize hf_1274 : (vp_updL f_1140 (v_1139 : Int32).toNatClampNeg v_1273) = f_1274 at hP hD
                        obtain ⟨hP, hD⟩ : vPD G A H [(ce_X10 ob ob_thrown ob_world ob_images ob_hasImage ob_tape ob_taped ob_five ob_size ob_at ob_from ob_token ob_value ob_faultKind ob_faultPlace ob_fresh ob_parts ob_houses ob_houseMany ob_worthOf ob_byCall ob_over ob_bestSet ob_bestOver ob_bestWorth ob_row ob_tenDebts ob_tenMany ob_fewestBy ob_covered ob_queue ob_cameBy ob_parent ob_met ob_calls ob_callMany ob_calledOn ob_saved ob_many ob_width ob_numbers ob_moving), (ce_i4 y ob_many fob_many), (ce_i4 y ob_width fob_width), (ce_l240 y ob_numbers fob_numbers), (ce_l60 y ob_moving f_1274)] := ⟨hP, hD⟩
                        obtain ⟨v_1275, ev_1275⟩ : ∃ z : Int32, z = v_1139 + 1 := ⟨_, rfl⟩
                        have qv_1275 := ba_add ev_1275 nc_1148.1 (bkc (x := 1) (c := 1) (by decide)) (by decide)
                        have bv_1275 : (1 : Int) ≤ v_1275.toInt ∧ v_1275.toInt ≤ 60 := bq_add qv_1275 nc_1148.1 (bkc (x := 1) (c := 1) (by decide)) _ _ (by decide)
                        have qv_1275 : v_1275.toInt = v_1139.toInt + (1) := qv_1275
                        refine lv_iinc (v := v_1275) (lv' := [(6, .int v_1275), (0, .ref ob), (1, .int 0), (2, .int a2), (3, .int 1), (4, .int a4), (5, .int a5)]) hx hb dX10_paste_141 hl (k := 0) rfl (ev_1275.symm) (by decide) rfl (fun ls hl => ?_)
                        refine lv_goto (tgt := 113) hx hb dX10_paste_144 (by decide) ?_
                        exact ih_1147 _ (ml_inc (hi := 60) hn_1147 qv_1275 (by decide) ((bw (0) (60) bv_1275 (by decide))).2) _ _ _ _ ⟨v_1275, f_1274, rfl, (bw (0) (60) bv_1275 (by decide)), rfl, ⟨hP, hD⟩, hS, lv_sub hl [0, 1, 2, 3, 4, 5, 6] rfl⟩
                    · skip
                      have nc_1030 := jl_nle c_1030
                      refine lv_bipush (v := (-7)) hx hb dX10_paste_107 (by decide) ?_
                      exact W.iret (v := (-7)) hx hb hr (fun t ht hW => ⟨⟨(-7), _, rfl, Or.inr (Or.inl (⟨by have h90 : Int32.toInt (-7) = -7 := (by decide); have h91 : Int32.toInt 0 = 0 := (by decide); have h92 : Int32.toInt 1 = 1 := (by decide); omega, rfl, rfl⟩)), by rw [ht]; exact hP, hD⟩, hS.F ht⟩) hS.2.2 dX10_paste_109
          · skip
            have nc_1015 : v_1013.toInt ≠ v_1014.toInt := fun h9 => c_1015 (Int32.toInt_inj.mp h9)
            refine lv_bipush (v := (-8)) hx hb dX10_paste_55 (by decide) ?_
            exact W.iret (v := (-8)) hx hb hr (fun t ht hW => ⟨⟨(-8), _, rfl, Or.inr (Or.inr (Or.inl (⟨by have h90 : Int32.toInt (-8) = -8 := (by decide); have h91 : Int32.toInt 0 = 0 := (by decide); have h92 : Int32.toInt 1 = 1 := (by decide); omega, rfl, rfl⟩))), by rw [ht]; exact hP, hD⟩, hS.F ht⟩) hS.2.2 dX10_paste_57
        · skip
          have nc_1012 := nb_eq (-1) (-1) c_1012 bv_1011 (bkc (x := (-1)) (c := -1) (by decide)) (by decide)
          refine lv_bipush (v := (-6)) hx hb dX10_paste_37 (by decide) ?_
          exact W.iret (v := (-6)) hx hb hr (fun t ht hW => ⟨⟨(-6), _, rfl, Or.inl (⟨by have h90 : Int32.toInt (-6) = -6 := (by decide); have h91 : Int32.toInt 0 = 0 := (by decide); have h92 : Int32.toInt 1 = 1 := (by decide); omega, rfl, rfl⟩), by rw [ht]; exact hP, hD⟩, hS.F ht⟩) hS.2.2 dX10_paste_39

set_option maxHeartbeats 4000000 in
set_option maxRecDepth 100000 in
theorem fpasteM02 (l : Launch) (G : va_G) (y : Nat → ClassId) (sz : Nat) (ob : Nat) (a2 : Int32) (a4 : Int32) (a5 : Int32) (ob_thrown : Int32) (ob_world : Nat) (ob_images : Nat) (ob_hasImage : Nat) (ob_tape : Nat) (ob_taped : Int32) (ob_five : Nat) (ob_size : Int32) (ob_at : Int32) (ob_from : Int32) (ob_token : Int32) (ob_value : Int32) (ob_faultKind : Int32) (ob_faultPlace : Int32) (ob_fresh : Nat) (ob_parts : Nat) (ob_houses : Nat) (ob_houseMany : Int32) (ob_worthOf : Nat) (ob_byCall : Nat) (ob_over : Nat) (ob_bestSet : Int32) (ob_bestOver : Int32) (ob_bestWorth : Int32) (ob_row : Nat) (ob_tenDebts : Nat) (ob_tenMany : Int32) (ob_fewestBy : Nat) (ob_covered : Nat) (ob_queue : Nat) (ob_cameBy : Nat) (ob_parent : Nat) (ob_met : Nat) (ob_calls : Nat) (ob_callMany : Int32) (ob_calledOn : Nat) (ob_saved : Nat) (ob_many : Nat) (ob_width : Nat) (ob_numbers : Nat) (ob_moving : Nat) (fob_many : Nat → Int32) (fob_width : Nat → Int32) (fob_numbers : Nat → Int64) (fob_moving : Nat → Int64) (p_ob_taped : (0 : Int) ≤ ob_taped.toInt ∧ ob_taped.toInt ≤ 1400) (p_ob_size : (0 : Int) ≤ ob_size.toInt ∧ ob_size.toInt ≤ 1400) (p_ob_at : (0 : Int) ≤ ob_at.toInt ∧ ob_at.toInt ≤ 1400) (p_ob_from : (0 : Int) ≤ ob_from.toInt ∧ ob_from.toInt ≤ 1400) (p_ob_token : (0 : Int) ≤ ob_token.toInt ∧ ob_token.toInt ≤ 4) (p_ob_value : (0 : Int) ≤ ob_value.toInt ∧ ob_value.toInt ≤ 9999) (p_ob_faultKind : (0 : Int) ≤ ob_faultKind.toInt ∧ ob_faultKind.toInt ≤ 3) (p_ob_houseMany : (0 : Int) ≤ ob_houseMany.toInt ∧ ob_houseMany.toInt ≤ 10) (p_ob_bestSet : (0 : Int) ≤ ob_bestSet.toInt ∧ ob_bestSet.toInt ≤ 1023) (p_ob_bestOver : (-1 : Int) ≤ ob_bestOver.toInt ∧ ob_bestOver.toInt ≤ 180) (p_ob_tenMany : (0 : Int) ≤ ob_tenMany.toInt ∧ ob_tenMany.toInt ≤ 10) (p_ob_callMany : (0 : Int) ≤ ob_callMany.toInt ∧ ob_callMany.toInt ≤ 16) (p_fob_many : ∀ i, (-1 : Int) ≤ (fob_many i).toInt ∧ (fob_many i).toInt ≤ 60) (p_fob_width : ∀ i, (0 : Int) ≤ (fob_width i).toInt ∧ (fob_width i).toInt ≤ 3) : Met l yX10_paste (Cond.code yX10_paste cX10_paste 7 (some .int) :: wAll) ({ frames := 2, cells := 0, slots := 0, locals := 45 }) (va_Pc [.ref ob, .int 0, .int a2, .int 2, .int a4, .int a5] (kp G y sz [(ce_X10 ob ob_thrown ob_world ob_images ob_hasImage ob_tape ob_taped ob_five ob_size ob_at ob_from ob_token ob_value ob_faultKind ob_faultPlace ob_fresh ob_parts ob_houses ob_houseMany ob_worthOf ob_byCall ob_over ob_bestSet ob_bestOver ob_bestWorth ob_row ob_tenDebts ob_tenMany ob_fewestBy ob_covered ob_queue ob_cameBy ob_parent ob_met ob_calls ob_callMany ob_calledOn ob_saved ob_many ob_width ob_numbers ob_moving), (ce_i4 y ob_many fob_many), (ce_i4 y ob_width fob_width), (ce_l240 y ob_numbers fob_numbers), (ce_l60 y ob_moving fob_moving)])) (va_Qi (fun (r : Int32) (w : va_W) => (((fob_many 0).toInt = -1 ∨ (fob_many 2).toInt = -1) ∧ r = (-6) ∧ w = [(ce_X10 ob ob_thrown ob_world ob_images ob_hasImage ob_tape ob_taped ob_five ob_size ob_at ob_from ob_token ob_value ob_faultKind ob_faultPlace ob_fresh ob_parts ob_houses ob_houseMany ob_worthOf ob_byCall ob_over ob_bestSet ob_bestOver ob_bestWorth ob_row ob_tenDebts ob_tenMany ob_fewestBy ob_covered ob_queue ob_cameBy ob_parent ob_met ob_calls ob_callMany ob_calledOn ob_saved ob_many ob_width ob_numbers ob_moving), (ce_i4 y ob_many fob_many), (ce_i4 y ob_width fob_width), (ce_l240 y ob_numbers fob_numbers), (ce_l60 y ob_moving fob_moving)]) ∨ ((¬ (fob_many 0).toInt = -1 ∧ ¬ (fob_many 2).toInt = -1 ∧ (fob_width 0).toInt = (fob_width 2).toInt ∧ ¬ (0 ≤ a2.toInt ∧ 0 ≤ a4.toInt ∧ 0 ≤ a5.toInt ∧ a2.toInt + a5.toInt ≤ (fob_many 0).toInt ∧ a4.toInt + a5.toInt ≤ (fob_many 2).toInt)) ∧ r = (-7) ∧ w = [(ce_X10 ob ob_thrown ob_world ob_images ob_hasImage ob_tape ob_taped ob_five ob_size ob_at ob_from ob_token ob_value ob_faultKind ob_faultPlace ob_fresh ob_parts ob_houses ob_houseMany ob_worthOf ob_byCall ob_over ob_bestSet ob_bestOver ob_bestWorth ob_row ob_tenDebts ob_tenMany ob_fewestBy ob_covered ob_queue ob_cameBy ob_parent ob_met ob_calls ob_callMany ob_calledOn ob_saved ob_many ob_width ob_numbers ob_moving), (ce_i4 y ob_many fob_many), (ce_i4 y ob_width fob_width), (ce_l240 y ob_numbers fob_numbers), (ce_l60 y ob_moving fob_moving)]) ∨ ((¬ (fob_many 0).toInt = -1 ∧ ¬ (fob_many 2).toInt = -1 ∧ ¬ (fob_width 0).toInt = (fob_width 2).toInt) ∧ r = (-8) ∧ w = [(ce_X10 ob ob_thrown ob_world ob_images ob_hasImage ob_tape ob_taped ob_five ob_size ob_at ob_from ob_token ob_value ob_faultKind ob_faultPlace ob_fresh ob_parts ob_houses ob_houseMany ob_worthOf ob_byCall ob_over ob_bestSet ob_bestOver ob_bestWorth ob_row ob_tenDebts ob_tenMany ob_fewestBy ob_covered ob_queue ob_cameBy ob_parent ob_met ob_calls ob_callMany ob_calledOn ob_saved ob_many ob_width ob_numbers ob_moving), (ce_i4 y ob_many fob_many), (ce_i4 y ob_width fob_width), (ce_l240 y ob_numbers fob_numbers), (ce_l60 y ob_moving fob_moving)]) ∨ (∃ (f_551 : Nat → Int64) (f_552 : Nat → Int64), ((0 : Int) ≤ a2.toInt ∧ a2.toInt ≤ 60) ∧ ((0 : Int) ≤ a4.toInt ∧ a4.toInt ≤ 60) ∧ ((0 : Int) ≤ a5.toInt ∧ a5.toInt ≤ 60) ∧ (¬ (fob_many 0).toInt = -1 ∧ ¬ (fob_many 2).toInt = -1 ∧ (fob_width 0).toInt = (fob_width 2).toInt ∧ 0 ≤ a2.toInt ∧ 0 ≤ a4.toInt ∧ 0 ≤ a5.toInt ∧ a2.toInt + a5.toInt ≤ (fob_many 0).toInt ∧ a4.toInt + a5.toInt ≤ (fob_many 2).toInt) ∧ r = 0 ∧ w = [(ce_X10 ob ob_thrown ob_world ob_images ob_hasImage ob_tape ob_taped ob_five ob_size ob_at ob_from ob_token ob_value ob_faultKind ob_faultPlace ob_fresh ob_parts ob_houses ob_houseMany ob_worthOf ob_byCall ob_over ob_bestSet ob_bestOver ob_bestWorth ob_row ob_tenDebts ob_tenMany ob_fewestBy ob_covered ob_queue ob_cameBy ob_parent ob_met ob_calls ob_callMany ob_calledOn ob_saved ob_many ob_width ob_numbers ob_moving), (ce_i4 y ob_many fob_many), (ce_i4 y ob_width fob_width), (ce_l240 y ob_numbers f_551), (ce_l60 y ob_moving f_552)])) (kq G (va_A [(ce_X10 ob ob_thrown ob_world ob_images ob_hasImage ob_tape ob_taped ob_five ob_size ob_at ob_from ob_token ob_value ob_faultKind ob_faultPlace ob_fresh ob_parts ob_houses ob_houseMany ob_worthOf ob_byCall ob_over ob_bestSet ob_bestOver ob_bestWorth ob_row ob_tenDebts ob_tenMany ob_fewestBy ob_covered ob_queue ob_cameBy ob_parent ob_met ob_calls ob_callMany ob_calledOn ob_saved ob_many ob_width ob_numbers ob_moving), (ce_i4 y ob_many fob_many), (ce_i4 y ob_width fob_width), (ce_l240 y ob_numbers fob_numbers), (ce_l60 y ob_moving fob_moving)] sz)) (va_A [(ce_X10 ob ob_thrown ob_world ob_images ob_hasImage ob_tape ob_taped ob_five ob_size ob_at ob_from ob_token ob_value ob_faultKind ob_faultPlace ob_fresh ob_parts ob_houses ob_houseMany ob_worthOf ob_byCall ob_over ob_bestSet ob_bestOver ob_bestWorth ob_row ob_tenDebts ob_tenMany ob_fewestBy ob_covered ob_queue ob_cameBy ob_parent ob_met ob_calls ob_callMany ob_calledOn ob_saved ob_many ob_width ob_numbers ob_moving), (ce_i4 y ob_many fob_many), (ce_i4 y ob_width fob_width), (ce_l240 y ob_numbers fob_numbers), (ce_l60 y ob_moving fob_moving)] sz)) 0 0 (va_A [(ce_X10 ob ob_thrown ob_world ob_images ob_hasImage ob_tape ob_taped ob_five ob_size ob_at ob_from ob_token ob_value ob_faultKind ob_faultPlace ob_fresh ob_parts ob_houses ob_houseMany ob_worthOf ob_byCall ob_over ob_bestSet ob_bestOver ob_bestWorth ob_row ob_tenDebts ob_tenMany ob_fewestBy ob_covered ob_queue ob_cameBy ob_parent ob_met ob_calls ob_callMany ob_calledOn ob_saved ob_many ob_width ob_numbers ob_moving), (ce_i4 y ob_many fob_many), (ce_i4 y ob_width fob_width), (ce_l240 y ob_numbers fob_numbers), (ce_l60 y ob_moving fob_moving)] sz) := by
  refine Met.ofW (cc := cX10_paste) (maxL := 7) (ret := (some .int)) (by decide) rfl ?_
  intro p e s m args below meth c s₁ B hml hv
  obtain ⟨rfl, hsz, hP, hK, hD0⟩ := hv
  have hx := B.exec
  have hb := B.bytes
  have hr := B.returns
  have hw0 : ∀ w ∈ wAll, w.before _ s = true := fun w h => atoms_spec (ws := Cond.code yX10_paste cX10_paste 7 (some .int) :: wAll) B.pre w (List.mem_cons_of_mem _ h)
  have hown : s.vm.findClass RX10 = some m.cls := findClass_of_methodNamed B.named
  subst hsz
  have hD := hD0.self (sz := s.heap.size)
  generalize hAe : va_A [(ce_X10 ob ob_thrown ob_world ob_images ob_hasImage ob_tape ob_taped ob_five ob_size ob_at ob_from ob_token ob_value ob_faultKind ob_faultPlace ob_fresh ob_parts ob_houses ob_houseMany ob_worthOf ob_byCall ob_over ob_bestSet ob_bestOver ob_bestWorth ob_row ob_tenDebts ob_tenMany ob_fewestBy ob_covered ob_queue ob_cameBy ob_parent ob_met ob_calls ob_callMany ob_calledOn ob_saved ob_many ob_width ob_numbers ob_moving), (ce_i4 y ob_many fob_many), (ce_i4 y ob_width fob_width), (ce_l240 y ob_numbers fob_numbers), (ce_l60 y ob_moving fob_moving)] s.heap.size = A at hD ⊢
  have hA : ∀ q : Nat, s.heap.size ≤ q → A q := fun q h => by rw [← hAe]; exact Or.inr h
  have hS : va_S A s.heap s.heap [] := va_S.rf
  have hP : va_P G vwCl [(ce_X10 ob ob_thrown ob_world ob_images ob_hasImage ob_tape ob_taped ob_five ob_size ob_at ob_from ob_token ob_value ob_faultKind ob_faultPlace ob_fresh ob_parts ob_houses ob_houseMany ob_worthOf ob_byCall ob_over ob_bestSet ob_bestOver ob_bestWorth ob_row ob_tenDebts ob_tenMany ob_fewestBy ob_covered ob_queue ob_cameBy ob_parent ob_met ob_calls ob_callMany ob_calledOn ob_saved ob_many ob_width ob_numbers ob_moving), (ce_i4 y ob_many fob_many), (ce_i4 y ob_width fob_width), (ce_l240 y ob_numbers fob_numbers), (ce_l60 y ob_moving fob_moving)] s.heap := hP
  have hl := lv_entry ([.ref ob, .int 0, .int a2, .int 2, .int a4, .int a5]) (n := 7) (Nat.le_of_ble_eq_true rfl)
  rw [lg_entry_eq]
  generalize (lg_sl ([.ref ob, .int 0, .int a2, .int 2, .int a4, .int a5]) ++ List.replicate (7 - (lg_sl ([.ref ob, .int 0, .int a2, .int 2, .int a4, .int a5])).length) Slot.unset).toArray = ls at hl ⊢
  have hl : lv_has ls 7 [(0, .ref ob), (1, .int 0), (2, .int a2), (3, .int 2), (4, .int a4), (5, .int a5)] := hl
  refine lv_iload_n hx hb dX10_paste_0 rfl (lv_at hl 1 rfl) ?_
  refine cSim (As := [.int 0]) (rest := []) ⟨hx, hb, hml, hown, hw0⟩ hA hK hP hD hS [] (fisSlotM l G y _ 0 ) rfl ⟨(callB_of 1 hw0 (gA m_543) rfl rfl rfl (hw0 _ m_41) (hw0 _ m_433) cb_X10_isSlot ⟨Nat.le_of_ble_eq_true rfl, Nat.le_of_ble_eq_true rfl⟩), (hw0 _ m_434)⟩ rfl hl.1 (Nat.le_of_ble_eq_true rfl) dX10_paste_1 ⟨Nat.le_of_ble_eq_true rfl, Nat.le_of_ble_eq_true rfl⟩ (fun r_1001 w_1001 H locs hw_1001 hP hD hS => ?_)
  rcases hw_1001 with ⟨h_1002, rfl, rfl⟩ | ⟨h_1003, h_1004, rfl, rfl⟩
  · skip
    exact False.elim (by have h9 : Int32.toInt 0 = 0 := (by decide); omega)
  · skip
    obtain ⟨hP, hD⟩ : vPD G A H [(ce_X10 ob ob_thrown ob_world ob_images ob_hasImage ob_tape ob_taped ob_five ob_size ob_at ob_from ob_token ob_value ob_faultKind ob_faultPlace ob_fresh ob_parts ob_houses ob_houseMany ob_worthOf ob_byCall ob_over ob_bestSet ob_bestOver ob_bestWorth ob_row ob_tenDebts ob_tenMany ob_fewestBy ob_covered ob_queue ob_cameBy ob_parent ob_met ob_calls ob_callMany ob_calledOn ob_saved ob_many ob_width ob_numbers ob_moving), (ce_i4 y ob_many fob_many), (ce_i4 y ob_width fob_width), (ce_l240 y ob_numbers fob_numbers), (ce_l60 y ob_moving fob_moving)] := ⟨hP, hD⟩
    refine lv_if_eq (tgt := 14) hx hb dX10_paste_4 (by decide) (fun c9 => absurd c9 (by decide)) (fun _ => ?_)
    refine lv_iload_n hx hb dX10_paste_7 rfl (lv_at hl 3 rfl) ?_
    refine cSim (As := [.int 2]) (rest := []) ⟨hx, hb, hml, hown, hw0⟩ hA hK hP hD hS [] (fisSlotM l G y _ 2 ) rfl ⟨(callB_of 1 hw0 (gA m_543) rfl rfl rfl (hw0 _ m_41) (hw0 _ m_433) cb_X10_isSlot ⟨Nat.le_of_ble_eq_true rfl, Nat.le_of_ble_eq_true rfl⟩), (hw0 _ m_434)⟩ rfl hl.1 (Nat.le_of_ble_eq_true rfl) dX10_paste_8 ⟨Nat.le_of_ble_eq_true rfl, Nat.le_of_ble_eq_true rfl⟩ (fun r_1005 w_1005 H locs hw_1005 hP hD hS => ?_)
    rcases hw_1005 with ⟨h_1006, rfl, rfl⟩ | ⟨h_1007, h_1008, rfl, rfl⟩
    · skip
      exact False.elim (by have h9 : Int32.toInt 2 = 2 := (by decide); omega)
    · skip
      obtain ⟨hP, hD⟩ : vPD G A H [(ce_X10 ob ob_thrown ob_world ob_images ob_hasImage ob_tape ob_taped ob_five ob_size ob_at ob_from ob_token ob_value ob_faultKind ob_faultPlace ob_fresh ob_parts ob_houses ob_houseMany ob_worthOf ob_byCall ob_over ob_bestSet ob_bestOver ob_bestWorth ob_row ob_tenDebts ob_tenMany ob_fewestBy ob_covered ob_queue ob_cameBy ob_parent ob_met ob_calls ob_callMany ob_calledOn ob_saved ob_many ob_width ob_numbers ob_moving), (ce_i4 y ob_many fob_many), (ce_i4 y ob_width fob_width), (ce_l240 y ob_numbers fob_numbers), (ce_l60 y ob_moving fob_moving)] := ⟨hP, hD⟩
      refine lv_if_ne (tgt := 17) hx hb dX10_paste_11 (by decide) (fun _ => ?_) (fun c9 => absurd c9 (by decide))
      refine lv_aload_n hx hb dX10_paste_17 rfl (lv_at hl 0 rfl) ?_
      refine va_get (D := G) (ci := 10) (v := .ref ob_many) (C := RX10) (T := TX10) (N := 41) hx hb hw0 inA_wsX100 hown hK.1 hP 0 rfl rfl 37 (by decide) (hw0 _ m_406) (fun _ h9 => h9) rfl dX10_paste_18 ?_
      refine lv_iload_n hx hb dX10_paste_21 rfl (lv_at hl 1 rfl) ?_
      refine va_iald hx hb hK.1 hP 1 1 rfl rfl (vi (bkc (x := 0) (c := 0) (by decide)) (by decide)) dX10_paste_22 ?_
      refine lv_topi (fun v_1009 ev_1009 => ?_)
      have bv_1009 : (-1 : Int) ≤ v_1009.toInt ∧ v_1009.toInt ≤ 60 := rd_b ev_1009 p_fob_many
      have yv_1009 : v_1009.toInt = (fob_many 0).toInt := congrArg Int32.toInt ev_1009
      refine lv_iconst (v := (-1)) hx hb dX10_paste_23 (by decide) ?_
      refine lv_icmp_eq (tgt := 37) hx hb dX10_paste_24 (by decide) (fun c_1010 => ?_) (fun c_1010 => ?_)
      · skip
        have nc_1010 := nb_eq (-1) (-1) c_1010 bv_1009 (bkc (x := (-1)) (c := -1) (by decide)) (by decide)
        refine lv_bipush (v := (-6)) hx hb dX10_paste_37 (by decide) ?_
        exact W.iret (v := (-6)) hx hb hr (fun t ht hW => ⟨⟨(-6), _, rfl, Or.inl (⟨by have h90 : Int32.toInt (-6) = -6 := (by decide); have h91 : Int32.toInt 0 = 0 := (by decide); have h92 : Int32.toInt 2 = 2 := (by decide); omega, rfl, rfl⟩), by rw [ht]; exact hP, hD⟩, hS.F ht⟩) hS.2.2 dX10_paste_39
      · skip
        have nc_1010 := nb_ne (0) (60) c_1010 bv_1009 (k := -1) (by decide) (by decide)
        refine lv_aload_n hx hb dX10_paste_27 rfl (lv_at hl 0 rfl) ?_
        refine va_get (D := G) (ci := 10) (v := .ref ob_many) (C := RX10) (T := TX10) (N := 41) hx hb hw0 inA_wsX100 hown hK.1 hP 0 rfl rfl 37 (by decide) (hw0 _ m_406) (fun _ h9 => h9) rfl dX10_paste_28 ?_
        refine lv_iload_n hx hb dX10_paste_31 rfl (lv_at hl 3 rfl) ?_
        refine va_iald hx hb hK.1 hP 1 1 rfl rfl (vi (bkc (x := 2) (c := 2) (by decide)) (by decide)) dX10_paste_32 ?_
        refine lv_topi (fun v_1011 ev_1011 => ?_)
        have bv_1011 : (-1 : Int) ≤ v_1011.toInt ∧ v_1011.toInt ≤ 60 := rd_b ev_1011 p_fob_many
        have yv_1011 : v_1011.toInt = (fob_many 2).toInt := congrArg Int32.toInt ev_1011
        refine lv_iconst (v := (-1)) hx hb dX10_paste_33 (by decide) ?_
        refine lv_icmp_ne (tgt := 40) hx hb dX10_paste_34 (by decide) (fun c_1012 => ?_) (fun c_1012 => ?_)
        · skip
          have nc_1012 := nb_ne (0) (60) c_1012 bv_1011 (k := -1) (by decide) (by decide)
          refine lv_aload_n hx hb dX10_paste_40 rfl (lv_at hl 0 rfl) ?_
          refine va_get (D := G) (ci := 10) (v := .ref ob_width) (C := RX10) (T := TX10) (N := 41) hx hb hw0 inA_wsX100 hown hK.1 hP 0 rfl rfl 38 (by decide) (hw0 _ m_527) (fun _ h9 => h9) rfl dX10_paste_41 ?_
          refine lv_iload_n hx hb dX10_paste_44 rfl (lv_at hl 1 rfl) ?_
          refine va_iald hx hb hK.1 hP 2 1 rfl rfl (vi (bkc (x := 0) (c := 0) (by decide)) (by decide)) dX10_paste_45 ?_
          refine lv_topi (fun v_1013 ev_1013 => ?_)
          have bv_1013 : (0 : Int) ≤ v_1013.toInt ∧ v_1013.toInt ≤ 3 := rd_b ev_1013 p_fob_width
          have yv_1013 : v_1013.toInt = (fob_width 0).toInt := congrArg Int32.toInt ev_1013
          refine lv_aload_n hx hb dX10_paste_46 rfl (lv_at hl 0 rfl) ?_
          refine va_get (D := G) (ci := 10) (v := .ref ob_width) (C := RX10) (T := TX10) (N := 41) hx hb hw0 inA_wsX100 hown hK.1 hP 0 rfl rfl 38 (by decide) (hw0 _ m_527) (fun _ h9 => h9) rfl dX10_paste_47 ?_
          refine lv_iload_n hx hb dX10_paste_50 rfl (lv_at hl 3 rfl) ?_
          refine va_iald hx hb hK.1 hP 2 1 rfl rfl (vi (bkc (x := 2) (c := 2) (by decide)) (by decide)) dX10_paste_51 ?_
          refine lv_topi (fun v_1014 ev_1014 => ?_)
          have bv_1014 : (0 : Int) ≤ v_1014.toInt ∧ v_1014.toInt ≤ 3 := rd_b ev_1014 p_fob_width
          have yv_1014 : v_1014.toInt = (fob_width 2).toInt := congrArg Int32.toInt ev_1014
          refine lv_icmp_eq (tgt := 58) hx hb dX10_paste_52 (by decide) (fun c_1015 => ?_) (fun c_1015 => ?_)
          · skip
            have nc_1015 := nb_eq (0) (3) c_1015 bv_1013 bv_1014 (by decide)
            refine lv_iload_n hx hb dX10_paste_58 rfl (lv_at hl 2 rfl) ?_
            refine lv_if_lt (tgt := 107) hx hb dX10_paste_59 (by decide) (fun c_1016 => ?_) (fun c_1016 => ?_)
            · skip
              have nc_1016 := nb_lt (-1) (0) c_1016 (btop a2) (bkc (x := 0) (c := 0) (by decide)) (by decide)
              refine lv_bipush (v := (-7)) hx hb dX10_paste_107 (by decide) ?_
              exact W.iret (v := (-7)) hx hb hr (fun t ht hW => ⟨⟨(-7), _, rfl, Or.inr (Or.inl (⟨by have h90 : Int32.toInt (-7) = -7 := (by decide); have h91 : Int32.toInt 0 = 0 := (by decide); have h92 : Int32.toInt 2 = 2 := (by decide); omega, rfl, rfl⟩)), by rw [ht]; exact hP, hD⟩, hS.F ht⟩) hS.2.2 dX10_paste_109
            · skip
              have nc_1016 := nb_nlt (0) (0) c_1016 (bkc (x := 0) (c := 0) (by decide)) (btop a2) (by decide)
              refine lv_iload hx hb dX10_paste_62 (lv_at hl 4 rfl) ?_
              refine lv_if_lt (tgt := 107) hx hb dX10_paste_64 (by decide) (fun c_1017 => ?_) (fun c_1017 => ?_)
              · skip
                have nc_1017 := nb_lt (-1) (0) c_1017 (btop a4) (bkc (x := 0) (c := 0) (by decide)) (by decide)
                refine lv_bipush (v := (-7)) hx hb dX10_paste_107 (by decide) ?_
                exact W.iret (v := (-7)) hx hb hr (fun t ht hW => ⟨⟨(-7), _, rfl, Or.inr (Or.inl (⟨by have h90 : Int32.toInt (-7) = -7 := (by decide); have h91 : Int32.toInt 0 = 0 := (by decide); have h92 : Int32.toInt 2 = 2 := (by decide); omega, rfl, rfl⟩)), by rw [ht]; exact hP, hD⟩, hS.F ht⟩) hS.2.2 dX10_paste_109
              · skip
                have nc_1017 := nb_nlt (0) (0) c_1017 (bkc (x := 0) (c := 0) (by decide)) (btop a4) (by decide)
                refine lv_iload hx hb dX10_paste_67 (lv_at hl 5 rfl) ?_
                refine lv_if_lt (tgt := 107) hx hb dX10_paste_69 (by decide) (fun c_1018 => ?_) (fun c_1018 => ?_)
                · skip
                  have nc_1018 := nb_lt (-1) (0) c_1018 (btop a5) (bkc (x := 0) (c := 0) (by decide)) (by decide)
                  refine lv_bipush (v := (-7)) hx hb dX10_paste_107 (by decide) ?_
                  exact W.iret (v := (-7)) hx hb hr (fun t ht hW => ⟨⟨(-7), _, rfl, Or.inr (Or.inl (⟨by have h90 : Int32.toInt (-7) = -7 := (by decide); have h91 : Int32.toInt 0 = 0 := (by decide); have h92 : Int32.toInt 2 = 2 := (by decide); omega, rfl, rfl⟩)), by rw [ht]; exact hP, hD⟩, hS.F ht⟩) hS.2.2 dX10_paste_109
                · skip
                  have nc_1018 := nb_nlt (0) (0) c_1018 (bkc (x := 0) (c := 0) (by decide)) (btop a5) (by decide)
                  refine lv_iload_n hx hb dX10_paste_72 rfl (lv_at hl 2 rfl) ?_
                  refine lv_i2l hx hb dX10_paste_73 rfl ?_
                  have kk_1019 : ((a2).toInt64).toInt = (a2).toInt := Int32.toInt_toInt64 _
                  refine lv_iload hx hb dX10_paste_74 (lv_at hl 5 rfl) ?_
                  refine lv_i2l hx hb dX10_paste_76 rfl ?_
                  have kk_1020 : ((a5).toInt64).toInt = (a5).toInt := Int32.toInt_toInt64 _
                  refine lv_ladd hx hb dX10_paste_77 ?_
                  refine lv_topl (fun v_1021 ev_1021 => ?_)
                  have qv_1021 := la_add ev_1021
                  refine lv_aload_n hx hb dX10_paste_78 rfl (lv_at hl 0 rfl) ?_
                  refine va_get (D := G) (ci := 10) (v := .ref ob_many) (C := RX10) (T := TX10) (N := 41) hx hb hw0 inA_wsX100 hown hK.1 hP 0 rfl rfl 37 (by decide) (hw0 _ m_406) (fun _ h9 => h9) rfl dX10_paste_79 ?_
                  refine lv_iload_n hx hb dX10_paste_82 rfl (lv_at hl 1 rfl) ?_
                  refine va_iald hx hb hK.1 hP 1 1 rfl rfl (vi (bkc (x := 0) (c := 0) (by decide)) (by decide)) dX10_paste_83 ?_
                  refine lv_topi (fun v_1022 ev_1022 => ?_)
                  obtain rfl : v_1009 = v_1022 := (ev_1022.trans (ev_1009.symm)).symm
                  refine lv_i2l hx hb dX10_paste_84 rfl ?_
                  have kk_1023 : ((v_1009).toInt64).toInt = (v_1009).toInt := Int32.toInt_toInt64 _
                  refine W.lcmp hx hb dX10_paste_85 ?_
                  refine lv_if_gt (tgt := 107) hx hb dX10_paste_86 (by decide) (fun c_1024 => ?_) (fun c_1024 => ?_)
                  · skip
                    have nc_1024 := jl_gt c_1024
                    refine lv_bipush (v := (-7)) hx hb dX10_paste_107 (by decide) ?_
                    exact W.iret (v := (-7)) hx hb hr (fun t ht hW => ⟨⟨(-7), _, rfl, Or.inr (Or.inl (⟨by have h90 : Int32.toInt (-7) = -7 := (by decide); have h91 : Int32.toInt 0 = 0 := (by decide); have h92 : Int32.toInt 2 = 2 := (by decide); omega, rfl, rfl⟩)), by rw [ht]; exact hP, hD⟩, hS.F ht⟩) hS.2.2 dX10_paste_109
                  · skip
                    have nc_1024 := jl_ngt c_1024
                    refine lv_iload hx hb dX10_paste_89 (lv_at hl 4 rfl) ?_
                    refine lv_i2l hx hb dX10_paste_91 rfl ?_
                    have kk_1025 : ((a4).toInt64).toInt = (a4).toInt := Int32.toInt_toInt64 _
                    refine lv_iload hx hb dX10_paste_92 (lv_at hl 5 rfl) ?_
                    refine lv_i2l hx hb dX10_paste_94 rfl ?_
                    have kk_1026 : ((a5).toInt64).toInt = (a5).toInt := Int32.toInt_toInt64 _
                    refine lv_ladd hx hb dX10_paste_95 ?_
                    refine lv_topl (fun v_1027 ev_1027 => ?_)
                    have qv_1027 := la_add ev_1027
                    refine lv_aload_n hx hb dX10_paste_96 rfl (lv_at hl 0 rfl) ?_
                    refine va_get (D := G) (ci := 10) (v := .ref ob_many) (C := RX10) (T := TX10) (N := 41) hx hb hw0 inA_wsX100 hown hK.1 hP 0 rfl rfl 37 (by decide) (hw0 _ m_406) (fun _ h9 => h9) rfl dX10_paste_97 ?_
                    refine lv_iload_n hx hb dX10_paste_100 rfl (lv_at hl 3 rfl) ?_
                    refine va_iald hx hb hK.1 hP 1 1 rfl rfl (vi (bkc (x := 2) (c := 2) (by decide)) (by decide)) dX10_paste_101 ?_
                    refine lv_topi (fun v_1028 ev_1028 => ?_)
                    obtain rfl : v_1011 = v_1028 := (ev_1028.trans (ev_1011.symm)).symm
                    refine lv_i2l hx hb dX10_paste_102 rfl ?_
                    have kk_1029 : ((v_1011).toInt64).toInt = (v_1011).toInt := Int32.toInt_toInt64 _
                    refine W.lcmp hx hb dX10_paste_103 ?_
                    refine lv_if_le (tgt := 110) hx hb dX10_paste_104 (by decide) (fun c_1030 => ?_) (fun c_1030 => ?_)
                    · skip
                      have nc_1030 := jl_le c_1030
                      have h_1031 : (0 : Int) ≤ a2.toInt ∧ a2.toInt ≤ 60 := by omega
                      have h_1032 : (0 : Int) ≤ a4.toInt ∧ a4.toInt ≤ 60 := by omega
                      have h_1033 : (0 : Int) ≤ a5.toInt ∧ a5.toInt ≤ 60 := by omega
                      refine lv_iconst (v := 0) hx hb dX10_paste_110 (by decide) ?_
                      refine lv_istore (lv' := [(6, .int 0), (0, .ref ob), (1, .int 0), (2, .int a2), (3, .int 2), (4, .int a4), (5, .int a5)]) hx hb dX10_paste_111 hl (by decide) rfl (fun ls hl => ?_)
                      refine loopX (fun n H locs ls st => ∃ (v_1139 : Int32) (f_1140 : Nat → Int64), (60 - v_1139.toInt).toNat = n ∧ ((0 : Int) ≤ v_1139.toInt ∧ v_1139.toInt ≤ 60) ∧ st = [] ∧ vPD G A H [(ce_X10 ob ob_thrown ob_world ob_images ob_hasImage ob_tape ob_taped ob_five ob_size ob_at ob_from ob_token ob_value ob_faultKind ob_faultPlace ob_fresh ob_parts ob_houses ob_houseMany ob_worthOf ob_byCall ob_over ob_bestSet ob_bestOver ob_bestWorth ob_row ob_tenDebts ob_tenMany ob_fewestBy ob_covered ob_queue ob_cameBy ob_parent ob_met ob_calls ob_callMany ob_calledOn ob_saved ob_many ob_width ob_numbers ob_moving), (ce_i4 y ob_many fob_many), (ce_i4 y ob_width fob_width), (ce_l240 y ob_numbers fob_numbers), (ce_l60 y ob_moving f_1140)] ∧ va_S A s.heap H locs ∧ lv_has ls 7 [(6, .int v_1139), (0, .ref ob), (1, .int 0), (2, .int a2), (3, .int 2), (4, .int a4), (5, .int a5)]) ?_ (n := (60 - (0 : Int32).toInt).toNat) ⟨0, fob_moving, rfl, (bw (0) (60) (bkc (x := 0) (c := 0) (by decide)) (by decide)), rfl, ⟨hP, hD⟩, hS, lv_sub hl [0, 1, 2, 3, 4, 5, 6] rfl⟩
                      rintro n ih_1147 H locs ls st ⟨v_1139, f_1140, hn_1147, bv_1139, rfl, ⟨hP, hD⟩, hS, hl⟩
                      refine lv_iload hx hb dX10_paste_113 (lv_at hl 0 rfl) ?_
                      refine lv_iload hx hb dX10_paste_115 (lv_at hl 6 rfl) ?_
                      refine lv_icmp_ge (tgt := 147) hx hb dX10_paste_117 (by decide) (fun c_1148 => ?_) (fun c_1148 => ?_)
                      · skip
                        have nc_1148 := nb_le (60) (0) c_1148 h_1033 bv_1139 (by decide)
                        refine lv_iconst (v := 0) hx hb dX10_paste_147 (by decide) ?_
                        refine lv_istore (lv' := [(6, .int 0), (0, .ref ob), (1, .int 0), (2, .int a2), (3, .int 2), (4, .int a4), (5, .int a5)]) hx hb dX10_paste_148 hl (by decide) rfl (fun ls hl => ?_)
                        refine loopX (fun n H locs ls st => ∃ (v_1254 : Int32) (f_1255 : Nat → Int64), (60 - v_1254.toInt).toNat = n ∧ ((0 : Int) ≤ v_1254.toInt ∧ v_1254.toInt ≤ 60) ∧ st = [] ∧ vPD G A H [(ce_X10 ob ob_thrown ob_world ob_images ob_hasImage ob_tape ob_taped ob_five ob_size ob_at ob_from ob_token ob_value ob_faultKind ob_faultPlace ob_fresh ob_parts ob_houses ob_houseMany ob_worthOf ob_byCall ob_over ob_bestSet ob_bestOver ob_bestWorth ob_row ob_tenDebts ob_tenMany ob_fewestBy ob_covered ob_queue ob_cameBy ob_parent ob_met ob_calls ob_callMany ob_calledOn ob_saved ob_many ob_width ob_numbers ob_moving), (ce_i4 y ob_many fob_many), (ce_i4 y ob_width fob_width), (ce_l240 y ob_numbers f_1255), (ce_l60 y ob_moving f_1140)] ∧ va_S A s.heap H locs ∧ lv_has ls 7 [(6, .int v_1254), (0, .ref ob), (3, .int 2), (4, .int a4), (5, .int a5)]) ?_ (n := (60 - (0 : Int32).toInt).toNat) ⟨0, fob_numbers, rfl, (bw (0) (60) (bkc (x := 0) (c := 0) (by decide)) (by decide)), rfl, ⟨hP, hD⟩, hS, lv_sub hl [0, 1, 4, 5, 6] rfl⟩
                        rintro n ih_1262 H locs ls st ⟨v_1254, f_1255, hn_1262, bv_1254, rfl, ⟨hP, hD⟩, hS, hl⟩
                        refine lv_iload hx hb dX10_paste_150 (lv_at hl 0 rfl) ?_
                        refine lv_iload hx hb dX10_paste_152 (lv_at hl 4 rfl) ?_
                        refine lv_icmp_ge (tgt := 185) hx hb dX10_paste_154 (by decide) (fun c_1263 => ?_) (fun c_1263 => ?_)
                        · skip
                          have nc_1263 := nb_le (60) (0) c_1263 nc_1148.1 bv_1254 (by decide)
                          refine lv_iconst (v := 0) hx hb dX10_paste_185 (by decide) ?_
                          exact W.iret (v := 0) hx hb hr (fun t ht hW => ⟨⟨0, _, rfl, Or.inr (Or.inr (Or.inr (⟨f_1255, f_1140, h_1031, h_1032, nc_1263.1, by have h90 : Int32.toInt 0 = 0 := (by decide); have h91 : Int32.toInt 2 = 2 := (by decide); omega, rfl, rfl⟩))), by rw [ht]; exact hP, hD⟩, hS.F ht⟩) hS.2.2 dX10_paste_186
                        · skip
                          have nc_1263 := nb_nle (59) (1) c_1263 bv_1254 nc_1148.1 (by decide)
                          refine lv_aload_n hx hb dX10_paste_157 rfl (lv_at hl 1 rfl) ?_
                          refine va_get (D := G) (ci := 10) (v := .ref ob_numbers) (C := RX10) (T := TX10) (N := 41) hx hb hw0 inA_wsX100 hown hK.1 hP 0 rfl rfl 39 (by decide) (hw0 _ m_435) (fun _ h9 => h9) rfl dX10_paste_158 ?_
                          refine lv_bipush (v := 60) hx hb dX10_paste_161 (by decide) ?_
                          refine lv_iload_n hx hb dX10_paste_163 rfl (lv_at hl 2 rfl) ?_
                          refine lv_imul hx hb dX10_paste_164 ?_
                          refine lv_topi (fun v_1264 ev_1264 => ?_)
                          obtain rfl : 120 = v_1264 := (ev_1264.trans (by decide)).symm
                          refine lv_iload hx hb dX10_paste_165 (lv_at hl 3 rfl) ?_
                          refine lv_iadd hx hb dX10_paste_167 ?_
                          refine lv_topi (fun v_1265 ev_1265 => ?_)
                          have qv_1265 := ba_add ev_1265 (bkc (x := 120) (c := 120) (by decide)) h_1032 (by decide)
                          have bv_1265 : (120 : Int) ≤ v_1265.toInt ∧ v_1265.toInt ≤ 180 := bq_add qv_1265 (bkc (x := 120) (c := 120) (by decide)) h_1032 _ _ (by decide)
                          have qv_1265 : v_1265.toInt = (120) + a4.toInt := qv_1265
                          refine lv_iload hx hb dX10_paste_168 (lv_at hl 0 rfl) ?_
                          refine lv_iadd hx hb dX10_paste_170 ?_
                          refine lv_topi (fun v_1266 ev_1266 => ?_)
                          have qv_1266 := ba_add ev_1266 bv_1265 nc_1263.1 (by decide)
                          have bv_1266 : (120 : Int) ≤ v_1266.toInt ∧ v_1266.toInt ≤ 239 := bq_add qv_1266 bv_1265 nc_1263.1 _ _ (by decide)
                          refine lv_aload_n hx hb dX10_paste_171 rfl (lv_at hl 1 rfl) ?_
                          refine va_get (D := G) (ci := 10) (v := .ref ob_moving) (C := RX10) (T := TX10) (N := 41) hx hb hw0 inA_wsX100 hown hK.1 hP 0 rfl rfl 40 (by decide) (hw0 _ m_529) (fun _ h9 => h9) rfl dX10_paste_172 ?_
                          refine lv_iload hx hb dX10_paste_175 (lv_at hl 0 rfl) ?_
                          refine va_lald hx hb hK.1 hP 4 2 rfl rfl (vi nc_1263.1 (by decide)) dX10_paste_177 ?_
                          refine lv_topl (fun v_1267 ev_1267 => ?_)
                          refine va_last hx hb hK.1 hP hD hS 3 2 rfl rfl (vi bv_1266 (by decide)) dX10_paste_178 (fun H locs hP hD hS => ?_)
                          generalize hf_1268 : (vp_updL f_1255 (v_1266 : Int32).toNatClampNeg v_1267) = f_1268 at hP hD
                          obtain ⟨hP, hD⟩ : vPD G A H [(ce_X10 ob ob_thrown ob_world ob_images ob_hasImage ob_tape ob_taped ob_five ob_size ob_at ob_from ob_token ob_value ob_faultKind ob_faultPlace ob_fresh ob_parts ob_houses ob_houseMany ob_worthOf ob_byCall ob_over ob_bestSet ob_bestOver ob_bestWorth ob_row ob_tenDebts ob_tenMany ob_fewestBy ob_covered ob_queue ob_cameBy ob_parent ob_met ob_calls ob_callMany ob_calledOn ob_saved ob_many ob_width ob_numbers ob_moving), (ce_i4 y ob_many fob_many), (ce_i4 y ob_width fob_width), (ce_l240 y ob_numbers f_1268), (ce_l60 y ob_moving f_1140)] := ⟨hP, hD⟩
                          obtain ⟨v_1269, ev_1269⟩ : ∃ z : Int32, z = v_1254 + 1 := ⟨_, rfl⟩
                          have qv_1269 := ba_add ev_1269 nc_1263.1 (bkc (x := 1) (c := 1) (by decide)) (by decide)
                          have bv_1269 : (1 : Int) ≤ v_1269.toInt ∧ v_1269.toInt ≤ 60 := bq_add qv_1269 nc_1263.1 (bkc (x := 1) (c := 1) (by decide)) _ _ (by decide)
                          have qv_1269 : v_1269.toInt = v_1254.toInt + (1) := qv_1269
                          refine lv_iinc (v := v_1269) (lv' := [(6, .int v_1269), (0, .ref ob), (3, .int 2), (4, .int a4), (5, .int a5)]) hx hb dX10_paste_179 hl (k := 0) rfl (ev_1269.symm) (by decide) rfl (fun ls hl => ?_)
                          refine lv_goto (tgt := 150) hx hb dX10_paste_182 (by decide) ?_
                          exact ih_1262 _ (ml_inc (hi := 60) hn_1262 qv_1269 (by decide) ((bw (0) (60) bv_1269 (by decide))).2) _ _ _ _ ⟨v_1269, f_1268, rfl, (bw (0) (60) bv_1269 (by decide)), rfl, ⟨hP, hD⟩, hS, lv_sub hl [0, 1, 2, 3, 4] rfl⟩
                      · skip
                        have nc_1148 := nb_nle (59) (1) c_1148 bv_1139 h_1033 (by decide)
                        refine lv_aload_n hx hb dX10_paste_120 rfl (lv_at hl 1 rfl) ?_
                        refine va_get (D := G) (ci := 10) (v := .ref ob_moving) (C := RX10) (T := TX10) (N := 41) hx hb hw0 inA_wsX100 hown hK.1 hP 0 rfl rfl 40 (by decide) (hw0 _ m_529) (fun _ h9 => h9) rfl dX10_paste_121 ?_
                        refine lv_iload hx hb dX10_paste_124 (lv_at hl 0 rfl) ?_
                        refine lv_aload_n hx hb dX10_paste_126 rfl (lv_at hl 1 rfl) ?_
                        refine va_get (D := G) (ci := 10) (v := .ref ob_numbers) (C := RX10) (T := TX10) (N := 41) hx hb hw0 inA_wsX100 hown hK.1 hP 0 rfl rfl 39 (by decide) (hw0 _ m_435) (fun _ h9 => h9) rfl dX10_paste_127 ?_
                        refine lv_bipush (v := 60) hx hb dX10_paste_130 (by decide) ?_
                        refine lv_iload_n hx hb dX10_paste_132 rfl (lv_at hl 2 rfl) ?_
                        refine lv_imul hx hb dX10_paste_133 ?_
                        refine lv_topi (fun v_1270 ev_1270 => ?_)
                        obtain rfl : 0 = v_1270 := (ev_1270.trans (by decide)).symm
                        refine lv_iload_n hx hb dX10_paste_134 rfl (lv_at hl 3 rfl) ?_
                        refine lv_iadd hx hb dX10_paste_135 ?_
                        refine lv_topi (fun v_1271 ev_1271 => ?_)
                        have qv_1271 := ba_add ev_1271 (bkc (x := 0) (c := 0) (by decide)) h_1031 (by decide)
                        have bv_1271 : (0 : Int) ≤ v_1271.toInt ∧ v_1271.toInt ≤ 60 := bq_add qv_1271 (bkc (x := 0) (c := 0) (by decide)) h_1031 _ _ (by decide)
                        have qv_1271 : v_1271.toInt = (0) + a2.toInt := qv_1271
                        refine lv_iload hx hb dX10_paste_136 (lv_at hl 0 rfl) ?_
                        refine lv_iadd hx hb dX10_paste_138 ?_
                        refine lv_topi (fun v_1272 ev_1272 => ?_)
                        have qv_1272 := ba_add ev_1272 bv_1271 nc_1148.1 (by decide)
                        have bv_1272 : (0 : Int) ≤ v_1272.toInt ∧ v_1272.toInt ≤ 119 := bq_add qv_1272 bv_1271 nc_1148.1 _ _ (by decide)
                        refine va_lald hx hb hK.1 hP 3 2 rfl rfl (vi bv_1272 (by decide)) dX10_paste_139 ?_
                        refine lv_topl (fun v_1273 ev_1273 => ?_)
                        refine va_last hx hb hK.1 hP hD hS 4 2 rfl rfl (vi nc_1148.1 (by decide)) dX10_paste_140 (fun H locs hP hD hS => ?_)
                        generalize hf_1274 : (vp_updL f_1140 (v_1139 : Int32).toNatClampNeg v_1273) = f_1274 at hP hD
                        obtain ⟨hP, hD⟩ : vPD G A H [(ce_X10 ob ob_thrown ob_world ob_images ob_hasImage ob_tape ob_taped ob_five ob_size ob_at ob_from ob_token ob_value ob_faultKind ob_faultPlace ob_fresh ob_parts ob_houses ob_houseMany ob_worthOf ob_byCall ob_over ob_bestSet ob_bestOver ob_bestWorth ob_row ob_tenDebts ob_tenMany ob_fewestBy ob_covered ob_queue ob_cameBy ob_parent ob_met ob_calls ob_callMany ob_calledOn ob_saved ob_many ob_width ob_numbers ob_moving), (ce_i4 y ob_many fob_many), (ce_i4 y ob_width fob_width), (ce_l240 y ob_numbers fob_numbers), (ce_l60 y ob_moving f_1274)] := ⟨hP, hD⟩
                        obtain ⟨v_1275, ev_1275⟩ : ∃ z : Int32, z = v_1139 + 1 := ⟨_, rfl⟩
                        have qv_1275 := ba_add ev_1275 nc_1148.1 (bkc (x := 1) (c := 1) (by decide)) (by decide)
                        have bv_1275 : (1 : Int) ≤ v_1275.toInt ∧ v_1275.toInt ≤ 60 := bq_add qv_1275 nc_1148.1 (bkc (x := 1) (c := 1) (by decide)) _ _ (by decide)
                        have qv_1275 : v_1275.toInt = v_1139.toInt + (1) := qv_1275
                        refine lv_iinc (v := v_1275) (lv' := [(6, .int v_1275), (0, .ref ob), (1, .int 0), (2, .int a2), (3, .int 2), (4, .int a4), (5, .int a5)]) hx hb dX10_paste_141 hl (k := 0) rfl (ev_1275.symm) (by decide) rfl (fun ls hl => ?_)
                        refine lv_goto (tgt := 113) hx hb dX10_paste_144 (by decide) ?_
                        exact ih_1147 _ (ml_inc (hi := 60) hn_1147 qv_1275 (by decide) ((bw (0) (60) bv_1275 (by decide))).2) _ _ _ _ ⟨v_1275, f_1274, rfl, (bw (0) (60) bv_1275 (by decide)), rfl, ⟨hP, hD⟩, hS, lv_sub hl [0, 1, 2, 3, 4, 5, 6] rfl⟩
                    · skip
                      have nc_1030 := jl_nle c_1030
                      refine lv_bipush (v := (-7)) hx hb dX10_paste_107 (by decide) ?_
                      exact W.iret (v := (-7)) hx hb hr (fun t ht hW => ⟨⟨(-7), _, rfl, Or.inr (Or.inl (⟨by have h90 : Int32.toInt (-7) = -7 := (by decide); have h91 : Int32.toInt 0 = 0 := (by decide); have h92 : Int32.toInt 2 = 2 := (by decide); omega, rfl, rfl⟩)), by rw [ht]; exact hP, hD⟩, hS.F ht⟩) hS.2.2 dX10_paste_109
          · skip
            have nc_1015 : v_1013.toInt ≠ v_1014.toInt := fun h9 => c_1015 (Int32.toInt_inj.mp h9)
            refine lv_bipush (v := (-8)) hx hb dX10_paste_55 (by decide) ?_
            exact W.iret (v := (-8)) hx hb hr (fun t ht hW => ⟨⟨(-8), _, rfl, Or.inr (Or.inr (Or.inl (⟨by have h90 : Int32.toInt (-8) = -8 := (by decide); have h91 : Int32.toInt 0 = 0 := (by decide); have h92 : Int32.toInt 2 = 2 := (by decide); omega, rfl, rfl⟩))), by rw [ht]; exact hP, hD⟩, hS.F ht⟩) hS.2.2 dX10_paste_57
        · skip
          have nc_1012 := nb_eq (-1) (-1) c_1012 bv_1011 (bkc (x := (-1)) (c := -1) (by decide)) (by decide)
          refine lv_bipush (v := (-6)) hx hb dX10_paste_37 (by decide) ?_
          exact W.iret (v := (-6)) hx hb hr (fun t ht hW => ⟨⟨(-6), _, rfl, Or.inl (⟨by have h90 : Int32.toInt (-6) = -6 := (by decide); have h91 : Int32.toInt 0 = 0 := (by decide); have h92 : Int32.toInt 2 = 2 := (by decide); omega, rfl, rfl⟩), by rw [ht]; exact hP, hD⟩, hS.F ht⟩) hS.2.2 dX10_paste_39

set_option maxHeartbeats 4000000 in
set_option maxRecDepth 100000 in
theorem fpasteM03 (l : Launch) (G : va_G) (y : Nat → ClassId) (sz : Nat) (ob : Nat) (a2 : Int32) (a4 : Int32) (a5 : Int32) (ob_thrown : Int32) (ob_world : Nat) (ob_images : Nat) (ob_hasImage : Nat) (ob_tape : Nat) (ob_taped : Int32) (ob_five : Nat) (ob_size : Int32) (ob_at : Int32) (ob_from : Int32) (ob_token : Int32) (ob_value : Int32) (ob_faultKind : Int32) (ob_faultPlace : Int32) (ob_fresh : Nat) (ob_parts : Nat) (ob_houses : Nat) (ob_houseMany : Int32) (ob_worthOf : Nat) (ob_byCall : Nat) (ob_over : Nat) (ob_bestSet : Int32) (ob_bestOver : Int32) (ob_bestWorth : Int32) (ob_row : Nat) (ob_tenDebts : Nat) (ob_tenMany : Int32) (ob_fewestBy : Nat) (ob_covered : Nat) (ob_queue : Nat) (ob_cameBy : Nat) (ob_parent : Nat) (ob_met : Nat) (ob_calls : Nat) (ob_callMany : Int32) (ob_calledOn : Nat) (ob_saved : Nat) (ob_many : Nat) (ob_width : Nat) (ob_numbers : Nat) (ob_moving : Nat) (fob_many : Nat → Int32) (fob_width : Nat → Int32) (fob_numbers : Nat → Int64) (fob_moving : Nat → Int64) (p_ob_taped : (0 : Int) ≤ ob_taped.toInt ∧ ob_taped.toInt ≤ 1400) (p_ob_size : (0 : Int) ≤ ob_size.toInt ∧ ob_size.toInt ≤ 1400) (p_ob_at : (0 : Int) ≤ ob_at.toInt ∧ ob_at.toInt ≤ 1400) (p_ob_from : (0 : Int) ≤ ob_from.toInt ∧ ob_from.toInt ≤ 1400) (p_ob_token : (0 : Int) ≤ ob_token.toInt ∧ ob_token.toInt ≤ 4) (p_ob_value : (0 : Int) ≤ ob_value.toInt ∧ ob_value.toInt ≤ 9999) (p_ob_faultKind : (0 : Int) ≤ ob_faultKind.toInt ∧ ob_faultKind.toInt ≤ 3) (p_ob_houseMany : (0 : Int) ≤ ob_houseMany.toInt ∧ ob_houseMany.toInt ≤ 10) (p_ob_bestSet : (0 : Int) ≤ ob_bestSet.toInt ∧ ob_bestSet.toInt ≤ 1023) (p_ob_bestOver : (-1 : Int) ≤ ob_bestOver.toInt ∧ ob_bestOver.toInt ≤ 180) (p_ob_tenMany : (0 : Int) ≤ ob_tenMany.toInt ∧ ob_tenMany.toInt ≤ 10) (p_ob_callMany : (0 : Int) ≤ ob_callMany.toInt ∧ ob_callMany.toInt ≤ 16) (p_fob_many : ∀ i, (-1 : Int) ≤ (fob_many i).toInt ∧ (fob_many i).toInt ≤ 60) (p_fob_width : ∀ i, (0 : Int) ≤ (fob_width i).toInt ∧ (fob_width i).toInt ≤ 3) : Met l yX10_paste (Cond.code yX10_paste cX10_paste 7 (some .int) :: wAll) ({ frames := 2, cells := 0, slots := 0, locals := 45 }) (va_Pc [.ref ob, .int 0, .int a2, .int 3, .int a4, .int a5] (kp G y sz [(ce_X10 ob ob_thrown ob_world ob_images ob_hasImage ob_tape ob_taped ob_five ob_size ob_at ob_from ob_token ob_value ob_faultKind ob_faultPlace ob_fresh ob_parts ob_houses ob_houseMany ob_worthOf ob_byCall ob_over ob_bestSet ob_bestOver ob_bestWorth ob_row ob_tenDebts ob_tenMany ob_fewestBy ob_covered ob_queue ob_cameBy ob_parent ob_met ob_calls ob_callMany ob_calledOn ob_saved ob_many ob_width ob_numbers ob_moving), (ce_i4 y ob_many fob_many), (ce_i4 y ob_width fob_width), (ce_l240 y ob_numbers fob_numbers), (ce_l60 y ob_moving fob_moving)])) (va_Qi (fun (r : Int32) (w : va_W) => (((fob_many 0).toInt = -1 ∨ (fob_many 3).toInt = -1) ∧ r = (-6) ∧ w = [(ce_X10 ob ob_thrown ob_world ob_images ob_hasImage ob_tape ob_taped ob_five ob_size ob_at ob_from ob_token ob_value ob_faultKind ob_faultPlace ob_fresh ob_parts ob_houses ob_houseMany ob_worthOf ob_byCall ob_over ob_bestSet ob_bestOver ob_bestWorth ob_row ob_tenDebts ob_tenMany ob_fewestBy ob_covered ob_queue ob_cameBy ob_parent ob_met ob_calls ob_callMany ob_calledOn ob_saved ob_many ob_width ob_numbers ob_moving), (ce_i4 y ob_many fob_many), (ce_i4 y ob_width fob_width), (ce_l240 y ob_numbers fob_numbers), (ce_l60 y ob_moving fob_moving)]) ∨ ((¬ (fob_many 0).toInt = -1 ∧ ¬ (fob_many 3).toInt = -1 ∧ (fob_width 0).toInt = (fob_width 3).toInt ∧ ¬ (0 ≤ a2.toInt ∧ 0 ≤ a4.toInt ∧ 0 ≤ a5.toInt ∧ a2.toInt + a5.toInt ≤ (fob_many 0).toInt ∧ a4.toInt + a5.toInt ≤ (fob_many 3).toInt)) ∧ r = (-7) ∧ w = [(ce_X10 ob ob_thrown ob_world ob_images ob_hasImage ob_tape ob_taped ob_five ob_size ob_at ob_from ob_token ob_value ob_faultKind ob_faultPlace ob_fresh ob_parts ob_houses ob_houseMany ob_worthOf ob_byCall ob_over ob_bestSet ob_bestOver ob_bestWorth ob_row ob_tenDebts ob_tenMany ob_fewestBy ob_covered ob_queue ob_cameBy ob_parent ob_met ob_calls ob_callMany ob_calledOn ob_saved ob_many ob_width ob_numbers ob_moving), (ce_i4 y ob_many fob_many), (ce_i4 y ob_width fob_width), (ce_l240 y ob_numbers fob_numbers), (ce_l60 y ob_moving fob_moving)]) ∨ ((¬ (fob_many 0).toInt = -1 ∧ ¬ (fob_many 3).toInt = -1 ∧ ¬ (fob_width 0).toInt = (fob_width 3).toInt) ∧ r = (-8) ∧ w = [(ce_X10 ob ob_thrown ob_world ob_images ob_hasImage ob_tape ob_taped ob_five ob_size ob_at ob_from ob_token ob_value ob_faultKind ob_faultPlace ob_fresh ob_parts ob_houses ob_houseMany ob_worthOf ob_byCall ob_over ob_bestSet ob_bestOver ob_bestWorth ob_row ob_tenDebts ob_tenMany ob_fewestBy ob_covered ob_queue ob_cameBy ob_parent ob_met ob_calls ob_callMany ob_calledOn ob_saved ob_many ob_width ob_numbers ob_moving), (ce_i4 y ob_many fob_many), (ce_i4 y ob_width fob_width), (ce_l240 y ob_numbers fob_numbers), (ce_l60 y ob_moving fob_moving)]) ∨ (∃ (f_579 : Nat → Int64) (f_580 : Nat → Int64), ((0 : Int) ≤ a2.toInt ∧ a2.toInt ≤ 60) ∧ ((0 : Int) ≤ a4.toInt ∧ a4.toInt ≤ 60) ∧ ((0 : Int) ≤ a5.toInt ∧ a5.toInt ≤ 60) ∧ (¬ (fob_many 0).toInt = -1 ∧ ¬ (fob_many 3).toInt = -1 ∧ (fob_width 0).toInt = (fob_width 3).toInt ∧ 0 ≤ a2.toInt ∧ 0 ≤ a4.toInt ∧ 0 ≤ a5.toInt ∧ a2.toInt + a5.toInt ≤ (fob_many 0).toInt ∧ a4.toInt + a5.toInt ≤ (fob_many 3).toInt) ∧ r = 0 ∧ w = [(ce_X10 ob ob_thrown ob_world ob_images ob_hasImage ob_tape ob_taped ob_five ob_size ob_at ob_from ob_token ob_value ob_faultKind ob_faultPlace ob_fresh ob_parts ob_houses ob_houseMany ob_worthOf ob_byCall ob_over ob_bestSet ob_bestOver ob_bestWorth ob_row ob_tenDebts ob_tenMany ob_fewestBy ob_covered ob_queue ob_cameBy ob_parent ob_met ob_calls ob_callMany ob_calledOn ob_saved ob_many ob_width ob_numbers ob_moving), (ce_i4 y ob_many fob_many), (ce_i4 y ob_width fob_width), (ce_l240 y ob_numbers f_579), (ce_l60 y ob_moving f_580)])) (kq G (va_A [(ce_X10 ob ob_thrown ob_world ob_images ob_hasImage ob_tape ob_taped ob_five ob_size ob_at ob_from ob_token ob_value ob_faultKind ob_faultPlace ob_fresh ob_parts ob_houses ob_houseMany ob_worthOf ob_byCall ob_over ob_bestSet ob_bestOver ob_bestWorth ob_row ob_tenDebts ob_tenMany ob_fewestBy ob_covered ob_queue ob_cameBy ob_parent ob_met ob_calls ob_callMany ob_calledOn ob_saved ob_many ob_width ob_numbers ob_moving), (ce_i4 y ob_many fob_many), (ce_i4 y ob_width fob_width), (ce_l240 y ob_numbers fob_numbers), (ce_l60 y ob_moving fob_moving)] sz)) (va_A [(ce_X10 ob ob_thrown ob_world ob_images ob_hasImage ob_tape ob_taped ob_five ob_size ob_at ob_from ob_token ob_value ob_faultKind ob_faultPlace ob_fresh ob_parts ob_houses ob_houseMany ob_worthOf ob_byCall ob_over ob_bestSet ob_bestOver ob_bestWorth ob_row ob_tenDebts ob_tenMany ob_fewestBy ob_covered ob_queue ob_cameBy ob_parent ob_met ob_calls ob_callMany ob_calledOn ob_saved ob_many ob_width ob_numbers ob_moving), (ce_i4 y ob_many fob_many), (ce_i4 y ob_width fob_width), (ce_l240 y ob_numbers fob_numbers), (ce_l60 y ob_moving fob_moving)] sz)) 0 0 (va_A [(ce_X10 ob ob_thrown ob_world ob_images ob_hasImage ob_tape ob_taped ob_five ob_size ob_at ob_from ob_token ob_value ob_faultKind ob_faultPlace ob_fresh ob_parts ob_houses ob_houseMany ob_worthOf ob_byCall ob_over ob_bestSet ob_bestOver ob_bestWorth ob_row ob_tenDebts ob_tenMany ob_fewestBy ob_covered ob_queue ob_cameBy ob_parent ob_met ob_calls ob_callMany ob_calledOn ob_saved ob_many ob_width ob_numbers ob_moving), (ce_i4 y ob_many fob_many), (ce_i4 y ob_width fob_width), (ce_l240 y ob_numbers fob_numbers), (ce_l60 y ob_moving fob_moving)] sz) := by
  refine Met.ofW (cc := cX10_paste) (maxL := 7) (ret := (some .int)) (by decide) rfl ?_
  intro p e s m args below meth c s₁ B hml hv
  obtain ⟨rfl, hsz, hP, hK, hD0⟩ := hv
  have hx := B.exec
  have hb := B.bytes
  have hr := B.returns
  have hw0 : ∀ w ∈ wAll, w.before _ s = true := fun w h => atoms_spec (ws := Cond.code yX10_paste cX10_paste 7 (some .int) :: wAll) B.pre w (List.mem_cons_of_mem _ h)
  have hown : s.vm.findClass RX10 = some m.cls := findClass_of_methodNamed B.named
  subst hsz
  have hD := hD0.self (sz := s.heap.size)
  generalize hAe : va_A [(ce_X10 ob ob_thrown ob_world ob_images ob_hasImage ob_tape ob_taped ob_five ob_size ob_at ob_from ob_token ob_value ob_faultKind ob_faultPlace ob_fresh ob_parts ob_houses ob_houseMany ob_worthOf ob_byCall ob_over ob_bestSet ob_bestOver ob_bestWorth ob_row ob_tenDebts ob_tenMany ob_fewestBy ob_covered ob_queue ob_cameBy ob_parent ob_met ob_calls ob_callMany ob_calledOn ob_saved ob_many ob_width ob_numbers ob_moving), (ce_i4 y ob_many fob_many), (ce_i4 y ob_width fob_width), (ce_l240 y ob_numbers fob_numbers), (ce_l60 y ob_moving fob_moving)] s.heap.size = A at hD ⊢
  have hA : ∀ q : Nat, s.heap.size ≤ q → A q := fun q h => by rw [← hAe]; exact Or.inr h
  have hS : va_S A s.heap s.heap [] := va_S.rf
  have hP : va_P G vwCl [(ce_X10 ob ob_thrown ob_world ob_images ob_hasImage ob_tape ob_taped ob_five ob_size ob_at ob_from ob_token ob_value ob_faultKind ob_faultPlace ob_fresh ob_parts ob_houses ob_houseMany ob_worthOf ob_byCall ob_over ob_bestSet ob_bestOver ob_bestWorth ob_row ob_tenDebts ob_tenMany ob_fewestBy ob_covered ob_queue ob_cameBy ob_parent ob_met ob_calls ob_callMany ob_calledOn ob_saved ob_many ob_width ob_numbers ob_moving), (ce_i4 y ob_many fob_many), (ce_i4 y ob_width fob_width), (ce_l240 y ob_numbers fob_numbers), (ce_l60 y ob_moving fob_moving)] s.heap := hP
  have hl := lv_entry ([.ref ob, .int 0, .int a2, .int 3, .int a4, .int a5]) (n := 7) (Nat.le_of_ble_eq_true rfl)
  rw [lg_entry_eq]
  generalize (lg_sl ([.ref ob, .int 0, .int a2, .int 3, .int a4, .int a5]) ++ List.replicate (7 - (lg_sl ([.ref ob, .int 0, .int a2, .int 3, .int a4, .int a5])).length) Slot.unset).toArray = ls at hl ⊢
  have hl : lv_has ls 7 [(0, .ref ob), (1, .int 0), (2, .int a2), (3, .int 3), (4, .int a4), (5, .int a5)] := hl
  refine lv_iload_n hx hb dX10_paste_0 rfl (lv_at hl 1 rfl) ?_
  refine cSim (As := [.int 0]) (rest := []) ⟨hx, hb, hml, hown, hw0⟩ hA hK hP hD hS [] (fisSlotM l G y _ 0 ) rfl ⟨(callB_of 1 hw0 (gA m_543) rfl rfl rfl (hw0 _ m_41) (hw0 _ m_433) cb_X10_isSlot ⟨Nat.le_of_ble_eq_true rfl, Nat.le_of_ble_eq_true rfl⟩), (hw0 _ m_434)⟩ rfl hl.1 (Nat.le_of_ble_eq_true rfl) dX10_paste_1 ⟨Nat.le_of_ble_eq_true rfl, Nat.le_of_ble_eq_true rfl⟩ (fun r_1001 w_1001 H locs hw_1001 hP hD hS => ?_)
  rcases hw_1001 with ⟨h_1002, rfl, rfl⟩ | ⟨h_1003, h_1004, rfl, rfl⟩
  · skip
    exact False.elim (by have h9 : Int32.toInt 0 = 0 := (by decide); omega)
  · skip
    obtain ⟨hP, hD⟩ : vPD G A H [(ce_X10 ob ob_thrown ob_world ob_images ob_hasImage ob_tape ob_taped ob_five ob_size ob_at ob_from ob_token ob_value ob_faultKind ob_faultPlace ob_fresh ob_parts ob_houses ob_houseMany ob_worthOf ob_byCall ob_over ob_bestSet ob_bestOver ob_bestWorth ob_row ob_tenDebts ob_tenMany ob_fewestBy ob_covered ob_queue ob_cameBy ob_parent ob_met ob_calls ob_callMany ob_calledOn ob_saved ob_many ob_width ob_numbers ob_moving), (ce_i4 y ob_many fob_many), (ce_i4 y ob_width fob_width), (ce_l240 y ob_numbers fob_numbers), (ce_l60 y ob_moving fob_moving)] := ⟨hP, hD⟩
    refine lv_if_eq (tgt := 14) hx hb dX10_paste_4 (by decide) (fun c9 => absurd c9 (by decide)) (fun _ => ?_)
    refine lv_iload_n hx hb dX10_paste_7 rfl (lv_at hl 3 rfl) ?_
    refine cSim (As := [.int 3]) (rest := []) ⟨hx, hb, hml, hown, hw0⟩ hA hK hP hD hS [] (fisSlotM l G y _ 3 ) rfl ⟨(callB_of 1 hw0 (gA m_543) rfl rfl rfl (hw0 _ m_41) (hw0 _ m_433) cb_X10_isSlot ⟨Nat.le_of_ble_eq_true rfl, Nat.le_of_ble_eq_true rfl⟩), (hw0 _ m_434)⟩ rfl hl.1 (Nat.le_of_ble_eq_true rfl) dX10_paste_8 ⟨Nat.le_of_ble_eq_true rfl, Nat.le_of_ble_eq_true rfl⟩ (fun r_1005 w_1005 H locs hw_1005 hP hD hS => ?_)
    rcases hw_1005 with ⟨h_1006, rfl, rfl⟩ | ⟨h_1007, h_1008, rfl, rfl⟩
    · skip
      exact False.elim (by have h9 : Int32.toInt 3 = 3 := (by decide); omega)
    · skip
      obtain ⟨hP, hD⟩ : vPD G A H [(ce_X10 ob ob_thrown ob_world ob_images ob_hasImage ob_tape ob_taped ob_five ob_size ob_at ob_from ob_token ob_value ob_faultKind ob_faultPlace ob_fresh ob_parts ob_houses ob_houseMany ob_worthOf ob_byCall ob_over ob_bestSet ob_bestOver ob_bestWorth ob_row ob_tenDebts ob_tenMany ob_fewestBy ob_covered ob_queue ob_cameBy ob_parent ob_met ob_calls ob_callMany ob_calledOn ob_saved ob_many ob_width ob_numbers ob_moving), (ce_i4 y ob_many fob_many), (ce_i4 y ob_width fob_width), (ce_l240 y ob_numbers fob_numbers), (ce_l60 y ob_moving fob_moving)] := ⟨hP, hD⟩
      refine lv_if_ne (tgt := 17) hx hb dX10_paste_11 (by decide) (fun _ => ?_) (fun c9 => absurd c9 (by decide))
      refine lv_aload_n hx hb dX10_paste_17 rfl (lv_at hl 0 rfl) ?_
      refine va_get (D := G) (ci := 10) (v := .ref ob_many) (C := RX10) (T := TX10) (N := 41) hx hb hw0 inA_wsX100 hown hK.1 hP 0 rfl rfl 37 (by decide) (hw0 _ m_406) (fun _ h9 => h9) rfl dX10_paste_18 ?_
      refine lv_iload_n hx hb dX10_paste_21 rfl (lv_at hl 1 rfl) ?_
      refine va_iald hx hb hK.1 hP 1 1 rfl rfl (vi (bkc (x := 0) (c := 0) (by decide)) (by decide)) dX10_paste_22 ?_
      refine lv_topi (fun v_1009 ev_1009 => ?_)
      have bv_1009 : (-1 : Int) ≤ v_1009.toInt ∧ v_1009.toInt ≤ 60 := rd_b ev_1009 p_fob_many
      have yv_1009 : v_1009.toInt = (fob_many 0).toInt := congrArg Int32.toInt ev_1009
      refine lv_iconst (v := (-1)) hx hb dX10_paste_23 (by decide) ?_
      refine lv_icmp_eq (tgt := 37) hx hb dX10_paste_24 (by decide) (fun c_1010 => ?_) (fun c_1010 => ?_)
      · skip
        have nc_1010 := nb_eq (-1) (-1) c_1010 bv_1009 (bkc (x := (-1)) (c := -1) (by decide)) (by decide)
        refine lv_bipush (v := (-6)) hx hb dX10_paste_37 (by decide) ?_
        exact W.iret (v := (-6)) hx hb hr (fun t ht hW => ⟨⟨(-6), _, rfl, Or.inl (⟨by have h90 : Int32.toInt (-6) = -6 := (by decide); have h91 : Int32.toInt 0 = 0 := (by decide); have h92 : Int32.toInt 3 = 3 := (by decide); omega, rfl, rfl⟩), by rw [ht]; exact hP, hD⟩, hS.F ht⟩) hS.2.2 dX10_paste_39
      · skip
        have nc_1010 := nb_ne (0) (60) c_1010 bv_1009 (k := -1) (by decide) (by decide)
        refine lv_aload_n hx hb dX10_paste_27 rfl (lv_at hl 0 rfl) ?_
        refine va_get (D := G) (ci := 10) (v := .ref ob_many) (C := RX10) (T := TX10) (N := 41) hx hb hw0 inA_wsX100 hown hK.1 hP 0 rfl rfl 37 (by decide) (hw0 _ m_406) (fun _ h9 => h9) rfl dX10_paste_28 ?_
        refine lv_iload_n hx hb dX10_paste_31 rfl (lv_at hl 3 rfl) ?_
        refine va_iald hx hb hK.1 hP 1 1 rfl rfl (vi (bkc (x := 3) (c := 3) (by decide)) (by decide)) dX10_paste_32 ?_
        refine lv_topi (fun v_1011 ev_1011 => ?_)
        have bv_1011 : (-1 : Int) ≤ v_1011.toInt ∧ v_1011.toInt ≤ 60 := rd_b ev_1011 p_fob_many
        have yv_1011 : v_1011.toInt = (fob_many 3).toInt := congrArg Int32.toInt ev_1011
        refine lv_iconst (v := (-1)) hx hb dX10_paste_33 (by decide) ?_
        refine lv_icmp_ne (tgt := 40) hx hb dX10_paste_34 (by decide) (fun c_1012 => ?_) (fun c_1012 => ?_)
        · skip
          have nc_1012 := nb_ne (0) (60) c_1012 bv_1011 (k := -1) (by decide) (by decide)
          refine lv_aload_n hx hb dX10_paste_40 rfl (lv_at hl 0 rfl) ?_
          refine va_get (D := G) (ci := 10) (v := .ref ob_width) (C := RX10) (T := TX10) (N := 41) hx hb hw0 inA_wsX100 hown hK.1 hP 0 rfl rfl 38 (by decide) (hw0 _ m_527) (fun _ h9 => h9) rfl dX10_paste_41 ?_
          refine lv_iload_n hx hb dX10_paste_44 rfl (lv_at hl 1 rfl) ?_
          refine va_iald hx hb hK.1 hP 2 1 rfl rfl (vi (bkc (x := 0) (c := 0) (by decide)) (by decide)) dX10_paste_45 ?_
          refine lv_topi (fun v_1013 ev_1013 => ?_)
          have bv_1013 : (0 : Int) ≤ v_1013.toInt ∧ v_1013.toInt ≤ 3 := rd_b ev_1013 p_fob_width
          have yv_1013 : v_1013.toInt = (fob_width 0).toInt := congrArg Int32.toInt ev_1013
          refine lv_aload_n hx hb dX10_paste_46 rfl (lv_at hl 0 rfl) ?_
          refine va_get (D := G) (ci := 10) (v := .ref ob_width) (C := RX10) (T := TX10) (N := 41) hx hb hw0 inA_wsX100 hown hK.1 hP 0 rfl rfl 38 (by decide) (hw0 _ m_527) (fun _ h9 => h9) rfl dX10_paste_47 ?_
          refine lv_iload_n hx hb dX10_paste_50 rfl (lv_at hl 3 rfl) ?_
          refine va_iald hx hb hK.1 hP 2 1 rfl rfl (vi (bkc (x := 3) (c := 3) (by decide)) (by decide)) dX10_paste_51 ?_
          refine lv_topi (fun v_1014 ev_1014 => ?_)
          have bv_1014 : (0 : Int) ≤ v_1014.toInt ∧ v_1014.toInt ≤ 3 := rd_b ev_1014 p_fob_width
          have yv_1014 : v_1014.toInt = (fob_width 3).toInt := congrArg Int32.toInt ev_1014
          refine lv_icmp_eq (tgt := 58) hx hb dX10_paste_52 (by decide) (fun c_1015 => ?_) (fun c_1015 => ?_)
          · skip
            have nc_1015 := nb_eq (0) (3) c_1015 bv_1013 bv_1014 (by decide)
            refine lv_iload_n hx hb dX10_paste_58 rfl (lv_at hl 2 rfl) ?_
            refine lv_if_lt (tgt := 107) hx hb dX10_paste_59 (by decide) (fun c_1016 => ?_) (fun c_1016 => ?_)
            · skip
              have nc_1016 := nb_lt (-1) (0) c_1016 (btop a2) (bkc (x := 0) (c := 0) (by decide)) (by decide)
              refine lv_bipush (v := (-7)) hx hb dX10_paste_107 (by decide) ?_
              exact W.iret (v := (-7)) hx hb hr (fun t ht hW => ⟨⟨(-7), _, rfl, Or.inr (Or.inl (⟨by have h90 : Int32.toInt (-7) = -7 := (by decide); have h91 : Int32.toInt 0 = 0 := (by decide); have h92 : Int32.toInt 3 = 3 := (by decide); omega, rfl, rfl⟩)), by rw [ht]; exact hP, hD⟩, hS.F ht⟩) hS.2.2 dX10_paste_109
            · skip
              have nc_1016 := nb_nlt (0) (0) c_1016 (bkc (x := 0) (c := 0) (by decide)) (btop a2) (by decide)
              refine lv_iload hx hb dX10_paste_62 (lv_at hl 4 rfl) ?_
              refine lv_if_lt (tgt := 107) hx hb dX10_paste_64 (by decide) (fun c_1017 => ?_) (fun c_1017 => ?_)
              · skip
                have nc_1017 := nb_lt (-1) (0) c_1017 (btop a4) (bkc (x := 0) (c := 0) (by decide)) (by decide)
                refine lv_bipush (v := (-7)) hx hb dX10_paste_107 (by decide) ?_
                exact W.iret (v := (-7)) hx hb hr (fun t ht hW => ⟨⟨(-7), _, rfl, Or.inr (Or.inl (⟨by have h90 : Int32.toInt (-7) = -7 := (by decide); have h91 : Int32.toInt 0 = 0 := (by decide); have h92 : Int32.toInt 3 = 3 := (by decide); omega, rfl, rfl⟩)), by rw [ht]; exact hP, hD⟩, hS.F ht⟩) hS.2.2 dX10_paste_109
              · skip
                have nc_1017 := nb_nlt (0) (0) c_1017 (bkc (x := 0) (c := 0) (by decide)) (btop a4) (by decide)
                refine lv_iload hx hb dX10_paste_67 (lv_at hl 5 rfl) ?_
                refine lv_if_lt (tgt := 107) hx hb dX10_paste_69 (by decide) (fun c_1018 => ?_) (fun c_1018 => ?_)
                · skip
                  have nc_1018 := nb_lt (-1) (0) c_1018 (btop a5) (bkc (x := 0) (c := 0) (by decide)) (by decide)
                  refine lv_bipush (v := (-7)) hx hb dX10_paste_107 (by decide) ?_
                  exact W.iret (v := (-7)) hx hb hr (fun t ht hW => ⟨⟨(-7), _, rfl, Or.inr (Or.inl (⟨by have h90 : Int32.toInt (-7) = -7 := (by decide); have h91 : Int32.toInt 0 = 0 := (by decide); have h92 : Int32.toInt 3 = 3 := (by decide); omega, rfl, rfl⟩)), by rw [ht]; exact hP, hD⟩, hS.F ht⟩) hS.2.2 dX10_paste_109
                · skip
                  have nc_1018 := nb_nlt (0) (0) c_1018 (bkc (x := 0) (c := 0) (by decide)) (btop a5) (by decide)
                  refine lv_iload_n hx hb dX10_paste_72 rfl (lv_at hl 2 rfl) ?_
                  refine lv_i2l hx hb dX10_paste_73 rfl ?_
                  have kk_1019 : ((a2).toInt64).toInt = (a2).toInt := Int32.toInt_toInt64 _
                  refine lv_iload hx hb dX10_paste_74 (lv_at hl 5 rfl) ?_
                  refine lv_i2l hx hb dX10_paste_76 rfl ?_
                  have kk_1020 : ((a5).toInt64).toInt = (a5).toInt := Int32.toInt_toInt64 _
                  refine lv_ladd hx hb dX10_paste_77 ?_
                  refine lv_topl (fun v_1021 ev_1021 => ?_)
                  have qv_1021 := la_add ev_1021
                  refine lv_aload_n hx hb dX10_paste_78 rfl (lv_at hl 0 rfl) ?_
                  refine va_get (D := G) (ci := 10) (v := .ref ob_many) (C := RX10) (T := TX10) (N := 41) hx hb hw0 inA_wsX100 hown hK.1 hP 0 rfl rfl 37 (by decide) (hw0 _ m_406) (fun _ h9 => h9) rfl dX10_paste_79 ?_
                  refine lv_iload_n hx hb dX10_paste_82 rfl (lv_at hl 1 rfl) ?_
                  refine va_iald hx hb hK.1 hP 1 1 rfl rfl (vi (bkc (x := 0) (c := 0) (by decide)) (by decide)) dX10_paste_83 ?_
                  refine lv_topi (fun v_1022 ev_1022 => ?_)
                  obtain rfl : v_1009 = v_1022 := (ev_1022.trans (ev_1009.symm)).symm
                  refine lv_i2l hx hb dX10_paste_84 rfl ?_
                  have kk_1023 : ((v_1009).toInt64).toInt = (v_1009).toInt := Int32.toInt_toInt64 _
                  refine W.lcmp hx hb dX10_paste_85 ?_
                  refine lv_if_gt (tgt := 107) hx hb dX10_paste_86 (by decide) (fun c_1024 => ?_) (fun c_1024 => ?_)
                  · skip
                    have nc_1024 := jl_gt c_1024
                    refine lv_bipush (v := (-7)) hx hb dX10_paste_107 (by decide) ?_
                    exact W.iret (v := (-7)) hx hb hr (fun t ht hW => ⟨⟨(-7), _, rfl, Or.inr (Or.inl (⟨by have h90 : Int32.toInt (-7) = -7 := (by decide); have h91 : Int32.toInt 0 = 0 := (by decide); have h92 : Int32.toInt 3 = 3 := (by decide); omega, rfl, rfl⟩)), by rw [ht]; exact hP, hD⟩, hS.F ht⟩) hS.2.2 dX10_paste_109
                  · skip
                    have nc_1024 := jl_ngt c_1024
                    refine lv_iload hx hb dX10_paste_89 (lv_at hl 4 rfl) ?_
                    refine lv_i2l hx hb dX10_paste_91 rfl ?_
                    have kk_1025 : ((a4).toInt64).toInt = (a4).toInt := Int32.toInt_toInt64 _
                    refine lv_iload hx hb dX10_paste_92 (lv_at hl 5 rfl) ?_
                    refine lv_i2l hx hb dX10_paste_94 rfl ?_
                    have kk_1026 : ((a5).toInt64).toInt = (a5).toInt := Int32.toInt_toInt64 _
                    refine lv_ladd hx hb dX10_paste_95 ?_
                    refine lv_topl (fun v_1027 ev_1027 => ?_)
                    have qv_1027 := la_add ev_1027
                    refine lv_aload_n hx hb dX10_paste_96 rfl (lv_at hl 0 rfl) ?_
                    refine va_get (D := G) (ci := 10) (v := .ref ob_many) (C := RX10) (T := TX10) (N := 41) hx hb hw0 inA_wsX100 hown hK.1 hP 0 rfl rfl 37 (by decide) (hw0 _ m_406) (fun _ h9 => h9) rfl dX10_paste_97 ?_
                    refine lv_iload_n hx hb dX10_paste_100 rfl (lv_at hl 3 rfl) ?_
                    refine va_iald hx hb hK.1 hP 1 1 rfl rfl (vi (bkc (x := 3) (c := 3) (by decide)) (by decide)) dX10_paste_101 ?_
                    refine lv_topi (fun v_1028 ev_1028 => ?_)
                    obtain rfl : v_1011 = v_1028 := (ev_1028.trans (ev_1011.symm)).symm
                    refine lv_i2l hx hb dX10_paste_102 rfl ?_
                    have kk_1029 : ((v_1011).toInt64).toInt = (v_1011).toInt := Int32.toInt_toInt64 _
                    refine W.lcmp hx hb dX10_paste_103 ?_
                    refine lv_if_le (tgt := 110) hx hb dX10_paste_104 (by decide) (fun c_1030 => ?_) (fun c_1030 => ?_)
                    · skip
                      have nc_1030 := jl_le c_1030
                      have h_1031 : (0 : Int) ≤ a2.toInt ∧ a2.toInt ≤ 60 := by omega
                      have h_1032 : (0 : Int) ≤ a4.toInt ∧ a4.toInt ≤ 60 := by omega
                      have h_1033 : (0 : Int) ≤ a5.toInt ∧ a5.toInt ≤ 60 := by omega
                      refine lv_iconst (v := 0) hx hb dX10_paste_110 (by decide) ?_
                      refine lv_istore (lv' := [(6, .int 0), (0, .ref ob), (1, .int 0), (2, .int a2), (3, .int 3), (4, .int a4), (5, .int a5)]) hx hb dX10_paste_111 hl (by decide) rfl (fun ls hl => ?_)
                      refine loopX (fun n H locs ls st => ∃ (v_1139 : Int32) (f_1140 : Nat → Int64), (60 - v_1139.toInt).toNat = n ∧ ((0 : Int) ≤ v_1139.toInt ∧ v_1139.toInt ≤ 60) ∧ st = [] ∧ vPD G A H [(ce_X10 ob ob_thrown ob_world ob_images ob_hasImage ob_tape ob_taped ob_five ob_size ob_at ob_from ob_token ob_value ob_faultKind ob_faultPlace ob_fresh ob_parts ob_houses ob_houseMany ob_worthOf ob_byCall ob_over ob_bestSet ob_bestOver ob_bestWorth ob_row ob_tenDebts ob_tenMany ob_fewestBy ob_covered ob_queue ob_cameBy ob_parent ob_met ob_calls ob_callMany ob_calledOn ob_saved ob_many ob_width ob_numbers ob_moving), (ce_i4 y ob_many fob_many), (ce_i4 y ob_width fob_width), (ce_l240 y ob_numbers fob_numbers), (ce_l60 y ob_moving f_1140)] ∧ va_S A s.heap H locs ∧ lv_has ls 7 [(6, .int v_1139), (0, .ref ob), (1, .int 0), (2, .int a2), (3, .int 3), (4, .int a4), (5, .int a5)]) ?_ (n := (60 - (0 : Int32).toInt).toNat) ⟨0, fob_moving, rfl, (bw (0) (60) (bkc (x := 0) (c := 0) (by decide)) (by decide)), rfl, ⟨hP, hD⟩, hS, lv_sub hl [0, 1, 2, 3, 4, 5, 6] rfl⟩
                      rintro n ih_1147 H locs ls st ⟨v_1139, f_1140, hn_1147, bv_1139, rfl, ⟨hP, hD⟩, hS, hl⟩
                      refine lv_iload hx hb dX10_paste_113 (lv_at hl 0 rfl) ?_
                      refine lv_iload hx hb dX10_paste_115 (lv_at hl 6 rfl) ?_
                      refine lv_icmp_ge (tgt := 147) hx hb dX10_paste_117 (by decide) (fun c_1148 => ?_) (fun c_1148 => ?_)
                      · skip
                        have nc_1148 := nb_le (60) (0) c_1148 h_1033 bv_1139 (by decide)
                        refine lv_iconst (v := 0) hx hb dX10_paste_147 (by decide) ?_
                        refine lv_istore (lv' := [(6, .int 0), (0, .ref ob), (1, .int 0), (2, .int a2), (3, .int 3), (4, .int a4), (5, .int a5)]) hx hb dX10_paste_148 hl (by decide) rfl (fun ls hl => ?_)
                        refine loopX (fun n H locs ls st => ∃ (v_1266 : Int32) (f_1267 : Nat → Int64), (60 - v_1266.toInt).toNat = n ∧ ((0 : Int) ≤ v_1266.toInt ∧ v_1266.toInt ≤ 60) ∧ st = [] ∧ vPD G A H [(ce_X10 ob ob_thrown ob_world ob_images ob_hasImage ob_tape ob_taped ob_five ob_size ob_at ob_from ob_token ob_value ob_faultKind ob_faultPlace ob_fresh ob_parts ob_houses ob_houseMany ob_worthOf ob_byCall ob_over ob_bestSet ob_bestOver ob_bestWorth ob_row ob_tenDebts ob_tenMany ob_fewestBy ob_covered ob_queue ob_cameBy ob_parent ob_met ob_calls ob_callMany ob_calledOn ob_saved ob_many ob_width ob_numbers ob_moving), (ce_i4 y ob_many fob_many), (ce_i4 y ob_width fob_width), (ce_l240 y ob_numbers f_1267), (ce_l60 y ob_moving f_1140)] ∧ va_S A s.heap H locs ∧ lv_has ls 7 [(6, .int v_1266), (0, .ref ob), (3, .int 3), (4, .int a4), (5, .int a5)]) ?_ (n := (60 - (0 : Int32).toInt).toNat) ⟨0, fob_numbers, rfl, (bw (0) (60) (bkc (x := 0) (c := 0) (by decide)) (by decide)), rfl, ⟨hP, hD⟩, hS, lv_sub hl [0, 1, 4, 5, 6] rfl⟩
                        rintro n ih_1275 H locs ls st ⟨v_1266, f_1267, hn_1275, bv_1266, rfl, ⟨hP, hD⟩, hS, hl⟩
                        refine lv_iload hx hb dX10_paste_150 (lv_at hl 0 rfl) ?_
                        refine lv_iload hx hb dX10_paste_152 (lv_at hl 4 rfl) ?_
                        refine lv_icmp_ge (tgt := 185) hx hb dX10_paste_154 (by decide) (fun c_1276 => ?_) (fun c_1276 => ?_)
                        · skip
                          have nc_1276 := nb_le (60) (0) c_1276 nc_1148.1 bv_1266 (by decide)
                          refine lv_iconst (v := 0) hx hb dX10_paste_185 (by decide) ?_
                          exact W.iret (v := 0) hx hb hr (fun t ht hW => ⟨⟨0, _, rfl, Or.inr (Or.inr (Or.inr (⟨f_1267, f_1140, h_1031, h_1032, nc_1276.1, by have h90 : Int32.toInt 0 = 0 := (by decide); have h91 : Int32.toInt 3 = 3 := (by decide); omega, rfl, rfl⟩))), by rw [ht]; exact hP, hD⟩, hS.F ht⟩) hS.2.2 dX10_paste_186
                        · skip
                          have nc_1276 := nb_nle (59) (1) c_1276 bv_1266 nc_1148.1 (by decide)
                          refine lv_aload_n hx hb dX10_paste_157 rfl (lv_at hl 1 rfl) ?_
                          refine va_get (D := G) (ci := 10) (v := .ref ob_numbers) (C := RX10) (T := TX10) (N := 41) hx hb hw0 inA_wsX100 hown hK.1 hP 0 rfl rfl 39 (by decide) (hw0 _ m_435) (fun _ h9 => h9) rfl dX10_paste_158 ?_
                          refine lv_bipush (v := 60) hx hb dX10_paste_161 (by decide) ?_
                          refine lv_iload_n hx hb dX10_paste_163 rfl (lv_at hl 2 rfl) ?_
                          refine lv_imul hx hb dX10_paste_164 ?_
                          refine lv_topi (fun v_1277 ev_1277 => ?_)
                          obtain rfl : 180 = v_1277 := (ev_1277.trans (by decide)).symm
                          refine lv_iload hx hb dX10_paste_165 (lv_at hl 3 rfl) ?_
                          refine lv_iadd hx hb dX10_paste_167 ?_
                          refine lv_topi (fun v_1278 ev_1278 => ?_)
                          have qv_1278 := ba_add ev_1278 (bkc (x := 180) (c := 180) (by decide)) h_1032 (by decide)
                          have bv_1278 : (180 : Int) ≤ v_1278.toInt ∧ v_1278.toInt ≤ 240 := bq_add qv_1278 (bkc (x := 180) (c := 180) (by decide)) h_1032 _ _ (by decide)
                          have qv_1278 : v_1278.toInt = (180) + a4.toInt := qv_1278
                          refine lv_iload hx hb dX10_paste_168 (lv_at hl 0 rfl) ?_
                          refine lv_iadd hx hb dX10_paste_170 ?_
                          refine lv_topi (fun v_1279 ev_1279 => ?_)
                          have qv_1279 := ba_add ev_1279 bv_1278 nc_1276.1 (by decide)
                          have bv_1279 : (180 : Int) ≤ v_1279.toInt ∧ v_1279.toInt ≤ 299 := bq_add qv_1279 bv_1278 nc_1276.1 _ _ (by decide)
                          have h_1280 : (0 : Int) ≤ v_1279.toInt ∧ v_1279.toInt ≤ 239 := by omega
                          refine lv_aload_n hx hb dX10_paste_171 rfl (lv_at hl 1 rfl) ?_
                          refine va_get (D := G) (ci := 10) (v := .ref ob_moving) (C := RX10) (T := TX10) (N := 41) hx hb hw0 inA_wsX100 hown hK.1 hP 0 rfl rfl 40 (by decide) (hw0 _ m_529) (fun _ h9 => h9) rfl dX10_paste_172 ?_
                          refine lv_iload hx hb dX10_paste_175 (lv_at hl 0 rfl) ?_
                          refine va_lald hx hb hK.1 hP 4 2 rfl rfl (vi nc_1276.1 (by decide)) dX10_paste_177 ?_
                          refine lv_topl (fun v_1281 ev_1281 => ?_)
                          refine va_last hx hb hK.1 hP hD hS 3 2 rfl rfl (vi h_1280 (by decide)) dX10_paste_178 (fun H locs hP hD hS => ?_)
                          generalize hf_1282 : (vp_updL f_1267 (v_1279 : Int32).toNatClampNeg v_1281) = f_1282 at hP hD
                          obtain ⟨hP, hD⟩ : vPD G A H [(ce_X10 ob ob_thrown ob_world ob_images ob_hasImage ob_tape ob_taped ob_five ob_size ob_at ob_from ob_token ob_value ob_faultKind ob_faultPlace ob_fresh ob_parts ob_houses ob_houseMany ob_worthOf ob_byCall ob_over ob_bestSet ob_bestOver ob_bestWorth ob_row ob_tenDebts ob_tenMany ob_fewestBy ob_covered ob_queue ob_cameBy ob_parent ob_met ob_calls ob_callMany ob_calledOn ob_saved ob_many ob_width ob_numbers ob_moving), (ce_i4 y ob_many fob_many), (ce_i4 y ob_width fob_width), (ce_l240 y ob_numbers f_1282), (ce_l60 y ob_moving f_1140)] := ⟨hP, hD⟩
                          obtain ⟨v_1283, ev_1283⟩ : ∃ z : Int32, z = v_1266 + 1 := ⟨_, rfl⟩
                          have qv_1283 := ba_add ev_1283 nc_1276.1 (bkc (x := 1) (c := 1) (by decide)) (by decide)
                          have bv_1283 : (1 : Int) ≤ v_1283.toInt ∧ v_1283.toInt ≤ 60 := bq_add qv_1283 nc_1276.1 (bkc (x := 1) (c := 1) (by decide)) _ _ (by decide)
                          have qv_1283 : v_1283.toInt = v_1266.toInt + (1) := qv_1283
                          refine lv_iinc (v := v_1283) (lv' := [(6, .int v_1283), (0, .ref ob), (3, .int 3), (4, .int a4), (5, .int a5)]) hx hb dX10_paste_179 hl (k := 0) rfl (ev_1283.symm) (by decide) rfl (fun ls hl => ?_)
                          refine lv_goto (tgt := 150) hx hb dX10_paste_182 (by decide) ?_
                          exact ih_1275 _ (ml_inc (hi := 60) hn_1275 qv_1283 (by decide) ((bw (0) (60) bv_1283 (by decide))).2) _ _ _ _ ⟨v_1283, f_1282, rfl, (bw (0) (60) bv_1283 (by decide)), rfl, ⟨hP, hD⟩, hS, lv_sub hl [0, 1, 2, 3, 4] rfl⟩
                      · skip
                        have nc_1148 := nb_nle (59) (1) c_1148 bv_1139 h_1033 (by decide)
                        refine lv_aload_n hx hb dX10_paste_120 rfl (lv_at hl 1 rfl) ?_
                        refine va_get (D := G) (ci := 10) (v := .ref ob_moving) (C := RX10) (T := TX10) (N := 41) hx hb hw0 inA_wsX100 hown hK.1 hP 0 rfl rfl 40 (by decide) (hw0 _ m_529) (fun _ h9 => h9) rfl dX10_paste_121 ?_
                        refine lv_iload hx hb dX10_paste_124 (lv_at hl 0 rfl) ?_
                        refine lv_aload_n hx hb dX10_paste_126 rfl (lv_at hl 1 rfl) ?_
                        refine va_get (D := G) (ci := 10) (v := .ref ob_numbers) (C := RX10) (T := TX10) (N := 41) hx hb hw0 inA_wsX100 hown hK.1 hP 0 rfl rfl 39 (by decide) (hw0 _ m_435) (fun _ h9 => h9) rfl dX10_paste_127 ?_
                        refine lv_bipush (v := 60) hx hb dX10_paste_130 (by decide) ?_
                        refine lv_iload_n hx hb dX10_paste_132 rfl (lv_at hl 2 rfl) ?_
                        refine lv_imul hx hb dX10_paste_133 ?_
                        refine lv_topi (fun v_1284 ev_1284 => ?_)
                        obtain rfl : 0 = v_1284 := (ev_1284.trans (by decide)).symm
                        refine lv_iload_n hx hb dX10_paste_134 rfl (lv_at hl 3 rfl) ?_
                        refine lv_iadd hx hb dX10_paste_135 ?_
                        refine lv_topi (fun v_1285 ev_1285 => ?_)
                        have qv_1285 := ba_add ev_1285 (bkc (x := 0) (c := 0) (by decide)) h_1031 (by decide)
                        have bv_1285 : (0 : Int) ≤ v_1285.toInt ∧ v_1285.toInt ≤ 60 := bq_add qv_1285 (bkc (x := 0) (c := 0) (by decide)) h_1031 _ _ (by decide)
                        have qv_1285 : v_1285.toInt = (0) + a2.toInt := qv_1285
                        refine lv_iload hx hb dX10_paste_136 (lv_at hl 0 rfl) ?_
                        refine lv_iadd hx hb dX10_paste_138 ?_
                        refine lv_topi (fun v_1286 ev_1286 => ?_)
                        have qv_1286 := ba_add ev_1286 bv_1285 nc_1148.1 (by decide)
                        have bv_1286 : (0 : Int) ≤ v_1286.toInt ∧ v_1286.toInt ≤ 119 := bq_add qv_1286 bv_1285 nc_1148.1 _ _ (by decide)
                        refine va_lald hx hb hK.1 hP 3 2 rfl rfl (vi bv_1286 (by decide)) dX10_paste_139 ?_
                        refine lv_topl (fun v_1287 ev_1287 => ?_)
                        refine va_last hx hb hK.1 hP hD hS 4 2 rfl rfl (vi nc_1148.1 (by decide)) dX10_paste_140 (fun H locs hP hD hS => ?_)
                        generalize hf_1288 : (vp_updL f_1140 (v_1139 : Int32).toNatClampNeg v_1287) = f_1288 at hP hD
                        obtain ⟨hP, hD⟩ : vPD G A H [(ce_X10 ob ob_thrown ob_world ob_images ob_hasImage ob_tape ob_taped ob_five ob_size ob_at ob_from ob_token ob_value ob_faultKind ob_faultPlace ob_fresh ob_parts ob_houses ob_houseMany ob_worthOf ob_byCall ob_over ob_bestSet ob_bestOver ob_bestWorth ob_row ob_tenDebts ob_tenMany ob_fewestBy ob_covered ob_queue ob_cameBy ob_parent ob_met ob_calls ob_callMany ob_calledOn ob_saved ob_many ob_width ob_numbers ob_moving), (ce_i4 y ob_many fob_many), (ce_i4 y ob_width fob_width), (ce_l240 y ob_numbers fob_numbers), (ce_l60 y ob_moving f_1288)] := ⟨hP, hD⟩
                        obtain ⟨v_1289, ev_1289⟩ : ∃ z : Int32, z = v_1139 + 1 := ⟨_, rfl⟩
                        have qv_1289 := ba_add ev_1289 nc_1148.1 (bkc (x := 1) (c := 1) (by decide)) (by decide)
                        have bv_1289 : (1 : Int) ≤ v_1289.toInt ∧ v_1289.toInt ≤ 60 := bq_add qv_1289 nc_1148.1 (bkc (x := 1) (c := 1) (by decide)) _ _ (by decide)
                        have qv_1289 : v_1289.toInt = v_1139.toInt + (1) := qv_1289
                        refine lv_iinc (v := v_1289) (lv' := [(6, .int v_1289), (0, .ref ob), (1, .int 0), (2, .int a2), (3, .int 3), (4, .int a4), (5, .int a5)]) hx hb dX10_paste_141 hl (k := 0) rfl (ev_1289.symm) (by decide) rfl (fun ls hl => ?_)
                        refine lv_goto (tgt := 113) hx hb dX10_paste_144 (by decide) ?_
                        exact ih_1147 _ (ml_inc (hi := 60) hn_1147 qv_1289 (by decide) ((bw (0) (60) bv_1289 (by decide))).2) _ _ _ _ ⟨v_1289, f_1288, rfl, (bw (0) (60) bv_1289 (by decide)), rfl, ⟨hP, hD⟩, hS, lv_sub hl [0, 1, 2, 3, 4, 5, 6] rfl⟩
                    · skip
                      have nc_1030 := jl_nle c_1030
                      refine lv_bipush (v := (-7)) hx hb dX10_paste_107 (by decide) ?_
                      exact W.iret (v := (-7)) hx hb hr (fun t ht hW => ⟨⟨(-7), _, rfl, Or.inr (Or.inl (⟨by have h90 : Int32.toInt (-7) = -7 := (by decide); have h91 : Int32.toInt 0 = 0 := (by decide); have h92 : Int32.toInt 3 = 3 := (by decide); omega, rfl, rfl⟩)), by rw [ht]; exact hP, hD⟩, hS.F ht⟩) hS.2.2 dX10_paste_109
          · skip
            have nc_1015 : v_1013.toInt ≠ v_1014.toInt := fun h9 => c_1015 (Int32.toInt_inj.mp h9)
            refine lv_bipush (v := (-8)) hx hb dX10_paste_55 (by decide) ?_
            exact W.iret (v := (-8)) hx hb hr (fun t ht hW => ⟨⟨(-8), _, rfl, Or.inr (Or.inr (Or.inl (⟨by have h90 : Int32.toInt (-8) = -8 := (by decide); have h91 : Int32.toInt 0 = 0 := (by decide); have h92 : Int32.toInt 3 = 3 := (by decide); omega, rfl, rfl⟩))), by rw [ht]; exact hP, hD⟩, hS.F ht⟩) hS.2.2 dX10_paste_57
        · skip
          have nc_1012 := nb_eq (-1) (-1) c_1012 bv_1011 (bkc (x := (-1)) (c := -1) (by decide)) (by decide)
          refine lv_bipush (v := (-6)) hx hb dX10_paste_37 (by decide) ?_
          exact W.iret (v := (-6)) hx hb hr (fun t ht hW => ⟨⟨(-6), _, rfl, Or.inl (⟨by have h90 : Int32.toInt (-6) = -6 := (by decide); have h91 : Int32.toInt 0 = 0 := (by decide); have h92 : Int32.toInt 3 = 3 := (by decide); omega, rfl, rfl⟩), by rw [ht]; exact hP, hD⟩, hS.F ht⟩) hS.2.2 dX10_paste_39

set_option maxHeartbeats 4000000 in
set_option maxRecDepth 100000 in
theorem fpasteM10 (l : Launch) (G : va_G) (y : Nat → ClassId) (sz : Nat) (ob : Nat) (a2 : Int32) (a4 : Int32) (a5 : Int32) (ob_thrown : Int32) (ob_world : Nat) (ob_images : Nat) (ob_hasImage : Nat) (ob_tape : Nat) (ob_taped : Int32) (ob_five : Nat) (ob_size : Int32) (ob_at : Int32) (ob_from : Int32) (ob_token : Int32) (ob_value : Int32) (ob_faultKind : Int32) (ob_faultPlace : Int32) (ob_fresh : Nat) (ob_parts : Nat) (ob_houses : Nat) (ob_houseMany : Int32) (ob_worthOf : Nat) (ob_byCall : Nat) (ob_over : Nat) (ob_bestSet : Int32) (ob_bestOver : Int32) (ob_bestWorth : Int32) (ob_row : Nat) (ob_tenDebts : Nat) (ob_tenMany : Int32) (ob_fewestBy : Nat) (ob_covered : Nat) (ob_queue : Nat) (ob_cameBy : Nat) (ob_parent : Nat) (ob_met : Nat) (ob_calls : Nat) (ob_callMany : Int32) (ob_calledOn : Nat) (ob_saved : Nat) (ob_many : Nat) (ob_width : Nat) (ob_numbers : Nat) (ob_moving : Nat) (fob_many : Nat → Int32) (fob_width : Nat → Int32) (fob_numbers : Nat → Int64) (fob_moving : Nat → Int64) (p_ob_taped : (0 : Int) ≤ ob_taped.toInt ∧ ob_taped.toInt ≤ 1400) (p_ob_size : (0 : Int) ≤ ob_size.toInt ∧ ob_size.toInt ≤ 1400) (p_ob_at : (0 : Int) ≤ ob_at.toInt ∧ ob_at.toInt ≤ 1400) (p_ob_from : (0 : Int) ≤ ob_from.toInt ∧ ob_from.toInt ≤ 1400) (p_ob_token : (0 : Int) ≤ ob_token.toInt ∧ ob_token.toInt ≤ 4) (p_ob_value : (0 : Int) ≤ ob_value.toInt ∧ ob_value.toInt ≤ 9999) (p_ob_faultKind : (0 : Int) ≤ ob_faultKind.toInt ∧ ob_faultKind.toInt ≤ 3) (p_ob_houseMany : (0 : Int) ≤ ob_houseMany.toInt ∧ ob_houseMany.toInt ≤ 10) (p_ob_bestSet : (0 : Int) ≤ ob_bestSet.toInt ∧ ob_bestSet.toInt ≤ 1023) (p_ob_bestOver : (-1 : Int) ≤ ob_bestOver.toInt ∧ ob_bestOver.toInt ≤ 180) (p_ob_tenMany : (0 : Int) ≤ ob_tenMany.toInt ∧ ob_tenMany.toInt ≤ 10) (p_ob_callMany : (0 : Int) ≤ ob_callMany.toInt ∧ ob_callMany.toInt ≤ 16) (p_fob_many : ∀ i, (-1 : Int) ≤ (fob_many i).toInt ∧ (fob_many i).toInt ≤ 60) (p_fob_width : ∀ i, (0 : Int) ≤ (fob_width i).toInt ∧ (fob_width i).toInt ≤ 3) : Met l yX10_paste (Cond.code yX10_paste cX10_paste 7 (some .int) :: wAll) ({ frames := 2, cells := 0, slots := 0, locals := 45 }) (va_Pc [.ref ob, .int 1, .int a2, .int 0, .int a4, .int a5] (kp G y sz [(ce_X10 ob ob_thrown ob_world ob_images ob_hasImage ob_tape ob_taped ob_five ob_size ob_at ob_from ob_token ob_value ob_faultKind ob_faultPlace ob_fresh ob_parts ob_houses ob_houseMany ob_worthOf ob_byCall ob_over ob_bestSet ob_bestOver ob_bestWorth ob_row ob_tenDebts ob_tenMany ob_fewestBy ob_covered ob_queue ob_cameBy ob_parent ob_met ob_calls ob_callMany ob_calledOn ob_saved ob_many ob_width ob_numbers ob_moving), (ce_i4 y ob_many fob_many), (ce_i4 y ob_width fob_width), (ce_l240 y ob_numbers fob_numbers), (ce_l60 y ob_moving fob_moving)])) (va_Qi (fun (r : Int32) (w : va_W) => (((fob_many 1).toInt = -1 ∨ (fob_many 0).toInt = -1) ∧ r = (-6) ∧ w = [(ce_X10 ob ob_thrown ob_world ob_images ob_hasImage ob_tape ob_taped ob_five ob_size ob_at ob_from ob_token ob_value ob_faultKind ob_faultPlace ob_fresh ob_parts ob_houses ob_houseMany ob_worthOf ob_byCall ob_over ob_bestSet ob_bestOver ob_bestWorth ob_row ob_tenDebts ob_tenMany ob_fewestBy ob_covered ob_queue ob_cameBy ob_parent ob_met ob_calls ob_callMany ob_calledOn ob_saved ob_many ob_width ob_numbers ob_moving), (ce_i4 y ob_many fob_many), (ce_i4 y ob_width fob_width), (ce_l240 y ob_numbers fob_numbers), (ce_l60 y ob_moving fob_moving)]) ∨ ((¬ (fob_many 1).toInt = -1 ∧ ¬ (fob_many 0).toInt = -1 ∧ (fob_width 1).toInt = (fob_width 0).toInt ∧ ¬ (0 ≤ a2.toInt ∧ 0 ≤ a4.toInt ∧ 0 ≤ a5.toInt ∧ a2.toInt + a5.toInt ≤ (fob_many 1).toInt ∧ a4.toInt + a5.toInt ≤ (fob_many 0).toInt)) ∧ r = (-7) ∧ w = [(ce_X10 ob ob_thrown ob_world ob_images ob_hasImage ob_tape ob_taped ob_five ob_size ob_at ob_from ob_token ob_value ob_faultKind ob_faultPlace ob_fresh ob_parts ob_houses ob_houseMany ob_worthOf ob_byCall ob_over ob_bestSet ob_bestOver ob_bestWorth ob_row ob_tenDebts ob_tenMany ob_fewestBy ob_covered ob_queue ob_cameBy ob_parent ob_met ob_calls ob_callMany ob_calledOn ob_saved ob_many ob_width ob_numbers ob_moving), (ce_i4 y ob_many fob_many), (ce_i4 y ob_width fob_width), (ce_l240 y ob_numbers fob_numbers), (ce_l60 y ob_moving fob_moving)]) ∨ ((¬ (fob_many 1).toInt = -1 ∧ ¬ (fob_many 0).toInt = -1 ∧ ¬ (fob_width 1).toInt = (fob_width 0).toInt) ∧ r = (-8) ∧ w = [(ce_X10 ob ob_thrown ob_world ob_images ob_hasImage ob_tape ob_taped ob_five ob_size ob_at ob_from ob_token ob_value ob_faultKind ob_faultPlace ob_fresh ob_parts ob_houses ob_houseMany ob_worthOf ob_byCall ob_over ob_bestSet ob_bestOver ob_bestWorth ob_row ob_tenDebts ob_tenMany ob_fewestBy ob_covered ob_queue ob_cameBy ob_parent ob_met ob_calls ob_callMany ob_calledOn ob_saved ob_many ob_width ob_numbers ob_moving), (ce_i4 y ob_many fob_many), (ce_i4 y ob_width fob_width), (ce_l240 y ob_numbers fob_numbers), (ce_l60 y ob_moving fob_moving)]) ∨ (∃ (f_551 : Nat → Int64) (f_552 : Nat → Int64), ((0 : Int) ≤ a2.toInt ∧ a2.toInt ≤ 60) ∧ ((0 : Int) ≤ a4.toInt ∧ a4.toInt ≤ 60) ∧ ((0 : Int) ≤ a5.toInt ∧ a5.toInt ≤ 60) ∧ (¬ (fob_many 1).toInt = -1 ∧ ¬ (fob_many 0).toInt = -1 ∧ (fob_width 1).toInt = (fob_width 0).toInt ∧ 0 ≤ a2.toInt ∧ 0 ≤ a4.toInt ∧ 0 ≤ a5.toInt ∧ a2.toInt + a5.toInt ≤ (fob_many 1).toInt ∧ a4.toInt + a5.toInt ≤ (fob_many 0).toInt) ∧ r = 0 ∧ w = [(ce_X10 ob ob_thrown ob_world ob_images ob_hasImage ob_tape ob_taped ob_five ob_size ob_at ob_from ob_token ob_value ob_faultKind ob_faultPlace ob_fresh ob_parts ob_houses ob_houseMany ob_worthOf ob_byCall ob_over ob_bestSet ob_bestOver ob_bestWorth ob_row ob_tenDebts ob_tenMany ob_fewestBy ob_covered ob_queue ob_cameBy ob_parent ob_met ob_calls ob_callMany ob_calledOn ob_saved ob_many ob_width ob_numbers ob_moving), (ce_i4 y ob_many fob_many), (ce_i4 y ob_width fob_width), (ce_l240 y ob_numbers f_551), (ce_l60 y ob_moving f_552)])) (kq G (va_A [(ce_X10 ob ob_thrown ob_world ob_images ob_hasImage ob_tape ob_taped ob_five ob_size ob_at ob_from ob_token ob_value ob_faultKind ob_faultPlace ob_fresh ob_parts ob_houses ob_houseMany ob_worthOf ob_byCall ob_over ob_bestSet ob_bestOver ob_bestWorth ob_row ob_tenDebts ob_tenMany ob_fewestBy ob_covered ob_queue ob_cameBy ob_parent ob_met ob_calls ob_callMany ob_calledOn ob_saved ob_many ob_width ob_numbers ob_moving), (ce_i4 y ob_many fob_many), (ce_i4 y ob_width fob_width), (ce_l240 y ob_numbers fob_numbers), (ce_l60 y ob_moving fob_moving)] sz)) (va_A [(ce_X10 ob ob_thrown ob_world ob_images ob_hasImage ob_tape ob_taped ob_five ob_size ob_at ob_from ob_token ob_value ob_faultKind ob_faultPlace ob_fresh ob_parts ob_houses ob_houseMany ob_worthOf ob_byCall ob_over ob_bestSet ob_bestOver ob_bestWorth ob_row ob_tenDebts ob_tenMany ob_fewestBy ob_covered ob_queue ob_cameBy ob_parent ob_met ob_calls ob_callMany ob_calledOn ob_saved ob_many ob_width ob_numbers ob_moving), (ce_i4 y ob_many fob_many), (ce_i4 y ob_width fob_width), (ce_l240 y ob_numbers fob_numbers), (ce_l60 y ob_moving fob_moving)] sz)) 0 0 (va_A [(ce_X10 ob ob_thrown ob_world ob_images ob_hasImage ob_tape ob_taped ob_five ob_size ob_at ob_from ob_token ob_value ob_faultKind ob_faultPlace ob_fresh ob_parts ob_houses ob_houseMany ob_worthOf ob_byCall ob_over ob_bestSet ob_bestOver ob_bestWorth ob_row ob_tenDebts ob_tenMany ob_fewestBy ob_covered ob_queue ob_cameBy ob_parent ob_met ob_calls ob_callMany ob_calledOn ob_saved ob_many ob_width ob_numbers ob_moving), (ce_i4 y ob_many fob_many), (ce_i4 y ob_width fob_width), (ce_l240 y ob_numbers fob_numbers), (ce_l60 y ob_moving fob_moving)] sz) := by
  refine Met.ofW (cc := cX10_paste) (maxL := 7) (ret := (some .int)) (by decide) rfl ?_
  intro p e s m args below meth c s₁ B hml hv
  obtain ⟨rfl, hsz, hP, hK, hD0⟩ := hv
  have hx := B.exec
  have hb := B.bytes
  have hr := B.returns
  have hw0 : ∀ w ∈ wAll, w.before _ s = true := fun w h => atoms_spec (ws := Cond.code yX10_paste cX10_paste 7 (some .int) :: wAll) B.pre w (List.mem_cons_of_mem _ h)
  have hown : s.vm.findClass RX10 = some m.cls := findClass_of_methodNamed B.named
  subst hsz
  have hD := hD0.self (sz := s.heap.size)
  generalize hAe : va_A [(ce_X10 ob ob_thrown ob_world ob_images ob_hasImage ob_tape ob_taped ob_five ob_size ob_at ob_from ob_token ob_value ob_faultKind ob_faultPlace ob_fresh ob_parts ob_houses ob_houseMany ob_worthOf ob_byCall ob_over ob_bestSet ob_bestOver ob_bestWorth ob_row ob_tenDebts ob_tenMany ob_fewestBy ob_covered ob_queue ob_cameBy ob_parent ob_met ob_calls ob_callMany ob_calledOn ob_saved ob_many ob_width ob_numbers ob_moving), (ce_i4 y ob_many fob_many), (ce_i4 y ob_width fob_width), (ce_l240 y ob_numbers fob_numbers), (ce_l60 y ob_moving fob_moving)] s.heap.size = A at hD ⊢
  have hA : ∀ q : Nat, s.heap.size ≤ q → A q := fun q h => by rw [← hAe]; exact Or.inr h
  have hS : va_S A s.heap s.heap [] := va_S.rf
  have hP : va_P G vwCl [(ce_X10 ob ob_thrown ob_world ob_images ob_hasImage ob_tape ob_taped ob_five ob_size ob_at ob_from ob_token ob_value ob_faultKind ob_faultPlace ob_fresh ob_parts ob_houses ob_houseMany ob_worthOf ob_byCall ob_over ob_bestSet ob_bestOver ob_bestWorth ob_row ob_tenDebts ob_tenMany ob_fewestBy ob_covered ob_queue ob_cameBy ob_parent ob_met ob_calls ob_callMany ob_calledOn ob_saved ob_many ob_width ob_numbers ob_moving), (ce_i4 y ob_many fob_many), (ce_i4 y ob_width fob_width), (ce_l240 y ob_numbers fob_numbers), (ce_l60 y ob_moving fob_moving)] s.heap := hP
  have hl := lv_entry ([.ref ob, .int 1, .int a2, .int 0, .int a4, .int a5]) (n := 7) (Nat.le_of_ble_eq_true rfl)
  rw [lg_entry_eq]
  generalize (lg_sl ([.ref ob, .int 1, .int a2, .int 0, .int a4, .int a5]) ++ List.replicate (7 - (lg_sl ([.ref ob, .int 1, .int a2, .int 0, .int a4, .int a5])).length) Slot.unset).toArray = ls at hl ⊢
  have hl : lv_has ls 7 [(0, .ref ob), (1, .int 1), (2, .int a2), (3, .int 0), (4, .int a4), (5, .int a5)] := hl
  refine lv_iload_n hx hb dX10_paste_0 rfl (lv_at hl 1 rfl) ?_
  refine cSim (As := [.int 1]) (rest := []) ⟨hx, hb, hml, hown, hw0⟩ hA hK hP hD hS [] (fisSlotM l G y _ 1 ) rfl ⟨(callB_of 1 hw0 (gA m_543) rfl rfl rfl (hw0 _ m_41) (hw0 _ m_433) cb_X10_isSlot ⟨Nat.le_of_ble_eq_true rfl, Nat.le_of_ble_eq_true rfl⟩), (hw0 _ m_434)⟩ rfl hl.1 (Nat.le_of_ble_eq_true rfl) dX10_paste_1 ⟨Nat.le_of_ble_eq_true rfl, Nat.le_of_ble_eq_true rfl⟩ (fun r_1001 w_1001 H locs hw_1001 hP hD hS => ?_)
  rcases hw_1001 with ⟨h_1002, rfl, rfl⟩ | ⟨h_1003, h_1004, rfl, rfl⟩
  · skip
    exact False.elim (by have h9 : Int32.toInt 1 = 1 := (by decide); omega)
  · skip
    obtain ⟨hP, hD⟩ : vPD G A H [(ce_X10 ob ob_thrown ob_world ob_images ob_hasImage ob_tape ob_taped ob_five ob_size ob_at ob_from ob_token ob_value ob_faultKind ob_faultPlace ob_fresh ob_parts ob_houses ob_houseMany ob_worthOf ob_byCall ob_over ob_bestSet ob_bestOver ob_bestWorth ob_row ob_tenDebts ob_tenMany ob_fewestBy ob_covered ob_queue ob_cameBy ob_parent ob_met ob_calls ob_callMany ob_calledOn ob_saved ob_many ob_width ob_numbers ob_moving), (ce_i4 y ob_many fob_many), (ce_i4 y ob_width fob_width), (ce_l240 y ob_numbers fob_numbers), (ce_l60 y ob_moving fob_moving)] := ⟨hP, hD⟩
    refine lv_if_eq (tgt := 14) hx hb dX10_paste_4 (by decide) (fun c9 => absurd c9 (by decide)) (fun _ => ?_)
    refine lv_iload_n hx hb dX10_paste_7 rfl (lv_at hl 3 rfl) ?_
    refine cSim (As := [.int 0]) (rest := []) ⟨hx, hb, hml, hown, hw0⟩ hA hK hP hD hS [] (fisSlotM l G y _ 0 ) rfl ⟨(callB_of 1 hw0 (gA m_543) rfl rfl rfl (hw0 _ m_41) (hw0 _ m_433) cb_X10_isSlot ⟨Nat.le_of_ble_eq_true rfl, Nat.le_of_ble_eq_true rfl⟩), (hw0 _ m_434)⟩ rfl hl.1 (Nat.le_of_ble_eq_true rfl) dX10_paste_8 ⟨Nat.le_of_ble_eq_true rfl, Nat.le_of_ble_eq_true rfl⟩ (fun r_1005 w_1005 H locs hw_1005 hP hD hS => ?_)
    rcases hw_1005 with ⟨h_1006, rfl, rfl⟩ | ⟨h_1007, h_1008, rfl, rfl⟩
    · skip
      exact False.elim (by have h9 : Int32.toInt 0 = 0 := (by decide); omega)
    · skip
      obtain ⟨hP, hD⟩ : vPD G A H [(ce_X10 ob ob_thrown ob_world ob_images ob_hasImage ob_tape ob_taped ob_five ob_size ob_at ob_from ob_token ob_value ob_faultKind ob_faultPlace ob_fresh ob_parts ob_houses ob_houseMany ob_worthOf ob_byCall ob_over ob_bestSet ob_bestOver ob_bestWorth ob_row ob_tenDebts ob_tenMany ob_fewestBy ob_covered ob_queue ob_cameBy ob_parent ob_met ob_calls ob_callMany ob_calledOn ob_saved ob_many ob_width ob_numbers ob_moving), (ce_i4 y ob_many fob_many), (ce_i4 y ob_width fob_width), (ce_l240 y ob_numbers fob_numbers), (ce_l60 y ob_moving fob_moving)] := ⟨hP, hD⟩
      refine lv_if_ne (tgt := 17) hx hb dX10_paste_11 (by decide) (fun _ => ?_) (fun c9 => absurd c9 (by decide))
      refine lv_aload_n hx hb dX10_paste_17 rfl (lv_at hl 0 rfl) ?_
      refine va_get (D := G) (ci := 10) (v := .ref ob_many) (C := RX10) (T := TX10) (N := 41) hx hb hw0 inA_wsX100 hown hK.1 hP 0 rfl rfl 37 (by decide) (hw0 _ m_406) (fun _ h9 => h9) rfl dX10_paste_18 ?_
      refine lv_iload_n hx hb dX10_paste_21 rfl (lv_at hl 1 rfl) ?_
      refine va_iald hx hb hK.1 hP 1 1 rfl rfl (vi (bkc (x := 1) (c := 1) (by decide)) (by decide)) dX10_paste_22 ?_
      refine lv_topi (fun v_1009 ev_1009 => ?_)
      have bv_1009 : (-1 : Int) ≤ v_1009.toInt ∧ v_1009.toInt ≤ 60 := rd_b ev_1009 p_fob_many
      have yv_1009 : v_1009.toInt = (fob_many 1).toInt := congrArg Int32.toInt ev_1009
      refine lv_iconst (v := (-1)) hx hb dX10_paste_23 (by decide) ?_
      refine lv_icmp_eq (tgt := 37) hx hb dX10_paste_24 (by decide) (fun c_1010 => ?_) (fun c_1010 => ?_)
      · skip
        have nc_1010 := nb_eq (-1) (-1) c_1010 bv_1009 (bkc (x := (-1)) (c := -1) (by decide)) (by decide)
        refine lv_bipush (v := (-6)) hx hb dX10_paste_37 (by decide) ?_
        exact W.iret (v := (-6)) hx hb hr (fun t ht hW => ⟨⟨(-6), _, rfl, Or.inl (⟨by have h90 : Int32.toInt (-6) = -6 := (by decide); have h91 : Int32.toInt 0 = 0 := (by decide); have h92 : Int32.toInt 1 = 1 := (by decide); omega, rfl, rfl⟩), by rw [ht]; exact hP, hD⟩, hS.F ht⟩) hS.2.2 dX10_paste_39
      · skip
        have nc_1010 := nb_ne (0) (60) c_1010 bv_1009 (k := -1) (by decide) (by decide)
        refine lv_aload_n hx hb dX10_paste_27 rfl (lv_at hl 0 rfl) ?_
        refine va_get (D := G) (ci := 10) (v := .ref ob_many) (C := RX10) (T := TX10) (N := 41) hx hb hw0 inA_wsX100 hown hK.1 hP 0 rfl rfl 37 (by decide) (hw0 _ m_406) (fun _ h9 => h9) rfl dX10_paste_28 ?_
        refine lv_iload_n hx hb dX10_paste_31 rfl (lv_at hl 3 rfl) ?_
        refine va_iald hx hb hK.1 hP 1 1 rfl rfl (vi (bkc (x := 0) (c := 0) (by decide)) (by decide)) dX10_paste_32 ?_
        refine lv_topi (fun v_1011 ev_1011 => ?_)
        have bv_1011 : (-1 : Int) ≤ v_1011.toInt ∧ v_1011.toInt ≤ 60 := rd_b ev_1011 p_fob_many
        have yv_1011 : v_1011.toInt = (fob_many 0).toInt := congrArg Int32.toInt ev_1011
        refine lv_iconst (v := (-1)) hx hb dX10_paste_33 (by decide) ?_
        refine lv_icmp_ne (tgt := 40) hx hb dX10_paste_34 (by decide) (fun c_1012 => ?_) (fun c_1012 => ?_)
        · skip
          have nc_1012 := nb_ne (0) (60) c_1012 bv_1011 (k := -1) (by decide) (by decide)
          refine lv_aload_n hx hb dX10_paste_40 rfl (lv_at hl 0 rfl) ?_
          refine va_get (D := G) (ci := 10) (v := .ref ob_width) (C := RX10) (T := TX10) (N := 41) hx hb hw0 inA_wsX100 hown hK.1 hP 0 rfl rfl 38 (by decide) (hw0 _ m_527) (fun _ h9 => h9) rfl dX10_paste_41 ?_
          refine lv_iload_n hx hb dX10_paste_44 rfl (lv_at hl 1 rfl) ?_
          refine va_iald hx hb hK.1 hP 2 1 rfl rfl (vi (bkc (x := 1) (c := 1) (by decide)) (by decide)) dX10_paste_45 ?_
          refine lv_topi (fun v_1013 ev_1013 => ?_)
          have bv_1013 : (0 : Int) ≤ v_1013.toInt ∧ v_1013.toInt ≤ 3 := rd_b ev_1013 p_fob_width
          have yv_1013 : v_1013.toInt = (fob_width 1).toInt := congrArg Int32.toInt ev_1013
          refine lv_aload_n hx hb dX10_paste_46 rfl (lv_at hl 0 rfl) ?_
          refine va_get (D := G) (ci := 10) (v := .ref ob_width) (C := RX10) (T := TX10) (N := 41) hx hb hw0 inA_wsX100 hown hK.1 hP 0 rfl rfl 38 (by decide) (hw0 _ m_527) (fun _ h9 => h9) rfl dX10_paste_47 ?_
          refine lv_iload_n hx hb dX10_paste_50 rfl (lv_at hl 3 rfl) ?_
          refine va_iald hx hb hK.1 hP 2 1 rfl rfl (vi (bkc (x := 0) (c := 0) (by decide)) (by decide)) dX10_paste_51 ?_
          refine lv_topi (fun v_1014 ev_1014 => ?_)
          have bv_1014 : (0 : Int) ≤ v_1014.toInt ∧ v_1014.toInt ≤ 3 := rd_b ev_1014 p_fob_width
          have yv_1014 : v_1014.toInt = (fob_width 0).toInt := congrArg Int32.toInt ev_1014
          refine lv_icmp_eq (tgt := 58) hx hb dX10_paste_52 (by decide) (fun c_1015 => ?_) (fun c_1015 => ?_)
          · skip
            have nc_1015 := nb_eq (0) (3) c_1015 bv_1013 bv_1014 (by decide)
            refine lv_iload_n hx hb dX10_paste_58 rfl (lv_at hl 2 rfl) ?_
            refine lv_if_lt (tgt := 107) hx hb dX10_paste_59 (by decide) (fun c_1016 => ?_) (fun c_1016 => ?_)
            · skip
              have nc_1016 := nb_lt (-1) (0) c_1016 (btop a2) (bkc (x := 0) (c := 0) (by decide)) (by decide)
              refine lv_bipush (v := (-7)) hx hb dX10_paste_107 (by decide) ?_
              exact W.iret (v := (-7)) hx hb hr (fun t ht hW => ⟨⟨(-7), _, rfl, Or.inr (Or.inl (⟨by have h90 : Int32.toInt (-7) = -7 := (by decide); have h91 : Int32.toInt 0 = 0 := (by decide); have h92 : Int32.toInt 1 = 1 := (by decide); omega, rfl, rfl⟩)), by rw [ht]; exact hP, hD⟩, hS.F ht⟩) hS.2.2 dX10_paste_109
            · skip
              have nc_1016 := nb_nlt (0) (0) c_1016 (bkc (x := 0) (c := 0) (by decide)) (btop a2) (by decide)
              refine lv_iload hx hb dX10_paste_62 (lv_at hl 4 rfl) ?_
              refine lv_if_lt (tgt := 107) hx hb dX10_paste_64 (by decide) (fun c_1017 => ?_) (fun c_1017 => ?_)
              · skip
                have nc_1017 := nb_lt (-1) (0) c_1017 (btop a4) (bkc (x := 0) (c := 0) (by decide)) (by decide)
                refine lv_bipush (v := (-7)) hx hb dX10_paste_107 (by decide) ?_
                exact W.iret (v := (-7)) hx hb hr (fun t ht hW => ⟨⟨(-7), _, rfl, Or.inr (Or.inl (⟨by have h90 : Int32.toInt (-7) = -7 := (by decide); have h91 : Int32.toInt 0 = 0 := (by decide); have h92 : Int32.toInt 1 = 1 := (by decide); omega, rfl, rfl⟩)), by rw [ht]; exact hP, hD⟩, hS.F ht⟩) hS.2.2 dX10_paste_109
              · skip
                have nc_1017 := nb_nlt (0) (0) c_1017 (bkc (x := 0) (c := 0) (by decide)) (btop a4) (by decide)
                refine lv_iload hx hb dX10_paste_67 (lv_at hl 5 rfl) ?_
                refine lv_if_lt (tgt := 107) hx hb dX10_paste_69 (by decide) (fun c_1018 => ?_) (fun c_1018 => ?_)
                · skip
                  have nc_1018 := nb_lt (-1) (0) c_1018 (btop a5) (bkc (x := 0) (c := 0) (by decide)) (by decide)
                  refine lv_bipush (v := (-7)) hx hb dX10_paste_107 (by decide) ?_
                  exact W.iret (v := (-7)) hx hb hr (fun t ht hW => ⟨⟨(-7), _, rfl, Or.inr (Or.inl (⟨by have h90 : Int32.toInt (-7) = -7 := (by decide); have h91 : Int32.toInt 0 = 0 := (by decide); have h92 : Int32.toInt 1 = 1 := (by decide); omega, rfl, rfl⟩)), by rw [ht]; exact hP, hD⟩, hS.F ht⟩) hS.2.2 dX10_paste_109
                · skip
                  have nc_1018 := nb_nlt (0) (0) c_1018 (bkc (x := 0) (c := 0) (by decide)) (btop a5) (by decide)
                  refine lv_iload_n hx hb dX10_paste_72 rfl (lv_at hl 2 rfl) ?_
                  refine lv_i2l hx hb dX10_paste_73 rfl ?_
                  have kk_1019 : ((a2).toInt64).toInt = (a2).toInt := Int32.toInt_toInt64 _
                  refine lv_iload hx hb dX10_paste_74 (lv_at hl 5 rfl) ?_
                  refine lv_i2l hx hb dX10_paste_76 rfl ?_
                  have kk_1020 : ((a5).toInt64).toInt = (a5).toInt := Int32.toInt_toInt64 _
                  refine lv_ladd hx hb dX10_paste_77 ?_
                  refine lv_topl (fun v_1021 ev_1021 => ?_)
                  have qv_1021 := la_add ev_1021
                  refine lv_aload_n hx hb dX10_paste_78 rfl (lv_at hl 0 rfl) ?_
                  refine va_get (D := G) (ci := 10) (v := .ref ob_many) (C := RX10) (T := TX10) (N := 41) hx hb hw0 inA_wsX100 hown hK.1 hP 0 rfl rfl 37 (by decide) (hw0 _ m_406) (fun _ h9 => h9) rfl dX10_paste_79 ?_
                  refine lv_iload_n hx hb dX10_paste_82 rfl (lv_at hl 1 rfl) ?_
                  refine va_iald hx hb hK.1 hP 1 1 rfl rfl (vi (bkc (x := 1) (c := 1) (by decide)) (by decide)) dX10_paste_83 ?_
                  refine lv_topi (fun v_1022 ev_1022 => ?_)
                  obtain rfl : v_1009 = v_1022 := (ev_1022.trans (ev_1009.symm)).symm
                  refine lv_i2l hx hb dX10_paste_84 rfl ?_
                  have kk_1023 : ((v_1009).toInt64).toInt = (v_1009).toInt := Int32.toInt_toInt64 _
                  refine W.lcmp hx hb dX10_paste_85 ?_
                  refine lv_if_gt (tgt := 107) hx hb dX10_paste_86 (by decide) (fun c_1024 => ?_) (fun c_1024 => ?_)
                  · skip
                    have nc_1024 := jl_gt c_1024
                    refine lv_bipush (v := (-7)) hx hb dX10_paste_107 (by decide) ?_
                    exact W.iret (v := (-7)) hx hb hr (fun t ht hW => ⟨⟨(-7), _, rfl, Or.inr (Or.inl (⟨by have h90 : Int32.toInt (-7) = -7 := (by decide); have h91 : Int32.toInt 0 = 0 := (by decide); have h92 : Int32.toInt 1 = 1 := (by decide); omega, rfl, rfl⟩)), by rw [ht]; exact hP, hD⟩, hS.F ht⟩) hS.2.2 dX10_paste_109
                  · skip
                    have nc_1024 := jl_ngt c_1024
                    refine lv_iload hx hb dX10_paste_89 (lv_at hl 4 rfl) ?_
                    refine lv_i2l hx hb dX10_paste_91 rfl ?_
                    have kk_1025 : ((a4).toInt64).toInt = (a4).toInt := Int32.toInt_toInt64 _
                    refine lv_iload hx hb dX10_paste_92 (lv_at hl 5 rfl) ?_
                    refine lv_i2l hx hb dX10_paste_94 rfl ?_
                    have kk_1026 : ((a5).toInt64).toInt = (a5).toInt := Int32.toInt_toInt64 _
                    refine lv_ladd hx hb dX10_paste_95 ?_
                    refine lv_topl (fun v_1027 ev_1027 => ?_)
                    have qv_1027 := la_add ev_1027
                    refine lv_aload_n hx hb dX10_paste_96 rfl (lv_at hl 0 rfl) ?_
                    refine va_get (D := G) (ci := 10) (v := .ref ob_many) (C := RX10) (T := TX10) (N := 41) hx hb hw0 inA_wsX100 hown hK.1 hP 0 rfl rfl 37 (by decide) (hw0 _ m_406) (fun _ h9 => h9) rfl dX10_paste_97 ?_
                    refine lv_iload_n hx hb dX10_paste_100 rfl (lv_at hl 3 rfl) ?_
                    refine va_iald hx hb hK.1 hP 1 1 rfl rfl (vi (bkc (x := 0) (c := 0) (by decide)) (by decide)) dX10_paste_101 ?_
                    refine lv_topi (fun v_1028 ev_1028 => ?_)
                    obtain rfl : v_1011 = v_1028 := (ev_1028.trans (ev_1011.symm)).symm
                    refine lv_i2l hx hb dX10_paste_102 rfl ?_
                    have kk_1029 : ((v_1011).toInt64).toInt = (v_1011).toInt := Int32.toInt_toInt64 _
                    refine W.lcmp hx hb dX10_paste_103 ?_
                    refine lv_if_le (tgt := 110) hx hb dX10_paste_104 (by decide) (fun c_1030 => ?_) (fun c_1030 => ?_)
                    · skip
                      have nc_1030 := jl_le c_1030
                      have h_1031 : (0 : Int) ≤ a2.toInt ∧ a2.toInt ≤ 60 := by omega
                      have h_1032 : (0 : Int) ≤ a4.toInt ∧ a4.toInt ≤ 60 := by omega
                      have h_1033 : (0 : Int) ≤ a5.toInt ∧ a5.toInt ≤ 60 := by omega
                      refine lv_iconst (v := 0) hx hb dX10_paste_110 (by decide) ?_
                      refine lv_istore (lv' := [(6, .int 0), (0, .ref ob), (1, .int 1), (2, .int a2), (3, .int 0), (4, .int a4), (5, .int a5)]) hx hb dX10_paste_111 hl (by decide) rfl (fun ls hl => ?_)
                      refine loopX (fun n H locs ls st => ∃ (v_1139 : Int32) (f_1140 : Nat → Int64), (60 - v_1139.toInt).toNat = n ∧ ((0 : Int) ≤ v_1139.toInt ∧ v_1139.toInt ≤ 60) ∧ st = [] ∧ vPD G A H [(ce_X10 ob ob_thrown ob_world ob_images ob_hasImage ob_tape ob_taped ob_five ob_size ob_at ob_from ob_token ob_value ob_faultKind ob_faultPlace ob_fresh ob_parts ob_houses ob_houseMany ob_worthOf ob_byCall ob_over ob_bestSet ob_bestOver ob_bestWorth ob_row ob_tenDebts ob_tenMany ob_fewestBy ob_covered ob_queue ob_cameBy ob_parent ob_met ob_calls ob_callMany ob_calledOn ob_saved ob_many ob_width ob_numbers ob_moving), (ce_i4 y ob_many fob_many), (ce_i4 y ob_width fob_width), (ce_l240 y ob_numbers fob_numbers), (ce_l60 y ob_moving f_1140)] ∧ va_S A s.heap H locs ∧ lv_has ls 7 [(6, .int v_1139), (0, .ref ob), (1, .int 1), (2, .int a2), (3, .int 0), (4, .int a4), (5, .int a5)]) ?_ (n := (60 - (0 : Int32).toInt).toNat) ⟨0, fob_moving, rfl, (bw (0) (60) (bkc (x := 0) (c := 0) (by decide)) (by decide)), rfl, ⟨hP, hD⟩, hS, lv_sub hl [0, 1, 2, 3, 4, 5, 6] rfl⟩
                      rintro n ih_1147 H locs ls st ⟨v_1139, f_1140, hn_1147, bv_1139, rfl, ⟨hP, hD⟩, hS, hl⟩
                      refine lv_iload hx hb dX10_paste_113 (lv_at hl 0 rfl) ?_
                      refine lv_iload hx hb dX10_paste_115 (lv_at hl 6 rfl) ?_
                      refine lv_icmp_ge (tgt := 147) hx hb dX10_paste_117 (by decide) (fun c_1148 => ?_) (fun c_1148 => ?_)
                      · skip
                        have nc_1148 := nb_le (60) (0) c_1148 h_1033 bv_1139 (by decide)
                        refine lv_iconst (v := 0) hx hb dX10_paste_147 (by decide) ?_
                        refine lv_istore (lv' := [(6, .int 0), (0, .ref ob), (1, .int 1), (2, .int a2), (3, .int 0), (4, .int a4), (5, .int a5)]) hx hb dX10_paste_148 hl (by decide) rfl (fun ls hl => ?_)
                        refine loopX (fun n H locs ls st => ∃ (v_1254 : Int32) (f_1255 : Nat → Int64), (60 - v_1254.toInt).toNat = n ∧ ((0 : Int) ≤ v_1254.toInt ∧ v_1254.toInt ≤ 60) ∧ st = [] ∧ vPD G A H [(ce_X10 ob ob_thrown ob_world ob_images ob_hasImage ob_tape ob_taped ob_five ob_size ob_at ob_from ob_token ob_value ob_faultKind ob_faultPlace ob_fresh ob_parts ob_houses ob_houseMany ob_worthOf ob_byCall ob_over ob_bestSet ob_bestOver ob_bestWorth ob_row ob_tenDebts ob_tenMany ob_fewestBy ob_covered ob_queue ob_cameBy ob_parent ob_met ob_calls ob_callMany ob_calledOn ob_saved ob_many ob_width ob_numbers ob_moving), (ce_i4 y ob_many fob_many), (ce_i4 y ob_width fob_width), (ce_l240 y ob_numbers f_1255), (ce_l60 y ob_moving f_1140)] ∧ va_S A s.heap H locs ∧ lv_has ls 7 [(6, .int v_1254), (0, .ref ob), (3, .int 0), (4, .int a4), (5, .int a5)]) ?_ (n := (60 - (0 : Int32).toInt).toNat) ⟨0, fob_numbers, rfl, (bw (0) (60) (bkc (x := 0) (c := 0) (by decide)) (by decide)), rfl, ⟨hP, hD⟩, hS, lv_sub hl [0, 1, 4, 5, 6] rfl⟩
                        rintro n ih_1262 H locs ls st ⟨v_1254, f_1255, hn_1262, bv_1254, rfl, ⟨hP, hD⟩, hS, hl⟩
                        refine lv_iload hx hb dX10_paste_150 (lv_at hl 0 rfl) ?_
                        refine lv_iload hx hb dX10_paste_152 (lv_at hl 4 rfl) ?_
                        refine lv_icmp_ge (tgt := 185) hx hb dX10_paste_154 (by decide) (fun c_1263 => ?_) (fun c_1263 => ?_)
                        · skip
                          have nc_1263 := nb_le (60) (0) c_1263 nc_1148.1 bv_1254 (by decide)
                          refine lv_iconst (v := 0) hx hb dX10_paste_185 (by decide) ?_
                          exact W.iret (v := 0) hx hb hr (fun t ht hW => ⟨⟨0, _, rfl, Or.inr (Or.inr (Or.inr (⟨f_1255, f_1140, h_1031, h_1032, nc_1263.1, by have h90 : Int32.toInt 0 = 0 := (by decide); omega, rfl, rfl⟩))), by rw [ht]; exact hP, hD⟩, hS.F ht⟩) hS.2.2 dX10_paste_186
                        · skip
                          have nc_1263 := nb_nle (59) (1) c_1263 bv_1254 nc_1148.1 (by decide)
                          refine lv_aload_n hx hb dX10_paste_157 rfl (lv_at hl 1 rfl) ?_
                          refine va_get (D := G) (ci := 10) (v := .ref ob_numbers) (C := RX10) (T := TX10) (N := 41) hx hb hw0 inA_wsX100 hown hK.1 hP 0 rfl rfl 39 (by decide) (hw0 _ m_435) (fun _ h9 => h9) rfl dX10_paste_158 ?_
                          refine lv_bipush (v := 60) hx hb dX10_paste_161 (by decide) ?_
                          refine lv_iload_n hx hb dX10_paste_163 rfl (lv_at hl 2 rfl) ?_
                          refine lv_imul hx hb dX10_paste_164 ?_
                          refine lv_topi (fun v_1264 ev_1264 => ?_)
                          obtain rfl : 0 = v_1264 := (ev_1264.trans (by decide)).symm
                          refine lv_iload hx hb dX10_paste_165 (lv_at hl 3 rfl) ?_
                          refine lv_iadd hx hb dX10_paste_167 ?_
                          refine lv_topi (fun v_1265 ev_1265 => ?_)
                          have qv_1265 := ba_add ev_1265 (bkc (x := 0) (c := 0) (by decide)) h_1032 (by decide)
                          have bv_1265 : (0 : Int) ≤ v_1265.toInt ∧ v_1265.toInt ≤ 60 := bq_add qv_1265 (bkc (x := 0) (c := 0) (by decide)) h_1032 _ _ (by decide)
                          have qv_1265 : v_1265.toInt = (0) + a4.toInt := qv_1265
                          refine lv_iload hx hb dX10_paste_168 (lv_at hl 0 rfl) ?_
                          refine lv_iadd hx hb dX10_paste_170 ?_
                          refine lv_topi (fun v_1266 ev_1266 => ?_)
                          have qv_1266 := ba_add ev_1266 bv_1265 nc_1263.1 (by decide)
                          have bv_1266 : (0 : Int) ≤ v_1266.toInt ∧ v_1266.toInt ≤ 119 := bq_add qv_1266 bv_1265 nc_1263.1 _ _ (by decide)
                          refine lv_aload_n hx hb dX10_paste_171 rfl (lv_at hl 1 rfl) ?_
                          refine va_get (D := G) (ci := 10) (v := .ref ob_moving) (C := RX10) (T := TX10) (N := 41) hx hb hw0 inA_wsX100 hown hK.1 hP 0 rfl rfl 40 (by decide) (hw0 _ m_529) (fun _ h9 => h9) rfl dX10_paste_172 ?_
                          refine lv_iload hx hb dX10_paste_175 (lv_at hl 0 rfl) ?_
                          refine va_lald hx hb hK.1 hP 4 2 rfl rfl (vi nc_1263.1 (by decide)) dX10_paste_177 ?_
                          refine lv_topl (fun v_1267 ev_1267 => ?_)
                          refine va_last hx hb hK.1 hP hD hS 3 2 rfl rfl (vi bv_1266 (by decide)) dX10_paste_178 (fun H locs hP hD hS => ?_)
                          generalize hf_1268 : (vp_updL f_1255 (v_1266 : Int32).toNatClampNeg v_1267) = f_1268 at hP hD
                          obtain ⟨hP, hD⟩ : vPD G A H [(ce_X10 ob ob_thrown ob_world ob_images ob_hasImage ob_tape ob_taped ob_five ob_size ob_at ob_from ob_token ob_value ob_faultKind ob_faultPlace ob_fresh ob_parts ob_houses ob_houseMany ob_worthOf ob_byCall ob_over ob_bestSet ob_bestOver ob_bestWorth ob_row ob_tenDebts ob_tenMany ob_fewestBy ob_covered ob_queue ob_cameBy ob_parent ob_met ob_calls ob_callMany ob_calledOn ob_saved ob_many ob_width ob_numbers ob_moving), (ce_i4 y ob_many fob_many), (ce_i4 y ob_width fob_width), (ce_l240 y ob_numbers f_1268), (ce_l60 y ob_moving f_1140)] := ⟨hP, hD⟩
                          obtain ⟨v_1269, ev_1269⟩ : ∃ z : Int32, z = v_1254 + 1 := ⟨_, rfl⟩
                          have qv_1269 := ba_add ev_1269 nc_1263.1 (bkc (x := 1) (c := 1) (by decide)) (by decide)
                          have bv_1269 : (1 : Int) ≤ v_1269.toInt ∧ v_1269.toInt ≤ 60 := bq_add qv_1269 nc_1263.1 (bkc (x := 1) (c := 1) (by decide)) _ _ (by decide)
                          have qv_1269 : v_1269.toInt = v_1254.toInt + (1) := qv_1269
                          refine lv_iinc (v := v_1269) (lv' := [(6, .int v_1269), (0, .ref ob), (3, .int 0), (4, .int a4), (5, .int a5)]) hx hb dX10_paste_179 hl (k := 0) rfl (ev_1269.symm) (by decide) rfl (fun ls hl => ?_)
                          refine lv_goto (tgt := 150) hx hb dX10_paste_182 (by decide) ?_
                          exact ih_1262 _ (ml_inc (hi := 60) hn_1262 qv_1269 (by decide) ((bw (0) (60) bv_1269 (by decide))).2) _ _ _ _ ⟨v_1269, f_1268, rfl, (bw (0) (60) bv_1269 (by decide)), rfl, ⟨hP, hD⟩, hS, lv_sub hl [0, 1, 2, 3, 4] rfl⟩
                      · skip
                        have nc_1148 := nb_nle (59) (1) c_1148 bv_1139 h_1033 (by decide)
                        refine lv_aload_n hx hb dX10_paste_120 rfl (lv_at hl 1 rfl) ?_
                        refine va_get (D := G) (ci := 10) (v := .ref ob_moving) (C := RX10) (T := TX10) (N := 41) hx hb hw0 inA_wsX100 hown hK.1 hP 0 rfl rfl 40 (by decide) (hw0 _ m_529) (fun _ h9 => h9) rfl dX10_paste_121 ?_
                        refine lv_iload hx hb dX10_paste_124 (lv_at hl 0 rfl) ?_
                        refine lv_aload_n hx hb dX10_paste_126 rfl (lv_at hl 1 rfl) ?_
                        refine va_get (D := G) (ci := 10) (v := .ref ob_numbers) (C := RX10) (T := TX10) (N := 41) hx hb hw0 inA_wsX100 hown hK.1 hP 0 rfl rfl 39 (by decide) (hw0 _ m_435) (fun _ h9 => h9) rfl dX10_paste_127 ?_
                        refine lv_bipush (v := 60) hx hb dX10_paste_130 (by decide) ?_
                        refine lv_iload_n hx hb dX10_paste_132 rfl (lv_at hl 2 rfl) ?_
                        refine lv_imul hx hb dX10_paste_133 ?_
                        refine lv_topi (fun v_1270 ev_1270 => ?_)
                        obtain rfl : 60 = v_1270 := (ev_1270.trans (by decide)).symm
                        refine lv_iload_n hx hb dX10_paste_134 rfl (lv_at hl 3 rfl) ?_
                        refine lv_iadd hx hb dX10_paste_135 ?_
                        refine lv_topi (fun v_1271 ev_1271 => ?_)
                        have qv_1271 := ba_add ev_1271 (bkc (x := 60) (c := 60) (by decide)) h_1031 (by decide)
                        have bv_1271 : (60 : Int) ≤ v_1271.toInt ∧ v_1271.toInt ≤ 120 := bq_add qv_1271 (bkc (x := 60) (c := 60) (by decide)) h_1031 _ _ (by decide)
                        have qv_1271 : v_1271.toInt = (60) + a2.toInt := qv_1271
                        refine lv_iload hx hb dX10_paste_136 (lv_at hl 0 rfl) ?_
                        refine lv_iadd hx hb dX10_paste_138 ?_
                        refine lv_topi (fun v_1272 ev_1272 => ?_)
                        have qv_1272 := ba_add ev_1272 bv_1271 nc_1148.1 (by decide)
                        have bv_1272 : (60 : Int) ≤ v_1272.toInt ∧ v_1272.toInt ≤ 179 := bq_add qv_1272 bv_1271 nc_1148.1 _ _ (by decide)
                        refine va_lald hx hb hK.1 hP 3 2 rfl rfl (vi bv_1272 (by decide)) dX10_paste_139 ?_
                        refine lv_topl (fun v_1273 ev_1273 => ?_)
                        refine va_last hx hb hK.1 hP hD hS 4 2 rfl rfl (vi nc_1148.1 (by decide)) dX10_paste_140 (fun H locs hP hD hS => ?_)
                        generalize hf_1274 : (vp_updL f_1140 (v_1139 : Int32).toNatClampNeg v_1273) = f_1274 at hP hD
                        obtain ⟨hP, hD⟩ : vPD G A H [(ce_X10 ob ob_thrown ob_world ob_images ob_hasImage ob_tape ob_taped ob_five ob_size ob_at ob_from ob_token ob_value ob_faultKind ob_faultPlace ob_fresh ob_parts ob_houses ob_houseMany ob_worthOf ob_byCall ob_over ob_bestSet ob_bestOver ob_bestWorth ob_row ob_tenDebts ob_tenMany ob_fewestBy ob_covered ob_queue ob_cameBy ob_parent ob_met ob_calls ob_callMany ob_calledOn ob_saved ob_many ob_width ob_numbers ob_moving), (ce_i4 y ob_many fob_many), (ce_i4 y ob_width fob_width), (ce_l240 y ob_numbers fob_numbers), (ce_l60 y ob_moving f_1274)] := ⟨hP, hD⟩
                        obtain ⟨v_1275, ev_1275⟩ : ∃ z : Int32, z = v_1139 + 1 := ⟨_, rfl⟩
                        have qv_1275 := ba_add ev_1275 nc_1148.1 (bkc (x := 1) (c := 1) (by decide)) (by decide)
                        have bv_1275 : (1 : Int) ≤ v_1275.toInt ∧ v_1275.toInt ≤ 60 := bq_add qv_1275 nc_1148.1 (bkc (x := 1) (c := 1) (by decide)) _ _ (by decide)
                        have qv_1275 : v_1275.toInt = v_1139.toInt + (1) := qv_1275
                        refine lv_iinc (v := v_1275) (lv' := [(6, .int v_1275), (0, .ref ob), (1, .int 1), (2, .int a2), (3, .int 0), (4, .int a4), (5, .int a5)]) hx hb dX10_paste_141 hl (k := 0) rfl (ev_1275.symm) (by decide) rfl (fun ls hl => ?_)
                        refine lv_goto (tgt := 113) hx hb dX10_paste_144 (by decide) ?_
                        exact ih_1147 _ (ml_inc (hi := 60) hn_1147 qv_1275 (by decide) ((bw (0) (60) bv_1275 (by decide))).2) _ _ _ _ ⟨v_1275, f_1274, rfl, (bw (0) (60) bv_1275 (by decide)), rfl, ⟨hP, hD⟩, hS, lv_sub hl [0, 1, 2, 3, 4, 5, 6] rfl⟩
                    · skip
                      have nc_1030 := jl_nle c_1030
                      refine lv_bipush (v := (-7)) hx hb dX10_paste_107 (by decide) ?_
                      exact W.iret (v := (-7)) hx hb hr (fun t ht hW => ⟨⟨(-7), _, rfl, Or.inr (Or.inl (⟨by have h90 : Int32.toInt (-7) = -7 := (by decide); have h91 : Int32.toInt 0 = 0 := (by decide); have h92 : Int32.toInt 1 = 1 := (by decide); omega, rfl, rfl⟩)), by rw [ht]; exact hP, hD⟩, hS.F ht⟩) hS.2.2 dX10_paste_109
          · skip
            have nc_1015 : v_1013.toInt ≠ v_1014.toInt := fun h9 => c_1015 (Int32.toInt_inj.mp h9)
            refine lv_bipush (v := (-8)) hx hb dX10_paste_55 (by decide) ?_
            exact W.iret (v := (-8)) hx hb hr (fun t ht hW => ⟨⟨(-8), _, rfl, Or.inr (Or.inr (Or.inl (⟨by have h90 : Int32.toInt (-8) = -8 := (by decide); have h91 : Int32.toInt 0 = 0 := (by decide); have h92 : Int32.toInt 1 = 1 := (by decide); omega, rfl, rfl⟩))), by rw [ht]; exact hP, hD⟩, hS.F ht⟩) hS.2.2 dX10_paste_57
        · skip
          have nc_1012 := nb_eq (-1) (-1) c_1012 bv_1011 (bkc (x := (-1)) (c := -1) (by decide)) (by decide)
          refine lv_bipush (v := (-6)) hx hb dX10_paste_37 (by decide) ?_
          exact W.iret (v := (-6)) hx hb hr (fun t ht hW => ⟨⟨(-6), _, rfl, Or.inl (⟨by have h90 : Int32.toInt (-6) = -6 := (by decide); have h91 : Int32.toInt 0 = 0 := (by decide); have h92 : Int32.toInt 1 = 1 := (by decide); omega, rfl, rfl⟩), by rw [ht]; exact hP, hD⟩, hS.F ht⟩) hS.2.2 dX10_paste_39

set_option maxHeartbeats 4000000 in
set_option maxRecDepth 100000 in
theorem fpasteM11 (l : Launch) (G : va_G) (y : Nat → ClassId) (sz : Nat) (ob : Nat) (a2 : Int32) (a4 : Int32) (a5 : Int32) (ob_thrown : Int32) (ob_world : Nat) (ob_images : Nat) (ob_hasImage : Nat) (ob_tape : Nat) (ob_taped : Int32) (ob_five : Nat) (ob_size : Int32) (ob_at : Int32) (ob_from : Int32) (ob_token : Int32) (ob_value : Int32) (ob_faultKind : Int32) (ob_faultPlace : Int32) (ob_fresh : Nat) (ob_parts : Nat) (ob_houses : Nat) (ob_houseMany : Int32) (ob_worthOf : Nat) (ob_byCall : Nat) (ob_over : Nat) (ob_bestSet : Int32) (ob_bestOver : Int32) (ob_bestWorth : Int32) (ob_row : Nat) (ob_tenDebts : Nat) (ob_tenMany : Int32) (ob_fewestBy : Nat) (ob_covered : Nat) (ob_queue : Nat) (ob_cameBy : Nat) (ob_parent : Nat) (ob_met : Nat) (ob_calls : Nat) (ob_callMany : Int32) (ob_calledOn : Nat) (ob_saved : Nat) (ob_many : Nat) (ob_width : Nat) (ob_numbers : Nat) (ob_moving : Nat) (fob_many : Nat → Int32) (fob_width : Nat → Int32) (fob_numbers : Nat → Int64) (fob_moving : Nat → Int64) (p_ob_taped : (0 : Int) ≤ ob_taped.toInt ∧ ob_taped.toInt ≤ 1400) (p_ob_size : (0 : Int) ≤ ob_size.toInt ∧ ob_size.toInt ≤ 1400) (p_ob_at : (0 : Int) ≤ ob_at.toInt ∧ ob_at.toInt ≤ 1400) (p_ob_from : (0 : Int) ≤ ob_from.toInt ∧ ob_from.toInt ≤ 1400) (p_ob_token : (0 : Int) ≤ ob_token.toInt ∧ ob_token.toInt ≤ 4) (p_ob_value : (0 : Int) ≤ ob_value.toInt ∧ ob_value.toInt ≤ 9999) (p_ob_faultKind : (0 : Int) ≤ ob_faultKind.toInt ∧ ob_faultKind.toInt ≤ 3) (p_ob_houseMany : (0 : Int) ≤ ob_houseMany.toInt ∧ ob_houseMany.toInt ≤ 10) (p_ob_bestSet : (0 : Int) ≤ ob_bestSet.toInt ∧ ob_bestSet.toInt ≤ 1023) (p_ob_bestOver : (-1 : Int) ≤ ob_bestOver.toInt ∧ ob_bestOver.toInt ≤ 180) (p_ob_tenMany : (0 : Int) ≤ ob_tenMany.toInt ∧ ob_tenMany.toInt ≤ 10) (p_ob_callMany : (0 : Int) ≤ ob_callMany.toInt ∧ ob_callMany.toInt ≤ 16) (p_fob_many : ∀ i, (-1 : Int) ≤ (fob_many i).toInt ∧ (fob_many i).toInt ≤ 60) (p_fob_width : ∀ i, (0 : Int) ≤ (fob_width i).toInt ∧ (fob_width i).toInt ≤ 3) : Met l yX10_paste (Cond.code yX10_paste cX10_paste 7 (some .int) :: wAll) ({ frames := 2, cells := 0, slots := 0, locals := 45 }) (va_Pc [.ref ob, .int 1, .int a2, .int 1, .int a4, .int a5] (kp G y sz [(ce_X10 ob ob_thrown ob_world ob_images ob_hasImage ob_tape ob_taped ob_five ob_size ob_at ob_from ob_token ob_value ob_faultKind ob_faultPlace ob_fresh ob_parts ob_houses ob_houseMany ob_worthOf ob_byCall ob_over ob_bestSet ob_bestOver ob_bestWorth ob_row ob_tenDebts ob_tenMany ob_fewestBy ob_covered ob_queue ob_cameBy ob_parent ob_met ob_calls ob_callMany ob_calledOn ob_saved ob_many ob_width ob_numbers ob_moving), (ce_i4 y ob_many fob_many), (ce_i4 y ob_width fob_width), (ce_l240 y ob_numbers fob_numbers), (ce_l60 y ob_moving fob_moving)])) (va_Qi (fun (r : Int32) (w : va_W) => (((fob_many 1).toInt = -1 ∨ (fob_many 1).toInt = -1) ∧ r = (-6) ∧ w = [(ce_X10 ob ob_thrown ob_world ob_images ob_hasImage ob_tape ob_taped ob_five ob_size ob_at ob_from ob_token ob_value ob_faultKind ob_faultPlace ob_fresh ob_parts ob_houses ob_houseMany ob_worthOf ob_byCall ob_over ob_bestSet ob_bestOver ob_bestWorth ob_row ob_tenDebts ob_tenMany ob_fewestBy ob_covered ob_queue ob_cameBy ob_parent ob_met ob_calls ob_callMany ob_calledOn ob_saved ob_many ob_width ob_numbers ob_moving), (ce_i4 y ob_many fob_many), (ce_i4 y ob_width fob_width), (ce_l240 y ob_numbers fob_numbers), (ce_l60 y ob_moving fob_moving)]) ∨ ((¬ (fob_many 1).toInt = -1 ∧ ¬ (fob_many 1).toInt = -1 ∧ (fob_width 1).toInt = (fob_width 1).toInt ∧ ¬ (0 ≤ a2.toInt ∧ 0 ≤ a4.toInt ∧ 0 ≤ a5.toInt ∧ a2.toInt + a5.toInt ≤ (fob_many 1).toInt ∧ a4.toInt + a5.toInt ≤ (fob_many 1).toInt)) ∧ r = (-7) ∧ w = [(ce_X10 ob ob_thrown ob_world ob_images ob_hasImage ob_tape ob_taped ob_five ob_size ob_at ob_from ob_token ob_value ob_faultKind ob_faultPlace ob_fresh ob_parts ob_houses ob_houseMany ob_worthOf ob_byCall ob_over ob_bestSet ob_bestOver ob_bestWorth ob_row ob_tenDebts ob_tenMany ob_fewestBy ob_covered ob_queue ob_cameBy ob_parent ob_met ob_calls ob_callMany ob_calledOn ob_saved ob_many ob_width ob_numbers ob_moving), (ce_i4 y ob_many fob_many), (ce_i4 y ob_width fob_width), (ce_l240 y ob_numbers fob_numbers), (ce_l60 y ob_moving fob_moving)]) ∨ (∃ (f_547 : Nat → Int64) (f_548 : Nat → Int64), ((0 : Int) ≤ a2.toInt ∧ a2.toInt ≤ 60) ∧ ((0 : Int) ≤ a4.toInt ∧ a4.toInt ≤ 60) ∧ ((0 : Int) ≤ a5.toInt ∧ a5.toInt ≤ 60) ∧ (¬ (fob_many 1).toInt = -1 ∧ ¬ (fob_many 1).toInt = -1 ∧ (fob_width 1).toInt = (fob_width 1).toInt ∧ 0 ≤ a2.toInt ∧ 0 ≤ a4.toInt ∧ 0 ≤ a5.toInt ∧ a2.toInt + a5.toInt ≤ (fob_many 1).toInt ∧ a4.toInt + a5.toInt ≤ (fob_many 1).toInt) ∧ r = 0 ∧ w = [(ce_X10 ob ob_thrown ob_world ob_images ob_hasImage ob_tape ob_taped ob_five ob_size ob_at ob_from ob_token ob_value ob_faultKind ob_faultPlace ob_fresh ob_parts ob_houses ob_houseMany ob_worthOf ob_byCall ob_over ob_bestSet ob_bestOver ob_bestWorth ob_row ob_tenDebts ob_tenMany ob_fewestBy ob_covered ob_queue ob_cameBy ob_parent ob_met ob_calls ob_callMany ob_calledOn ob_saved ob_many ob_width ob_numbers ob_moving), (ce_i4 y ob_many fob_many), (ce_i4 y ob_width fob_width), (ce_l240 y ob_numbers f_547), (ce_l60 y ob_moving f_548)])) (kq G (va_A [(ce_X10 ob ob_thrown ob_world ob_images ob_hasImage ob_tape ob_taped ob_five ob_size ob_at ob_from ob_token ob_value ob_faultKind ob_faultPlace ob_fresh ob_parts ob_houses ob_houseMany ob_worthOf ob_byCall ob_over ob_bestSet ob_bestOver ob_bestWorth ob_row ob_tenDebts ob_tenMany ob_fewestBy ob_covered ob_queue ob_cameBy ob_parent ob_met ob_calls ob_callMany ob_calledOn ob_saved ob_many ob_width ob_numbers ob_moving), (ce_i4 y ob_many fob_many), (ce_i4 y ob_width fob_width), (ce_l240 y ob_numbers fob_numbers), (ce_l60 y ob_moving fob_moving)] sz)) (va_A [(ce_X10 ob ob_thrown ob_world ob_images ob_hasImage ob_tape ob_taped ob_five ob_size ob_at ob_from ob_token ob_value ob_faultKind ob_faultPlace ob_fresh ob_parts ob_houses ob_houseMany ob_worthOf ob_byCall ob_over ob_bestSet ob_bestOver ob_bestWorth ob_row ob_tenDebts ob_tenMany ob_fewestBy ob_covered ob_queue ob_cameBy ob_parent ob_met ob_calls ob_callMany ob_calledOn ob_saved ob_many ob_width ob_numbers ob_moving), (ce_i4 y ob_many fob_many), (ce_i4 y ob_width fob_width), (ce_l240 y ob_numbers fob_numbers), (ce_l60 y ob_moving fob_moving)] sz)) 0 0 (va_A [(ce_X10 ob ob_thrown ob_world ob_images ob_hasImage ob_tape ob_taped ob_five ob_size ob_at ob_from ob_token ob_value ob_faultKind ob_faultPlace ob_fresh ob_parts ob_houses ob_houseMany ob_worthOf ob_byCall ob_over ob_bestSet ob_bestOver ob_bestWorth ob_row ob_tenDebts ob_tenMany ob_fewestBy ob_covered ob_queue ob_cameBy ob_parent ob_met ob_calls ob_callMany ob_calledOn ob_saved ob_many ob_width ob_numbers ob_moving), (ce_i4 y ob_many fob_many), (ce_i4 y ob_width fob_width), (ce_l240 y ob_numbers fob_numbers), (ce_l60 y ob_moving fob_moving)] sz) := by
  refine Met.ofW (cc := cX10_paste) (maxL := 7) (ret := (some .int)) (by decide) rfl ?_
  intro p e s m args below meth c s₁ B hml hv
  obtain ⟨rfl, hsz, hP, hK, hD0⟩ := hv
  have hx := B.exec
  have hb := B.bytes
  have hr := B.returns
  have hw0 : ∀ w ∈ wAll, w.before _ s = true := fun w h => atoms_spec (ws := Cond.code yX10_paste cX10_paste 7 (some .int) :: wAll) B.pre w (List.mem_cons_of_mem _ h)
  have hown : s.vm.findClass RX10 = some m.cls := findClass_of_methodNamed B.named
  subst hsz
  have hD := hD0.self (sz := s.heap.size)
  generalize hAe : va_A [(ce_X10 ob ob_thrown ob_world ob_images ob_hasImage ob_tape ob_taped ob_five ob_size ob_at ob_from ob_token ob_value ob_faultKind ob_faultPlace ob_fresh ob_parts ob_houses ob_houseMany ob_worthOf ob_byCall ob_over ob_bestSet ob_bestOver ob_bestWorth ob_row ob_tenDebts ob_tenMany ob_fewestBy ob_covered ob_queue ob_cameBy ob_parent ob_met ob_calls ob_callMany ob_calledOn ob_saved ob_many ob_width ob_numbers ob_moving), (ce_i4 y ob_many fob_many), (ce_i4 y ob_width fob_width), (ce_l240 y ob_numbers fob_numbers), (ce_l60 y ob_moving fob_moving)] s.heap.size = A at hD ⊢
  have hA : ∀ q : Nat, s.heap.size ≤ q → A q := fun q h => by rw [← hAe]; exact Or.inr h
  have hS : va_S A s.heap s.heap [] := va_S.rf
  have hP : va_P G vwCl [(ce_X10 ob ob_thrown ob_world ob_images ob_hasImage ob_tape ob_taped ob_five ob_size ob_at ob_from ob_token ob_value ob_faultKind ob_faultPlace ob_fresh ob_parts ob_houses ob_houseMany ob_worthOf ob_byCall ob_over ob_bestSet ob_bestOver ob_bestWorth ob_row ob_tenDebts ob_tenMany ob_fewestBy ob_covered ob_queue ob_cameBy ob_parent ob_met ob_calls ob_callMany ob_calledOn ob_saved ob_many ob_width ob_numbers ob_moving), (ce_i4 y ob_many fob_many), (ce_i4 y ob_width fob_width), (ce_l240 y ob_numbers fob_numbers), (ce_l60 y ob_moving fob_moving)] s.heap := hP
  have hl := lv_entry ([.ref ob, .int 1, .int a2, .int 1, .int a4, .int a5]) (n := 7) (Nat.le_of_ble_eq_true rfl)
  rw [lg_entry_eq]
  generalize (lg_sl ([.ref ob, .int 1, .int a2, .int 1, .int a4, .int a5]) ++ List.replicate (7 - (lg_sl ([.ref ob, .int 1, .int a2, .int 1, .int a4, .int a5])).length) Slot.unset).toArray = ls at hl ⊢
  have hl : lv_has ls 7 [(0, .ref ob), (1, .int 1), (2, .int a2), (3, .int 1), (4, .int a4), (5, .int a5)] := hl
  refine lv_iload_n hx hb dX10_paste_0 rfl (lv_at hl 1 rfl) ?_
  refine cSim (As := [.int 1]) (rest := []) ⟨hx, hb, hml, hown, hw0⟩ hA hK hP hD hS [] (fisSlotM l G y _ 1 ) rfl ⟨(callB_of 1 hw0 (gA m_543) rfl rfl rfl (hw0 _ m_41) (hw0 _ m_433) cb_X10_isSlot ⟨Nat.le_of_ble_eq_true rfl, Nat.le_of_ble_eq_true rfl⟩), (hw0 _ m_434)⟩ rfl hl.1 (Nat.le_of_ble_eq_true rfl) dX10_paste_1 ⟨Nat.le_of_ble_eq_true rfl, Nat.le_of_ble_eq_true rfl⟩ (fun r_1001 w_1001 H locs hw_1001 hP hD hS => ?_)
  rcases hw_1001 with ⟨h_1002, rfl, rfl⟩ | ⟨h_1003, h_1004, rfl, rfl⟩
  · skip
    exact False.elim (by have h9 : Int32.toInt 1 = 1 := (by decide); omega)
  · skip
    obtain ⟨hP, hD⟩ : vPD G A H [(ce_X10 ob ob_thrown ob_world ob_images ob_hasImage ob_tape ob_taped ob_five ob_size ob_at ob_from ob_token ob_value ob_faultKind ob_faultPlace ob_fresh ob_parts ob_houses ob_houseMany ob_worthOf ob_byCall ob_over ob_bestSet ob_bestOver ob_bestWorth ob_row ob_tenDebts ob_tenMany ob_fewestBy ob_covered ob_queue ob_cameBy ob_parent ob_met ob_calls ob_callMany ob_calledOn ob_saved ob_many ob_width ob_numbers ob_moving), (ce_i4 y ob_many fob_many), (ce_i4 y ob_width fob_width), (ce_l240 y ob_numbers fob_numbers), (ce_l60 y ob_moving fob_moving)] := ⟨hP, hD⟩
    refine lv_if_eq (tgt := 14) hx hb dX10_paste_4 (by decide) (fun c9 => absurd c9 (by decide)) (fun _ => ?_)
    refine lv_iload_n hx hb dX10_paste_7 rfl (lv_at hl 3 rfl) ?_
    refine cSim (As := [.int 1]) (rest := []) ⟨hx, hb, hml, hown, hw0⟩ hA hK hP hD hS [] (fisSlotM l G y _ 1 ) rfl ⟨(callB_of 1 hw0 (gA m_543) rfl rfl rfl (hw0 _ m_41) (hw0 _ m_433) cb_X10_isSlot ⟨Nat.le_of_ble_eq_true rfl, Nat.le_of_ble_eq_true rfl⟩), (hw0 _ m_434)⟩ rfl hl.1 (Nat.le_of_ble_eq_true rfl) dX10_paste_8 ⟨Nat.le_of_ble_eq_true rfl, Nat.le_of_ble_eq_true rfl⟩ (fun r_1005 w_1005 H locs hw_1005 hP hD hS => ?_)
    rcases hw_1005 with ⟨h_1006, rfl, rfl⟩ | ⟨h_1007, h_1008, rfl, rfl⟩
    · skip
      exact False.elim (by have h9 : Int32.toInt 1 = 1 := (by decide); omega)
    · skip
      obtain ⟨hP, hD⟩ : vPD G A H [(ce_X10 ob ob_thrown ob_world ob_images ob_hasImage ob_tape ob_taped ob_five ob_size ob_at ob_from ob_token ob_value ob_faultKind ob_faultPlace ob_fresh ob_parts ob_houses ob_houseMany ob_worthOf ob_byCall ob_over ob_bestSet ob_bestOver ob_bestWorth ob_row ob_tenDebts ob_tenMany ob_fewestBy ob_covered ob_queue ob_cameBy ob_parent ob_met ob_calls ob_callMany ob_calledOn ob_saved ob_many ob_width ob_numbers ob_moving), (ce_i4 y ob_many fob_many), (ce_i4 y ob_width fob_width), (ce_l240 y ob_numbers fob_numbers), (ce_l60 y ob_moving fob_moving)] := ⟨hP, hD⟩
      refine lv_if_ne (tgt := 17) hx hb dX10_paste_11 (by decide) (fun _ => ?_) (fun c9 => absurd c9 (by decide))
      refine lv_aload_n hx hb dX10_paste_17 rfl (lv_at hl 0 rfl) ?_
      refine va_get (D := G) (ci := 10) (v := .ref ob_many) (C := RX10) (T := TX10) (N := 41) hx hb hw0 inA_wsX100 hown hK.1 hP 0 rfl rfl 37 (by decide) (hw0 _ m_406) (fun _ h9 => h9) rfl dX10_paste_18 ?_
      refine lv_iload_n hx hb dX10_paste_21 rfl (lv_at hl 1 rfl) ?_
      refine va_iald hx hb hK.1 hP 1 1 rfl rfl (vi (bkc (x := 1) (c := 1) (by decide)) (by decide)) dX10_paste_22 ?_
      refine lv_topi (fun v_1009 ev_1009 => ?_)
      have bv_1009 : (-1 : Int) ≤ v_1009.toInt ∧ v_1009.toInt ≤ 60 := rd_b ev_1009 p_fob_many
      have yv_1009 : v_1009.toInt = (fob_many 1).toInt := congrArg Int32.toInt ev_1009
      refine lv_iconst (v := (-1)) hx hb dX10_paste_23 (by decide) ?_
      refine lv_icmp_eq (tgt := 37) hx hb dX10_paste_24 (by decide) (fun c_1010 => ?_) (fun c_1010 => ?_)
      · skip
        have nc_1010 := nb_eq (-1) (-1) c_1010 bv_1009 (bkc (x := (-1)) (c := -1) (by decide)) (by decide)
        refine lv_bipush (v := (-6)) hx hb dX10_paste_37 (by decide) ?_
        exact W.iret (v := (-6)) hx hb hr (fun t ht hW => ⟨⟨(-6), _, rfl, Or.inl (⟨by have h90 : Int32.toInt (-6) = -6 := (by decide); have h91 : Int32.toInt 1 = 1 := (by decide); omega, rfl, rfl⟩), by rw [ht]; exact hP, hD⟩, hS.F ht⟩) hS.2.2 dX10_paste_39
      · skip
        have nc_1010 := nb_ne (0) (60) c_1010 bv_1009 (k := -1) (by decide) (by decide)
        refine lv_aload_n hx hb dX10_paste_27 rfl (lv_at hl 0 rfl) ?_
        refine va_get (D := G) (ci := 10) (v := .ref ob_many) (C := RX10) (T := TX10) (N := 41) hx hb hw0 inA_wsX100 hown hK.1 hP 0 rfl rfl 37 (by decide) (hw0 _ m_406) (fun _ h9 => h9) rfl dX10_paste_28 ?_
        refine lv_iload_n hx hb dX10_paste_31 rfl (lv_at hl 3 rfl) ?_
        refine va_iald hx hb hK.1 hP 1 1 rfl rfl (vi (bkc (x := 1) (c := 1) (by decide)) (by decide)) dX10_paste_32 ?_
        refine lv_topi (fun v_1011 ev_1011 => ?_)
        obtain rfl : v_1009 = v_1011 := (ev_1011.trans (ev_1009.symm)).symm
        refine lv_iconst (v := (-1)) hx hb dX10_paste_33 (by decide) ?_
        refine lv_icmp_ne (tgt := 40) hx hb dX10_paste_34 (by decide) (fun _ => ?_) (fun c9 => absurd c9 (dc_neq nc_1010.1 (bkc (x := (-1)) (c := -1) (by decide)) (by decide)))
        refine lv_aload_n hx hb dX10_paste_40 rfl (lv_at hl 0 rfl) ?_
        refine va_get (D := G) (ci := 10) (v := .ref ob_width) (C := RX10) (T := TX10) (N := 41) hx hb hw0 inA_wsX100 hown hK.1 hP 0 rfl rfl 38 (by decide) (hw0 _ m_527) (fun _ h9 => h9) rfl dX10_paste_41 ?_
        refine lv_iload_n hx hb dX10_paste_44 rfl (lv_at hl 1 rfl) ?_
        refine va_iald hx hb hK.1 hP 2 1 rfl rfl (vi (bkc (x := 1) (c := 1) (by decide)) (by decide)) dX10_paste_45 ?_
        refine lv_topi (fun v_1012 ev_1012 => ?_)
        have bv_1012 : (0 : Int) ≤ v_1012.toInt ∧ v_1012.toInt ≤ 3 := rd_b ev_1012 p_fob_width
        have yv_1012 : v_1012.toInt = (fob_width 1).toInt := congrArg Int32.toInt ev_1012
        refine lv_aload_n hx hb dX10_paste_46 rfl (lv_at hl 0 rfl) ?_
        refine va_get (D := G) (ci := 10) (v := .ref ob_width) (C := RX10) (T := TX10) (N := 41) hx hb hw0 inA_wsX100 hown hK.1 hP 0 rfl rfl 38 (by decide) (hw0 _ m_527) (fun _ h9 => h9) rfl dX10_paste_47 ?_
        refine lv_iload_n hx hb dX10_paste_50 rfl (lv_at hl 3 rfl) ?_
        refine va_iald hx hb hK.1 hP 2 1 rfl rfl (vi (bkc (x := 1) (c := 1) (by decide)) (by decide)) dX10_paste_51 ?_
        refine lv_topi (fun v_1013 ev_1013 => ?_)
        obtain rfl : v_1012 = v_1013 := (ev_1013.trans (ev_1012.symm)).symm
        refine lv_icmp_eq (tgt := 58) hx hb dX10_paste_52 (by decide) (fun _ => ?_) (fun c9 => absurd (rfl) c9)
        refine lv_iload_n hx hb dX10_paste_58 rfl (lv_at hl 2 rfl) ?_
        refine lv_if_lt (tgt := 107) hx hb dX10_paste_59 (by decide) (fun c_1014 => ?_) (fun c_1014 => ?_)
        · skip
          have nc_1014 := nb_lt (-1) (0) c_1014 (btop a2) (bkc (x := 0) (c := 0) (by decide)) (by decide)
          refine lv_bipush (v := (-7)) hx hb dX10_paste_107 (by decide) ?_
          exact W.iret (v := (-7)) hx hb hr (fun t ht hW => ⟨⟨(-7), _, rfl, Or.inr (Or.inl (⟨by have h90 : Int32.toInt (-7) = -7 := (by decide); have h91 : Int32.toInt 1 = 1 := (by decide); omega, rfl, rfl⟩)), by rw [ht]; exact hP, hD⟩, hS.F ht⟩) hS.2.2 dX10_paste_109
        · skip
          have nc_1014 := nb_nlt (0) (0) c_1014 (bkc (x := 0) (c := 0) (by decide)) (btop a2) (by decide)
          refine lv_iload hx hb dX10_paste_62 (lv_at hl 4 rfl) ?_
          refine lv_if_lt (tgt := 107) hx hb dX10_paste_64 (by decide) (fun c_1015 => ?_) (fun c_1015 => ?_)
          · skip
            have nc_1015 := nb_lt (-1) (0) c_1015 (btop a4) (bkc (x := 0) (c := 0) (by decide)) (by decide)
            refine lv_bipush (v := (-7)) hx hb dX10_paste_107 (by decide) ?_
            exact W.iret (v := (-7)) hx hb hr (fun t ht hW => ⟨⟨(-7), _, rfl, Or.inr (Or.inl (⟨by have h90 : Int32.toInt (-7) = -7 := (by decide); have h91 : Int32.toInt 1 = 1 := (by decide); omega, rfl, rfl⟩)), by rw [ht]; exact hP, hD⟩, hS.F ht⟩) hS.2.2 dX10_paste_109
          · skip
            have nc_1015 := nb_nlt (0) (0) c_1015 (bkc (x := 0) (c := 0) (by decide)) (btop a4) (by decide)
            refine lv_iload hx hb dX10_paste_67 (lv_at hl 5 rfl) ?_
            refine lv_if_lt (tgt := 107) hx hb dX10_paste_69 (by decide) (fun c_1016 => ?_) (fun c_1016 => ?_)
            · skip
              have nc_1016 := nb_lt (-1) (0) c_1016 (btop a5) (bkc (x := 0) (c := 0) (by decide)) (by decide)
              refine lv_bipush (v := (-7)) hx hb dX10_paste_107 (by decide) ?_
              exact W.iret (v := (-7)) hx hb hr (fun t ht hW => ⟨⟨(-7), _, rfl, Or.inr (Or.inl (⟨by have h90 : Int32.toInt (-7) = -7 := (by decide); have h91 : Int32.toInt 1 = 1 := (by decide); omega, rfl, rfl⟩)), by rw [ht]; exact hP, hD⟩, hS.F ht⟩) hS.2.2 dX10_paste_109
            · skip
              have nc_1016 := nb_nlt (0) (0) c_1016 (bkc (x := 0) (c := 0) (by decide)) (btop a5) (by decide)
              refine lv_iload_n hx hb dX10_paste_72 rfl (lv_at hl 2 rfl) ?_
              refine lv_i2l hx hb dX10_paste_73 rfl ?_
              have kk_1017 : ((a2).toInt64).toInt = (a2).toInt := Int32.toInt_toInt64 _
              refine lv_iload hx hb dX10_paste_74 (lv_at hl 5 rfl) ?_
              refine lv_i2l hx hb dX10_paste_76 rfl ?_
              have kk_1018 : ((a5).toInt64).toInt = (a5).toInt := Int32.toInt_toInt64 _
              refine lv_ladd hx hb dX10_paste_77 ?_
              refine lv_topl (fun v_1019 ev_1019 => ?_)
              have qv_1019 := la_add ev_1019
              refine lv_aload_n hx hb dX10_paste_78 rfl (lv_at hl 0 rfl) ?_
              refine va_get (D := G) (ci := 10) (v := .ref ob_many) (C := RX10) (T := TX10) (N := 41) hx hb hw0 inA_wsX100 hown hK.1 hP 0 rfl rfl 37 (by decide) (hw0 _ m_406) (fun _ h9 => h9) rfl dX10_paste_79 ?_
              refine lv_iload_n hx hb dX10_paste_82 rfl (lv_at hl 1 rfl) ?_
              refine va_iald hx hb hK.1 hP 1 1 rfl rfl (vi (bkc (x := 1) (c := 1) (by decide)) (by decide)) dX10_paste_83 ?_
              refine lv_topi (fun v_1020 ev_1020 => ?_)
              obtain rfl : v_1009 = v_1020 := (ev_1020.trans (ev_1009.symm)).symm
              refine lv_i2l hx hb dX10_paste_84 rfl ?_
              have kk_1021 : ((v_1009).toInt64).toInt = (v_1009).toInt := Int32.toInt_toInt64 _
              refine W.lcmp hx hb dX10_paste_85 ?_
              refine lv_if_gt (tgt := 107) hx hb dX10_paste_86 (by decide) (fun c_1022 => ?_) (fun c_1022 => ?_)
              · skip
                have nc_1022 := jl_gt c_1022
                refine lv_bipush (v := (-7)) hx hb dX10_paste_107 (by decide) ?_
                exact W.iret (v := (-7)) hx hb hr (fun t ht hW => ⟨⟨(-7), _, rfl, Or.inr (Or.inl (⟨by have h90 : Int32.toInt (-7) = -7 := (by decide); have h91 : Int32.toInt 1 = 1 := (by decide); omega, rfl, rfl⟩)), by rw [ht]; exact hP, hD⟩, hS.F ht⟩) hS.2.2 dX10_paste_109
              · skip
                have nc_1022 := jl_ngt c_1022
                refine lv_iload hx hb dX10_paste_89 (lv_at hl 4 rfl) ?_
                refine lv_i2l hx hb dX10_paste_91 rfl ?_
                have kk_1023 : ((a4).toInt64).toInt = (a4).toInt := Int32.toInt_toInt64 _
                refine lv_iload hx hb dX10_paste_92 (lv_at hl 5 rfl) ?_
                refine lv_i2l hx hb dX10_paste_94 rfl ?_
                have kk_1024 : ((a5).toInt64).toInt = (a5).toInt := Int32.toInt_toInt64 _
                refine lv_ladd hx hb dX10_paste_95 ?_
                refine lv_topl (fun v_1025 ev_1025 => ?_)
                have qv_1025 := la_add ev_1025
                refine lv_aload_n hx hb dX10_paste_96 rfl (lv_at hl 0 rfl) ?_
                refine va_get (D := G) (ci := 10) (v := .ref ob_many) (C := RX10) (T := TX10) (N := 41) hx hb hw0 inA_wsX100 hown hK.1 hP 0 rfl rfl 37 (by decide) (hw0 _ m_406) (fun _ h9 => h9) rfl dX10_paste_97 ?_
                refine lv_iload_n hx hb dX10_paste_100 rfl (lv_at hl 3 rfl) ?_
                refine va_iald hx hb hK.1 hP 1 1 rfl rfl (vi (bkc (x := 1) (c := 1) (by decide)) (by decide)) dX10_paste_101 ?_
                refine lv_topi (fun v_1026 ev_1026 => ?_)
                obtain rfl : v_1009 = v_1026 := (ev_1026.trans (ev_1009.symm)).symm
                refine lv_i2l hx hb dX10_paste_102 rfl ?_
                have kk_1027 : ((v_1009).toInt64).toInt = (v_1009).toInt := Int32.toInt_toInt64 _
                refine W.lcmp hx hb dX10_paste_103 ?_
                refine lv_if_le (tgt := 110) hx hb dX10_paste_104 (by decide) (fun c_1028 => ?_) (fun c_1028 => ?_)
                · skip
                  have nc_1028 := jl_le c_1028
                  have h_1029 : (0 : Int) ≤ a2.toInt ∧ a2.toInt ≤ 60 := by omega
                  have h_1030 : (0 : Int) ≤ a4.toInt ∧ a4.toInt ≤ 60 := by omega
                  have h_1031 : (0 : Int) ≤ a5.toInt ∧ a5.toInt ≤ 60 := by omega
                  refine lv_iconst (v := 0) hx hb dX10_paste_110 (by decide) ?_
                  refine lv_istore (lv' := [(6, .int 0), (0, .ref ob), (1, .int 1), (2, .int a2), (3, .int 1), (4, .int a4), (5, .int a5)]) hx hb dX10_paste_111 hl (by decide) rfl (fun ls hl => ?_)
                  refine loopX (fun n H locs ls st => ∃ (v_1137 : Int32) (f_1138 : Nat → Int64), (60 - v_1137.toInt).toNat = n ∧ ((0 : Int) ≤ v_1137.toInt ∧ v_1137.toInt ≤ 60) ∧ st = [] ∧ vPD G A H [(ce_X10 ob ob_thrown ob_world ob_images ob_hasImage ob_tape ob_taped ob_five ob_size ob_at ob_from ob_token ob_value ob_faultKind ob_faultPlace ob_fresh ob_parts ob_houses ob_houseMany ob_worthOf ob_byCall ob_over ob_bestSet ob_bestOver ob_bestWorth ob_row ob_tenDebts ob_tenMany ob_fewestBy ob_covered ob_queue ob_cameBy ob_parent ob_met ob_calls ob_callMany ob_calledOn ob_saved ob_many ob_width ob_numbers ob_moving), (ce_i4 y ob_many fob_many), (ce_i4 y ob_width fob_width), (ce_l240 y ob_numbers fob_numbers), (ce_l60 y ob_moving f_1138)] ∧ va_S A s.heap H locs ∧ lv_has ls 7 [(6, .int v_1137), (0, .ref ob), (1, .int 1), (2, .int a2), (3, .int 1), (4, .int a4), (5, .int a5)]) ?_ (n := (60 - (0 : Int32).toInt).toNat) ⟨0, fob_moving, rfl, (bw (0) (60) (bkc (x := 0) (c := 0) (by decide)) (by decide)), rfl, ⟨hP, hD⟩, hS, lv_sub hl [0, 1, 2, 3, 4, 5, 6] rfl⟩
                  rintro n ih_1145 H locs ls st ⟨v_1137, f_1138, hn_1145, bv_1137, rfl, ⟨hP, hD⟩, hS, hl⟩
                  refine lv_iload hx hb dX10_paste_113 (lv_at hl 0 rfl) ?_
                  refine lv_iload hx hb dX10_paste_115 (lv_at hl 6 rfl) ?_
                  refine lv_icmp_ge (tgt := 147) hx hb dX10_paste_117 (by decide) (fun c_1146 => ?_) (fun c_1146 => ?_)
                  · skip
                    have nc_1146 := nb_le (60) (0) c_1146 h_1031 bv_1137 (by decide)
                    refine lv_iconst (v := 0) hx hb dX10_paste_147 (by decide) ?_
                    refine lv_istore (lv' := [(6, .int 0), (0, .ref ob), (1, .int 1), (2, .int a2), (3, .int 1), (4, .int a4), (5, .int a5)]) hx hb dX10_paste_148 hl (by decide) rfl (fun ls hl => ?_)
                    refine loopX (fun n H locs ls st => ∃ (v_1252 : Int32) (f_1253 : Nat → Int64), (60 - v_1252.toInt).toNat = n ∧ ((0 : Int) ≤ v_1252.toInt ∧ v_1252.toInt ≤ 60) ∧ st = [] ∧ vPD G A H [(ce_X10 ob ob_thrown ob_world ob_images ob_hasImage ob_tape ob_taped ob_five ob_size ob_at ob_from ob_token ob_value ob_faultKind ob_faultPlace ob_fresh ob_parts ob_houses ob_houseMany ob_worthOf ob_byCall ob_over ob_bestSet ob_bestOver ob_bestWorth ob_row ob_tenDebts ob_tenMany ob_fewestBy ob_covered ob_queue ob_cameBy ob_parent ob_met ob_calls ob_callMany ob_calledOn ob_saved ob_many ob_width ob_numbers ob_moving), (ce_i4 y ob_many fob_many), (ce_i4 y ob_width fob_width), (ce_l240 y ob_numbers f_1253), (ce_l60 y ob_moving f_1138)] ∧ va_S A s.heap H locs ∧ lv_has ls 7 [(6, .int v_1252), (0, .ref ob), (3, .int 1), (4, .int a4), (5, .int a5)]) ?_ (n := (60 - (0 : Int32).toInt).toNat) ⟨0, fob_numbers, rfl, (bw (0) (60) (bkc (x := 0) (c := 0) (by decide)) (by decide)), rfl, ⟨hP, hD⟩, hS, lv_sub hl [0, 1, 4, 5, 6] rfl⟩
                    rintro n ih_1260 H locs ls st ⟨v_1252, f_1253, hn_1260, bv_1252, rfl, ⟨hP, hD⟩, hS, hl⟩
                    refine lv_iload hx hb dX10_paste_150 (lv_at hl 0 rfl) ?_
                    refine lv_iload hx hb dX10_paste_152 (lv_at hl 4 rfl) ?_
                    refine lv_icmp_ge (tgt := 185) hx hb dX10_paste_154 (by decide) (fun c_1261 => ?_) (fun c_1261 => ?_)
                    · skip
                      have nc_1261 := nb_le (60) (0) c_1261 nc_1146.1 bv_1252 (by decide)
                      refine lv_iconst (v := 0) hx hb dX10_paste_185 (by decide) ?_
                      exact W.iret (v := 0) hx hb hr (fun t ht hW => ⟨⟨0, _, rfl, Or.inr (Or.inr (⟨f_1253, f_1138, h_1029, h_1030, nc_1261.1, by have h90 : Int32.toInt 0 = 0 := (by decide); have h91 : Int32.toInt 1 = 1 := (by decide); omega, rfl, rfl⟩)), by rw [ht]; exact hP, hD⟩, hS.F ht⟩) hS.2.2 dX10_paste_186
                    · skip
                      have nc_1261 := nb_nle (59) (1) c_1261 bv_1252 nc_1146.1 (by decide)
                      refine lv_aload_n hx hb dX10_paste_157 rfl (lv_at hl 1 rfl) ?_
                      refine va_get (D := G) (ci := 10) (v := .ref ob_numbers) (C := RX10) (T := TX10) (N := 41) hx hb hw0 inA_wsX100 hown hK.1 hP 0 rfl rfl 39 (by decide) (hw0 _ m_435) (fun _ h9 => h9) rfl dX10_paste_158 ?_
                      refine lv_bipush (v := 60) hx hb dX10_paste_161 (by decide) ?_
                      refine lv_iload_n hx hb dX10_paste_163 rfl (lv_at hl 2 rfl) ?_
                      refine lv_imul hx hb dX10_paste_164 ?_
                      refine lv_topi (fun v_1262 ev_1262 => ?_)
                      obtain rfl : 60 = v_1262 := (ev_1262.trans (by decide)).symm
                      refine lv_iload hx hb dX10_paste_165 (lv_at hl 3 rfl) ?_
                      refine lv_iadd hx hb dX10_paste_167 ?_
                      refine lv_topi (fun v_1263 ev_1263 => ?_)
                      have qv_1263 := ba_add ev_1263 (bkc (x := 60) (c := 60) (by decide)) h_1030 (by decide)
                      have bv_1263 : (60 : Int) ≤ v_1263.toInt ∧ v_1263.toInt ≤ 120 := bq_add qv_1263 (bkc (x := 60) (c := 60) (by decide)) h_1030 _ _ (by decide)
                      have qv_1263 : v_1263.toInt = (60) + a4.toInt := qv_1263
                      refine lv_iload hx hb dX10_paste_168 (lv_at hl 0 rfl) ?_
                      refine lv_iadd hx hb dX10_paste_170 ?_
                      refine lv_topi (fun v_1264 ev_1264 => ?_)
                      have qv_1264 := ba_add ev_1264 bv_1263 nc_1261.1 (by decide)
                      have bv_1264 : (60 : Int) ≤ v_1264.toInt ∧ v_1264.toInt ≤ 179 := bq_add qv_1264 bv_1263 nc_1261.1 _ _ (by decide)
                      refine lv_aload_n hx hb dX10_paste_171 rfl (lv_at hl 1 rfl) ?_
                      refine va_get (D := G) (ci := 10) (v := .ref ob_moving) (C := RX10) (T := TX10) (N := 41) hx hb hw0 inA_wsX100 hown hK.1 hP 0 rfl rfl 40 (by decide) (hw0 _ m_529) (fun _ h9 => h9) rfl dX10_paste_172 ?_
                      refine lv_iload hx hb dX10_paste_175 (lv_at hl 0 rfl) ?_
                      refine va_lald hx hb hK.1 hP 4 2 rfl rfl (vi nc_1261.1 (by decide)) dX10_paste_177 ?_
                      refine lv_topl (fun v_1265 ev_1265 => ?_)
                      refine va_last hx hb hK.1 hP hD hS 3 2 rfl rfl (vi bv_1264 (by decide)) dX10_paste_178 (fun H locs hP hD hS => ?_)
                      generalize hf_1266 : (vp_updL f_1253 (v_1264 : Int32).toNatClampNeg v_1265) = f_1266 at hP hD
                      obtain ⟨hP, hD⟩ : vPD G A H [(ce_X10 ob ob_thrown ob_world ob_images ob_hasImage ob_tape ob_taped ob_five ob_size ob_at ob_from ob_token ob_value ob_faultKind ob_faultPlace ob_fresh ob_parts ob_houses ob_houseMany ob_worthOf ob_byCall ob_over ob_bestSet ob_bestOver ob_bestWorth ob_row ob_tenDebts ob_tenMany ob_fewestBy ob_covered ob_queue ob_cameBy ob_parent ob_met ob_calls ob_callMany ob_calledOn ob_saved ob_many ob_width ob_numbers ob_moving), (ce_i4 y ob_many fob_many), (ce_i4 y ob_width fob_width), (ce_l240 y ob_numbers f_1266), (ce_l60 y ob_moving f_1138)] := ⟨hP, hD⟩
                      obtain ⟨v_1267, ev_1267⟩ : ∃ z : Int32, z = v_1252 + 1 := ⟨_, rfl⟩
                      have qv_1267 := ba_add ev_1267 nc_1261.1 (bkc (x := 1) (c := 1) (by decide)) (by decide)
                      have bv_1267 : (1 : Int) ≤ v_1267.toInt ∧ v_1267.toInt ≤ 60 := bq_add qv_1267 nc_1261.1 (bkc (x := 1) (c := 1) (by decide)) _ _ (by decide)
                      have qv_1267 : v_1267.toInt = v_1252.toInt + (1) := qv_1267
                      refine lv_iinc (v := v_1267) (lv' := [(6, .int v_1267), (0, .ref ob), (3, .int 1), (4, .int a4), (5, .int a5)]) hx hb dX10_paste_179 hl (k := 0) rfl (ev_1267.symm) (by decide) rfl (fun ls hl => ?_)
                      refine lv_goto (tgt := 150) hx hb dX10_paste_182 (by decide) ?_
                      exact ih_1260 _ (ml_inc (hi := 60) hn_1260 qv_1267 (by decide) ((bw (0) (60) bv_1267 (by decide))).2) _ _ _ _ ⟨v_1267, f_1266, rfl, (bw (0) (60) bv_1267 (by decide)), rfl, ⟨hP, hD⟩, hS, lv_sub hl [0, 1, 2, 3, 4] rfl⟩
                  · skip
                    have nc_1146 := nb_nle (59) (1) c_1146 bv_1137 h_1031 (by decide)
                    refine lv_aload_n hx hb dX10_paste_120 rfl (lv_at hl 1 rfl) ?_
                    refine va_get (D := G) (ci := 10) (v := .ref ob_moving) (C := RX10) (T := TX10) (N := 41) hx hb hw0 inA_wsX100 hown hK.1 hP 0 rfl rfl 40 (by decide) (hw0 _ m_529) (fun _ h9 => h9) rfl dX10_paste_121 ?_
                    refine lv_iload hx hb dX10_paste_124 (lv_at hl 0 rfl) ?_
                    refine lv_aload_n hx hb dX10_paste_126 rfl (lv_at hl 1 rfl) ?_
                    refine va_get (D := G) (ci := 10) (v := .ref ob_numbers) (C := RX10) (T := TX10) (N := 41) hx hb hw0 inA_wsX100 hown hK.1 hP 0 rfl rfl 39 (by decide) (hw0 _ m_435) (fun _ h9 => h9) rfl dX10_paste_127 ?_
                    refine lv_bipush (v := 60) hx hb dX10_paste_130 (by decide) ?_
                    refine lv_iload_n hx hb dX10_paste_132 rfl (lv_at hl 2 rfl) ?_
                    refine lv_imul hx hb dX10_paste_133 ?_
                    refine lv_topi (fun v_1268 ev_1268 => ?_)
                    obtain rfl : 60 = v_1268 := (ev_1268.trans (by decide)).symm
                    refine lv_iload_n hx hb dX10_paste_134 rfl (lv_at hl 3 rfl) ?_
                    refine lv_iadd hx hb dX10_paste_135 ?_
                    refine lv_topi (fun v_1269 ev_1269 => ?_)
                    have qv_1269 := ba_add ev_1269 (bkc (x := 60) (c := 60) (by decide)) h_1029 (by decide)
                    have bv_1269 : (60 : Int) ≤ v_1269.toInt ∧ v_1269.toInt ≤ 120 := bq_add qv_1269 (bkc (x := 60) (c := 60) (by decide)) h_1029 _ _ (by decide)
                    have qv_1269 : v_1269.toInt = (60) + a2.toInt := qv_1269
                    refine lv_iload hx hb dX10_paste_136 (lv_at hl 0 rfl) ?_
                    refine lv_iadd hx hb dX10_paste_138 ?_
                    refine lv_topi (fun v_1270 ev_1270 => ?_)
                    have qv_1270 := ba_add ev_1270 bv_1269 nc_1146.1 (by decide)
                    have bv_1270 : (60 : Int) ≤ v_1270.toInt ∧ v_1270.toInt ≤ 179 := bq_add qv_1270 bv_1269 nc_1146.1 _ _ (by decide)
                    refine va_lald hx hb hK.1 hP 3 2 rfl rfl (vi bv_1270 (by decide)) dX10_paste_139 ?_
                    refine lv_topl (fun v_1271 ev_1271 => ?_)
                    refine va_last hx hb hK.1 hP hD hS 4 2 rfl rfl (vi nc_1146.1 (by decide)) dX10_paste_140 (fun H locs hP hD hS => ?_)
                    generalize hf_1272 : (vp_updL f_1138 (v_1137 : Int32).toNatClampNeg v_1271) = f_1272 at hP hD
                    obtain ⟨hP, hD⟩ : vPD G A H [(ce_X10 ob ob_thrown ob_world ob_images ob_hasImage ob_tape ob_taped ob_five ob_size ob_at ob_from ob_token ob_value ob_faultKind ob_faultPlace ob_fresh ob_parts ob_houses ob_houseMany ob_worthOf ob_byCall ob_over ob_bestSet ob_bestOver ob_bestWorth ob_row ob_tenDebts ob_tenMany ob_fewestBy ob_covered ob_queue ob_cameBy ob_parent ob_met ob_calls ob_callMany ob_calledOn ob_saved ob_many ob_width ob_numbers ob_moving), (ce_i4 y ob_many fob_many), (ce_i4 y ob_width fob_width), (ce_l240 y ob_numbers fob_numbers), (ce_l60 y ob_moving f_1272)] := ⟨hP, hD⟩
                    obtain ⟨v_1273, ev_1273⟩ : ∃ z : Int32, z = v_1137 + 1 := ⟨_, rfl⟩
                    have qv_1273 := ba_add ev_1273 nc_1146.1 (bkc (x := 1) (c := 1) (by decide)) (by decide)
                    have bv_1273 : (1 : Int) ≤ v_1273.toInt ∧ v_1273.toInt ≤ 60 := bq_add qv_1273 nc_1146.1 (bkc (x := 1) (c := 1) (by decide)) _ _ (by decide)
                    have qv_1273 : v_1273.toInt = v_1137.toInt + (1) := qv_1273
                    refine lv_iinc (v := v_1273) (lv' := [(6, .int v_1273), (0, .ref ob), (1, .int 1), (2, .int a2), (3, .int 1), (4, .int a4), (5, .int a5)]) hx hb dX10_paste_141 hl (k := 0) rfl (ev_1273.symm) (by decide) rfl (fun ls hl => ?_)
                    refine lv_goto (tgt := 113) hx hb dX10_paste_144 (by decide) ?_
                    exact ih_1145 _ (ml_inc (hi := 60) hn_1145 qv_1273 (by decide) ((bw (0) (60) bv_1273 (by decide))).2) _ _ _ _ ⟨v_1273, f_1272, rfl, (bw (0) (60) bv_1273 (by decide)), rfl, ⟨hP, hD⟩, hS, lv_sub hl [0, 1, 2, 3, 4, 5, 6] rfl⟩
                · skip
                  have nc_1028 := jl_nle c_1028
                  refine lv_bipush (v := (-7)) hx hb dX10_paste_107 (by decide) ?_
                  exact W.iret (v := (-7)) hx hb hr (fun t ht hW => ⟨⟨(-7), _, rfl, Or.inr (Or.inl (⟨by have h90 : Int32.toInt (-7) = -7 := (by decide); have h91 : Int32.toInt 1 = 1 := (by decide); omega, rfl, rfl⟩)), by rw [ht]; exact hP, hD⟩, hS.F ht⟩) hS.2.2 dX10_paste_109

set_option maxHeartbeats 4000000 in
set_option maxRecDepth 100000 in
theorem fpasteM12 (l : Launch) (G : va_G) (y : Nat → ClassId) (sz : Nat) (ob : Nat) (a2 : Int32) (a4 : Int32) (a5 : Int32) (ob_thrown : Int32) (ob_world : Nat) (ob_images : Nat) (ob_hasImage : Nat) (ob_tape : Nat) (ob_taped : Int32) (ob_five : Nat) (ob_size : Int32) (ob_at : Int32) (ob_from : Int32) (ob_token : Int32) (ob_value : Int32) (ob_faultKind : Int32) (ob_faultPlace : Int32) (ob_fresh : Nat) (ob_parts : Nat) (ob_houses : Nat) (ob_houseMany : Int32) (ob_worthOf : Nat) (ob_byCall : Nat) (ob_over : Nat) (ob_bestSet : Int32) (ob_bestOver : Int32) (ob_bestWorth : Int32) (ob_row : Nat) (ob_tenDebts : Nat) (ob_tenMany : Int32) (ob_fewestBy : Nat) (ob_covered : Nat) (ob_queue : Nat) (ob_cameBy : Nat) (ob_parent : Nat) (ob_met : Nat) (ob_calls : Nat) (ob_callMany : Int32) (ob_calledOn : Nat) (ob_saved : Nat) (ob_many : Nat) (ob_width : Nat) (ob_numbers : Nat) (ob_moving : Nat) (fob_many : Nat → Int32) (fob_width : Nat → Int32) (fob_numbers : Nat → Int64) (fob_moving : Nat → Int64) (p_ob_taped : (0 : Int) ≤ ob_taped.toInt ∧ ob_taped.toInt ≤ 1400) (p_ob_size : (0 : Int) ≤ ob_size.toInt ∧ ob_size.toInt ≤ 1400) (p_ob_at : (0 : Int) ≤ ob_at.toInt ∧ ob_at.toInt ≤ 1400) (p_ob_from : (0 : Int) ≤ ob_from.toInt ∧ ob_from.toInt ≤ 1400) (p_ob_token : (0 : Int) ≤ ob_token.toInt ∧ ob_token.toInt ≤ 4) (p_ob_value : (0 : Int) ≤ ob_value.toInt ∧ ob_value.toInt ≤ 9999) (p_ob_faultKind : (0 : Int) ≤ ob_faultKind.toInt ∧ ob_faultKind.toInt ≤ 3) (p_ob_houseMany : (0 : Int) ≤ ob_houseMany.toInt ∧ ob_houseMany.toInt ≤ 10) (p_ob_bestSet : (0 : Int) ≤ ob_bestSet.toInt ∧ ob_bestSet.toInt ≤ 1023) (p_ob_bestOver : (-1 : Int) ≤ ob_bestOver.toInt ∧ ob_bestOver.toInt ≤ 180) (p_ob_tenMany : (0 : Int) ≤ ob_tenMany.toInt ∧ ob_tenMany.toInt ≤ 10) (p_ob_callMany : (0 : Int) ≤ ob_callMany.toInt ∧ ob_callMany.toInt ≤ 16) (p_fob_many : ∀ i, (-1 : Int) ≤ (fob_many i).toInt ∧ (fob_many i).toInt ≤ 60) (p_fob_width : ∀ i, (0 : Int) ≤ (fob_width i).toInt ∧ (fob_width i).toInt ≤ 3) : Met l yX10_paste (Cond.code yX10_paste cX10_paste 7 (some .int) :: wAll) ({ frames := 2, cells := 0, slots := 0, locals := 45 }) (va_Pc [.ref ob, .int 1, .int a2, .int 2, .int a4, .int a5] (kp G y sz [(ce_X10 ob ob_thrown ob_world ob_images ob_hasImage ob_tape ob_taped ob_five ob_size ob_at ob_from ob_token ob_value ob_faultKind ob_faultPlace ob_fresh ob_parts ob_houses ob_houseMany ob_worthOf ob_byCall ob_over ob_bestSet ob_bestOver ob_bestWorth ob_row ob_tenDebts ob_tenMany ob_fewestBy ob_covered ob_queue ob_cameBy ob_parent ob_met ob_calls ob_callMany ob_calledOn ob_saved ob_many ob_width ob_numbers ob_moving), (ce_i4 y ob_many fob_many), (ce_i4 y ob_width fob_width), (ce_l240 y ob_numbers fob_numbers), (ce_l60 y ob_moving fob_moving)])) (va_Qi (fun (r : Int32) (w : va_W) => (((fob_many 1).toInt = -1 ∨ (fob_many 2).toInt = -1) ∧ r = (-6) ∧ w = [(ce_X10 ob ob_thrown ob_world ob_images ob_hasImage ob_tape ob_taped ob_five ob_size ob_at ob_from ob_token ob_value ob_faultKind ob_faultPlace ob_fresh ob_parts ob_houses ob_houseMany ob_worthOf ob_byCall ob_over ob_bestSet ob_bestOver ob_bestWorth ob_row ob_tenDebts ob_tenMany ob_fewestBy ob_covered ob_queue ob_cameBy ob_parent ob_met ob_calls ob_callMany ob_calledOn ob_saved ob_many ob_width ob_numbers ob_moving), (ce_i4 y ob_many fob_many), (ce_i4 y ob_width fob_width), (ce_l240 y ob_numbers fob_numbers), (ce_l60 y ob_moving fob_moving)]) ∨ ((¬ (fob_many 1).toInt = -1 ∧ ¬ (fob_many 2).toInt = -1 ∧ (fob_width 1).toInt = (fob_width 2).toInt ∧ ¬ (0 ≤ a2.toInt ∧ 0 ≤ a4.toInt ∧ 0 ≤ a5.toInt ∧ a2.toInt + a5.toInt ≤ (fob_many 1).toInt ∧ a4.toInt + a5.toInt ≤ (fob_many 2).toInt)) ∧ r = (-7) ∧ w = [(ce_X10 ob ob_thrown ob_world ob_images ob_hasImage ob_tape ob_taped ob_five ob_size ob_at ob_from ob_token ob_value ob_faultKind ob_faultPlace ob_fresh ob_parts ob_houses ob_houseMany ob_worthOf ob_byCall ob_over ob_bestSet ob_bestOver ob_bestWorth ob_row ob_tenDebts ob_tenMany ob_fewestBy ob_covered ob_queue ob_cameBy ob_parent ob_met ob_calls ob_callMany ob_calledOn ob_saved ob_many ob_width ob_numbers ob_moving), (ce_i4 y ob_many fob_many), (ce_i4 y ob_width fob_width), (ce_l240 y ob_numbers fob_numbers), (ce_l60 y ob_moving fob_moving)]) ∨ ((¬ (fob_many 1).toInt = -1 ∧ ¬ (fob_many 2).toInt = -1 ∧ ¬ (fob_width 1).toInt = (fob_width 2).toInt) ∧ r = (-8) ∧ w = [(ce_X10 ob ob_thrown ob_world ob_images ob_hasImage ob_tape ob_taped ob_five ob_size ob_at ob_from ob_token ob_value ob_faultKind ob_faultPlace ob_fresh ob_parts ob_houses ob_houseMany ob_worthOf ob_byCall ob_over ob_bestSet ob_bestOver ob_bestWorth ob_row ob_tenDebts ob_tenMany ob_fewestBy ob_covered ob_queue ob_cameBy ob_parent ob_met ob_calls ob_callMany ob_calledOn ob_saved ob_many ob_width ob_numbers ob_moving), (ce_i4 y ob_many fob_many), (ce_i4 y ob_width fob_width), (ce_l240 y ob_numbers fob_numbers), (ce_l60 y ob_moving fob_moving)]) ∨ (∃ (f_551 : Nat → Int64) (f_552 : Nat → Int64), ((0 : Int) ≤ a2.toInt ∧ a2.toInt ≤ 60) ∧ ((0 : Int) ≤ a4.toInt ∧ a4.toInt ≤ 60) ∧ ((0 : Int) ≤ a5.toInt ∧ a5.toInt ≤ 60) ∧ (¬ (fob_many 1).toInt = -1 ∧ ¬ (fob_many 2).toInt = -1 ∧ (fob_width 1).toInt = (fob_width 2).toInt ∧ 0 ≤ a2.toInt ∧ 0 ≤ a4.toInt ∧ 0 ≤ a5.toInt ∧ a2.toInt + a5.toInt ≤ (fob_many 1).toInt ∧ a4.toInt + a5.toInt ≤ (fob_many 2).toInt) ∧ r = 0 ∧ w = [(ce_X10 ob ob_thrown ob_world ob_images ob_hasImage ob_tape ob_taped ob_five ob_size ob_at ob_from ob_token ob_value ob_faultKind ob_faultPlace ob_fresh ob_parts ob_houses ob_houseMany ob_worthOf ob_byCall ob_over ob_bestSet ob_bestOver ob_bestWorth ob_row ob_tenDebts ob_tenMany ob_fewestBy ob_covered ob_queue ob_cameBy ob_parent ob_met ob_calls ob_callMany ob_calledOn ob_saved ob_many ob_width ob_numbers ob_moving), (ce_i4 y ob_many fob_many), (ce_i4 y ob_width fob_width), (ce_l240 y ob_numbers f_551), (ce_l60 y ob_moving f_552)])) (kq G (va_A [(ce_X10 ob ob_thrown ob_world ob_images ob_hasImage ob_tape ob_taped ob_five ob_size ob_at ob_from ob_token ob_value ob_faultKind ob_faultPlace ob_fresh ob_parts ob_houses ob_houseMany ob_worthOf ob_byCall ob_over ob_bestSet ob_bestOver ob_bestWorth ob_row ob_tenDebts ob_tenMany ob_fewestBy ob_covered ob_queue ob_cameBy ob_parent ob_met ob_calls ob_callMany ob_calledOn ob_saved ob_many ob_width ob_numbers ob_moving), (ce_i4 y ob_many fob_many), (ce_i4 y ob_width fob_width), (ce_l240 y ob_numbers fob_numbers), (ce_l60 y ob_moving fob_moving)] sz)) (va_A [(ce_X10 ob ob_thrown ob_world ob_images ob_hasImage ob_tape ob_taped ob_five ob_size ob_at ob_from ob_token ob_value ob_faultKind ob_faultPlace ob_fresh ob_parts ob_houses ob_houseMany ob_worthOf ob_byCall ob_over ob_bestSet ob_bestOver ob_bestWorth ob_row ob_tenDebts ob_tenMany ob_fewestBy ob_covered ob_queue ob_cameBy ob_parent ob_met ob_calls ob_callMany ob_calledOn ob_saved ob_many ob_width ob_numbers ob_moving), (ce_i4 y ob_many fob_many), (ce_i4 y ob_width fob_width), (ce_l240 y ob_numbers fob_numbers), (ce_l60 y ob_moving fob_moving)] sz)) 0 0 (va_A [(ce_X10 ob ob_thrown ob_world ob_images ob_hasImage ob_tape ob_taped ob_five ob_size ob_at ob_from ob_token ob_value ob_faultKind ob_faultPlace ob_fresh ob_parts ob_houses ob_houseMany ob_worthOf ob_byCall ob_over ob_bestSet ob_bestOver ob_bestWorth ob_row ob_tenDebts ob_tenMany ob_fewestBy ob_covered ob_queue ob_cameBy ob_parent ob_met ob_calls ob_callMany ob_calledOn ob_saved ob_many ob_width ob_numbers ob_moving), (ce_i4 y ob_many fob_many), (ce_i4 y ob_width fob_width), (ce_l240 y ob_numbers fob_numbers), (ce_l60 y ob_moving fob_moving)] sz) := by
  refine Met.ofW (cc := cX10_paste) (maxL := 7) (ret := (some .int)) (by decide) rfl ?_
  intro p e s m args below meth c s₁ B hml hv
  obtain ⟨rfl, hsz, hP, hK, hD0⟩ := hv
  have hx := B.exec
  have hb := B.bytes
  have hr := B.returns
  have hw0 : ∀ w ∈ wAll, w.before _ s = true := fun w h => atoms_spec (ws := Cond.code yX10_paste cX10_paste 7 (some .int) :: wAll) B.pre w (List.mem_cons_of_mem _ h)
  have hown : s.vm.findClass RX10 = some m.cls := findClass_of_methodNamed B.named
  subst hsz
  have hD := hD0.self (sz := s.heap.size)
  generalize hAe : va_A [(ce_X10 ob ob_thrown ob_world ob_images ob_hasImage ob_tape ob_taped ob_five ob_size ob_at ob_from ob_token ob_value ob_faultKind ob_faultPlace ob_fresh ob_parts ob_houses ob_houseMany ob_worthOf ob_byCall ob_over ob_bestSet ob_bestOver ob_bestWorth ob_row ob_tenDebts ob_tenMany ob_fewestBy ob_covered ob_queue ob_cameBy ob_parent ob_met ob_calls ob_callMany ob_calledOn ob_saved ob_many ob_width ob_numbers ob_moving), (ce_i4 y ob_many fob_many), (ce_i4 y ob_width fob_width), (ce_l240 y ob_numbers fob_numbers), (ce_l60 y ob_moving fob_moving)] s.heap.size = A at hD ⊢
  have hA : ∀ q : Nat, s.heap.size ≤ q → A q := fun q h => by rw [← hAe]; exact Or.inr h
  have hS : va_S A s.heap s.heap [] := va_S.rf
  have hP : va_P G vwCl [(ce_X10 ob ob_thrown ob_world ob_images ob_hasImage ob_tape ob_taped ob_five ob_size ob_at ob_from ob_token ob_value ob_faultKind ob_faultPlace ob_fresh ob_parts ob_houses ob_houseMany ob_worthOf ob_byCall ob_over ob_bestSet ob_bestOver ob_bestWorth ob_row ob_tenDebts ob_tenMany ob_fewestBy ob_covered ob_queue ob_cameBy ob_parent ob_met ob_calls ob_callMany ob_calledOn ob_saved ob_many ob_width ob_numbers ob_moving), (ce_i4 y ob_many fob_many), (ce_i4 y ob_width fob_width), (ce_l240 y ob_numbers fob_numbers), (ce_l60 y ob_moving fob_moving)] s.heap := hP
  have hl := lv_entry ([.ref ob, .int 1, .int a2, .int 2, .int a4, .int a5]) (n := 7) (Nat.le_of_ble_eq_true rfl)
  rw [lg_entry_eq]
  generalize (lg_sl ([.ref ob, .int 1, .int a2, .int 2, .int a4, .int a5]) ++ List.replicate (7 - (lg_sl ([.ref ob, .int 1, .int a2, .int 2, .int a4, .int a5])).length) Slot.unset).toArray = ls at hl ⊢
  have hl : lv_has ls 7 [(0, .ref ob), (1, .int 1), (2, .int a2), (3, .int 2), (4, .int a4), (5, .int a5)] := hl
  refine lv_iload_n hx hb dX10_paste_0 rfl (lv_at hl 1 rfl) ?_
  refine cSim (As := [.int 1]) (rest := []) ⟨hx, hb, hml, hown, hw0⟩ hA hK hP hD hS [] (fisSlotM l G y _ 1 ) rfl ⟨(callB_of 1 hw0 (gA m_543) rfl rfl rfl (hw0 _ m_41) (hw0 _ m_433) cb_X10_isSlot ⟨Nat.le_of_ble_eq_true rfl, Nat.le_of_ble_eq_true rfl⟩), (hw0 _ m_434)⟩ rfl hl.1 (Nat.le_of_ble_eq_true rfl) dX10_paste_1 ⟨Nat.le_of_ble_eq_true rfl, Nat.le_of_ble_eq_true rfl⟩ (fun r_1001 w_1001 H locs hw_1001 hP hD hS => ?_)
  rcases hw_1001 with ⟨h_1002, rfl, rfl⟩ | ⟨h_1003, h_1004, rfl, rfl⟩
  · skip
    exact False.elim (by have h9 : Int32.toInt 1 = 1 := (by decide); omega)
  · skip
    obtain ⟨hP, hD⟩ : vPD G A H [(ce_X10 ob ob_thrown ob_world ob_images ob_hasImage ob_tape ob_taped ob_five ob_size ob_at ob_from ob_token ob_value ob_faultKind ob_faultPlace ob_fresh ob_parts ob_houses ob_houseMany ob_worthOf ob_byCall ob_over ob_bestSet ob_bestOver ob_bestWorth ob_row ob_tenDebts ob_tenMany ob_fewestBy ob_covered ob_queue ob_cameBy ob_parent ob_met ob_calls ob_callMany ob_calledOn ob_saved ob_many ob_width ob_numbers ob_moving), (ce_i4 y ob_many fob_many), (ce_i4 y ob_width fob_width), (ce_l240 y ob_numbers fob_numbers), (ce_l60 y ob_moving fob_moving)] := ⟨hP, hD⟩
    refine lv_if_eq (tgt := 14) hx hb dX10_paste_4 (by decide) (fun c9 => absurd c9 (by decide)) (fun _ => ?_)
    refine lv_iload_n hx hb dX10_paste_7 rfl (lv_at hl 3 rfl) ?_
    refine cSim (As := [.int 2]) (rest := []) ⟨hx, hb, hml, hown, hw0⟩ hA hK hP hD hS [] (fisSlotM l G y _ 2 ) rfl ⟨(callB_of 1 hw0 (gA m_543) rfl rfl rfl (hw0 _ m_41) (hw0 _ m_433) cb_X10_isSlot ⟨Nat.le_of_ble_eq_true rfl, Nat.le_of_ble_eq_true rfl⟩), (hw0 _ m_434)⟩ rfl hl.1 (Nat.le_of_ble_eq_true rfl) dX10_paste_8 ⟨Nat.le_of_ble_eq_true rfl, Nat.le_of_ble_eq_true rfl⟩ (fun r_1005 w_1005 H locs hw_1005 hP hD hS => ?_)
    rcases hw_1005 with ⟨h_1006, rfl, rfl⟩ | ⟨h_1007, h_1008, rfl, rfl⟩
    · skip
      exact False.elim (by have h9 : Int32.toInt 2 = 2 := (by decide); omega)
    · skip
      obtain ⟨hP, hD⟩ : vPD G A H [(ce_X10 ob ob_thrown ob_world ob_images ob_hasImage ob_tape ob_taped ob_five ob_size ob_at ob_from ob_token ob_value ob_faultKind ob_faultPlace ob_fresh ob_parts ob_houses ob_houseMany ob_worthOf ob_byCall ob_over ob_bestSet ob_bestOver ob_bestWorth ob_row ob_tenDebts ob_tenMany ob_fewestBy ob_covered ob_queue ob_cameBy ob_parent ob_met ob_calls ob_callMany ob_calledOn ob_saved ob_many ob_width ob_numbers ob_moving), (ce_i4 y ob_many fob_many), (ce_i4 y ob_width fob_width), (ce_l240 y ob_numbers fob_numbers), (ce_l60 y ob_moving fob_moving)] := ⟨hP, hD⟩
      refine lv_if_ne (tgt := 17) hx hb dX10_paste_11 (by decide) (fun _ => ?_) (fun c9 => absurd c9 (by decide))
      refine lv_aload_n hx hb dX10_paste_17 rfl (lv_at hl 0 rfl) ?_
      refine va_get (D := G) (ci := 10) (v := .ref ob_many) (C := RX10) (T := TX10) (N := 41) hx hb hw0 inA_wsX100 hown hK.1 hP 0 rfl rfl 37 (by decide) (hw0 _ m_406) (fun _ h9 => h9) rfl dX10_paste_18 ?_
      refine lv_iload_n hx hb dX10_paste_21 rfl (lv_at hl 1 rfl) ?_
      refine va_iald hx hb hK.1 hP 1 1 rfl rfl (vi (bkc (x := 1) (c := 1) (by decide)) (by decide)) dX10_paste_22 ?_
      refine lv_topi (fun v_1009 ev_1009 => ?_)
      have bv_1009 : (-1 : Int) ≤ v_1009.toInt ∧ v_1009.toInt ≤ 60 := rd_b ev_1009 p_fob_many
      have yv_1009 : v_1009.toInt = (fob_many 1).toInt := congrArg Int32.toInt ev_1009
      refine lv_iconst (v := (-1)) hx hb dX10_paste_23 (by decide) ?_
      refine lv_icmp_eq (tgt := 37) hx hb dX10_paste_24 (by decide) (fun c_1010 => ?_) (fun c_1010 => ?_)
      · skip
        have nc_1010 := nb_eq (-1) (-1) c_1010 bv_1009 (bkc (x := (-1)) (c := -1) (by decide)) (by decide)
        refine lv_bipush (v := (-6)) hx hb dX10_paste_37 (by decide) ?_
        exact W.iret (v := (-6)) hx hb hr (fun t ht hW => ⟨⟨(-6), _, rfl, Or.inl (⟨by have h90 : Int32.toInt (-6) = -6 := (by decide); have h91 : Int32.toInt 1 = 1 := (by decide); have h92 : Int32.toInt 2 = 2 := (by decide); omega, rfl, rfl⟩), by rw [ht]; exact hP, hD⟩, hS.F ht⟩) hS.2.2 dX10_paste_39
      · skip
        have nc_1010 := nb_ne (0) (60) c_1010 bv_1009 (k := -1) (by decide) (by decide)
        refine lv_aload_n hx hb dX10_paste_27 rfl (lv_at hl 0 rfl) ?_
        refine va_get (D := G) (ci := 10) (v := .ref ob_many) (C := RX10) (T := TX10) (N := 41) hx hb hw0 inA_wsX100 hown hK.1 hP 0 rfl rfl 37 (by decide) (hw0 _ m_406) (fun _ h9 => h9) rfl dX10_paste_28 ?_
        refine lv_iload_n hx hb dX10_paste_31 rfl (lv_at hl 3 rfl) ?_
        refine va_iald hx hb hK.1 hP 1 1 rfl rfl (vi (bkc (x := 2) (c := 2) (by decide)) (by decide)) dX10_paste_32 ?_
        refine lv_topi (fun v_1011 ev_1011 => ?_)
        have bv_1011 : (-1 : Int) ≤ v_1011.toInt ∧ v_1011.toInt ≤ 60 := rd_b ev_1011 p_fob_many
        have yv_1011 : v_1011.toInt = (fob_many 2).toInt := congrArg Int32.toInt ev_1011
        refine lv_iconst (v := (-1)) hx hb dX10_paste_33 (by decide) ?_
        refine lv_icmp_ne (tgt := 40) hx hb dX10_paste_34 (by decide) (fun c_1012 => ?_) (fun c_1012 => ?_)
        · skip
          have nc_1012 := nb_ne (0) (60) c_1012 bv_1011 (k := -1) (by decide) (by decide)
          refine lv_aload_n hx hb dX10_paste_40 rfl (lv_at hl 0 rfl) ?_
          refine va_get (D := G) (ci := 10) (v := .ref ob_width) (C := RX10) (T := TX10) (N := 41) hx hb hw0 inA_wsX100 hown hK.1 hP 0 rfl rfl 38 (by decide) (hw0 _ m_527) (fun _ h9 => h9) rfl dX10_paste_41 ?_
          refine lv_iload_n hx hb dX10_paste_44 rfl (lv_at hl 1 rfl) ?_
          refine va_iald hx hb hK.1 hP 2 1 rfl rfl (vi (bkc (x := 1) (c := 1) (by decide)) (by decide)) dX10_paste_45 ?_
          refine lv_topi (fun v_1013 ev_1013 => ?_)
          have bv_1013 : (0 : Int) ≤ v_1013.toInt ∧ v_1013.toInt ≤ 3 := rd_b ev_1013 p_fob_width
          have yv_1013 : v_1013.toInt = (fob_width 1).toInt := congrArg Int32.toInt ev_1013
          refine lv_aload_n hx hb dX10_paste_46 rfl (lv_at hl 0 rfl) ?_
          refine va_get (D := G) (ci := 10) (v := .ref ob_width) (C := RX10) (T := TX10) (N := 41) hx hb hw0 inA_wsX100 hown hK.1 hP 0 rfl rfl 38 (by decide) (hw0 _ m_527) (fun _ h9 => h9) rfl dX10_paste_47 ?_
          refine lv_iload_n hx hb dX10_paste_50 rfl (lv_at hl 3 rfl) ?_
          refine va_iald hx hb hK.1 hP 2 1 rfl rfl (vi (bkc (x := 2) (c := 2) (by decide)) (by decide)) dX10_paste_51 ?_
          refine lv_topi (fun v_1014 ev_1014 => ?_)
          have bv_1014 : (0 : Int) ≤ v_1014.toInt ∧ v_1014.toInt ≤ 3 := rd_b ev_1014 p_fob_width
          have yv_1014 : v_1014.toInt = (fob_width 2).toInt := congrArg Int32.toInt ev_1014
          refine lv_icmp_eq (tgt := 58) hx hb dX10_paste_52 (by decide) (fun c_1015 => ?_) (fun c_1015 => ?_)
          · skip
            have nc_1015 := nb_eq (0) (3) c_1015 bv_1013 bv_1014 (by decide)
            refine lv_iload_n hx hb dX10_paste_58 rfl (lv_at hl 2 rfl) ?_
            refine lv_if_lt (tgt := 107) hx hb dX10_paste_59 (by decide) (fun c_1016 => ?_) (fun c_1016 => ?_)
            · skip
              have nc_1016 := nb_lt (-1) (0) c_1016 (btop a2) (bkc (x := 0) (c := 0) (by decide)) (by decide)
              refine lv_bipush (v := (-7)) hx hb dX10_paste_107 (by decide) ?_
              exact W.iret (v := (-7)) hx hb hr (fun t ht hW => ⟨⟨(-7), _, rfl, Or.inr (Or.inl (⟨by have h90 : Int32.toInt (-7) = -7 := (by decide); have h91 : Int32.toInt 1 = 1 := (by decide); have h92 : Int32.toInt 2 = 2 := (by decide); omega, rfl, rfl⟩)), by rw [ht]; exact hP, hD⟩, hS.F ht⟩) hS.2.2 dX10_paste_109
            · skip
              have nc_1016 := nb_nlt (0) (0) c_1016 (bkc (x := 0) (c := 0) (by decide)) (btop a2) (by decide)
              refine lv_iload hx hb dX10_paste_62 (lv_at hl 4 rfl) ?_
              refine lv_if_lt (tgt := 107) hx hb dX10_paste_64 (by decide) (fun c_1017 => ?_) (fun c_1017 => ?_)
              · skip
                have nc_1017 := nb_lt (-1) (0) c_1017 (btop a4) (bkc (x := 0) (c := 0) (by decide)) (by decide)
                refine lv_bipush (v := (-7)) hx hb dX10_paste_107 (by decide) ?_
                exact W.iret (v := (-7)) hx hb hr (fun t ht hW => ⟨⟨(-7), _, rfl, Or.inr (Or.inl (⟨by have h90 : Int32.toInt (-7) = -7 := (by decide); have h91 : Int32.toInt 1 = 1 := (by decide); have h92 : Int32.toInt 2 = 2 := (by decide); omega, rfl, rfl⟩)), by rw [ht]; exact hP, hD⟩, hS.F ht⟩) hS.2.2 dX10_paste_109
              · skip
                have nc_1017 := nb_nlt (0) (0) c_1017 (bkc (x := 0) (c := 0) (by decide)) (btop a4) (by decide)
                refine lv_iload hx hb dX10_paste_67 (lv_at hl 5 rfl) ?_
                refine lv_if_lt (tgt := 107) hx hb dX10_paste_69 (by decide) (fun c_1018 => ?_) (fun c_1018 => ?_)
                · skip
                  have nc_1018 := nb_lt (-1) (0) c_1018 (btop a5) (bkc (x := 0) (c := 0) (by decide)) (by decide)
                  refine lv_bipush (v := (-7)) hx hb dX10_paste_107 (by decide) ?_
                  exact W.iret (v := (-7)) hx hb hr (fun t ht hW => ⟨⟨(-7), _, rfl, Or.inr (Or.inl (⟨by have h90 : Int32.toInt (-7) = -7 := (by decide); have h91 : Int32.toInt 1 = 1 := (by decide); have h92 : Int32.toInt 2 = 2 := (by decide); omega, rfl, rfl⟩)), by rw [ht]; exact hP, hD⟩, hS.F ht⟩) hS.2.2 dX10_paste_109
                · skip
                  have nc_1018 := nb_nlt (0) (0) c_1018 (bkc (x := 0) (c := 0) (by decide)) (btop a5) (by decide)
                  refine lv_iload_n hx hb dX10_paste_72 rfl (lv_at hl 2 rfl) ?_
                  refine lv_i2l hx hb dX10_paste_73 rfl ?_
                  have kk_1019 : ((a2).toInt64).toInt = (a2).toInt := Int32.toInt_toInt64 _
                  refine lv_iload hx hb dX10_paste_74 (lv_at hl 5 rfl) ?_
                  refine lv_i2l hx hb dX10_paste_76 rfl ?_
                  have kk_1020 : ((a5).toInt64).toInt = (a5).toInt := Int32.toInt_toInt64 _
                  refine lv_ladd hx hb dX10_paste_77 ?_
                  refine lv_topl (fun v_1021 ev_1021 => ?_)
                  have qv_1021 := la_add ev_1021
                  refine lv_aload_n hx hb dX10_paste_78 rfl (lv_at hl 0 rfl) ?_
                  refine va_get (D := G) (ci := 10) (v := .ref ob_many) (C := RX10) (T := TX10) (N := 41) hx hb hw0 inA_wsX100 hown hK.1 hP 0 rfl rfl 37 (by decide) (hw0 _ m_406) (fun _ h9 => h9) rfl dX10_paste_79 ?_
                  refine lv_iload_n hx hb dX10_paste_82 rfl (lv_at hl 1 rfl) ?_
                  refine va_iald hx hb hK.1 hP 1 1 rfl rfl (vi (bkc (x := 1) (c := 1) (by decide)) (by decide)) dX10_paste_83 ?_
                  refine lv_topi (fun v_1022 ev_1022 => ?_)
                  obtain rfl : v_1009 = v_1022 := (ev_1022.trans (ev_1009.symm)).symm
                  refine lv_i2l hx hb dX10_paste_84 rfl ?_
                  have kk_1023 : ((v_1009).toInt64).toInt = (v_1009).toInt := Int32.toInt_toInt64 _
                  refine W.lcmp hx hb dX10_paste_85 ?_
                  refine lv_if_gt (tgt := 107) hx hb dX10_paste_86 (by decide) (fun c_1024 => ?_) (fun c_1024 => ?_)
                  · skip
                    have nc_1024 := jl_gt c_1024
                    refine lv_bipush (v := (-7)) hx hb dX10_paste_107 (by decide) ?_
                    exact W.iret (v := (-7)) hx hb hr (fun t ht hW => ⟨⟨(-7), _, rfl, Or.inr (Or.inl (⟨by have h90 : Int32.toInt (-7) = -7 := (by decide); have h91 : Int32.toInt 1 = 1 := (by decide); have h92 : Int32.toInt 2 = 2 := (by decide); omega, rfl, rfl⟩)), by rw [ht]; exact hP, hD⟩, hS.F ht⟩) hS.2.2 dX10_paste_109
                  · skip
                    have nc_1024 := jl_ngt c_1024
                    refine lv_iload hx hb dX10_paste_89 (lv_at hl 4 rfl) ?_
                    refine lv_i2l hx hb dX10_paste_91 rfl ?_
                    have kk_1025 : ((a4).toInt64).toInt = (a4).toInt := Int32.toInt_toInt64 _
                    refine lv_iload hx hb dX10_paste_92 (lv_at hl 5 rfl) ?_
                    refine lv_i2l hx hb dX10_paste_94 rfl ?_
                    have kk_1026 : ((a5).toInt64).toInt = (a5).toInt := Int32.toInt_toInt64 _
                    refine lv_ladd hx hb dX10_paste_95 ?_
                    refine lv_topl (fun v_1027 ev_1027 => ?_)
                    have qv_1027 := la_add ev_1027
                    refine lv_aload_n hx hb dX10_paste_96 rfl (lv_at hl 0 rfl) ?_
                    refine va_get (D := G) (ci := 10) (v := .ref ob_many) (C := RX10) (T := TX10) (N := 41) hx hb hw0 inA_wsX100 hown hK.1 hP 0 rfl rfl 37 (by decide) (hw0 _ m_406) (fun _ h9 => h9) rfl dX10_paste_97 ?_
                    refine lv_iload_n hx hb dX10_paste_100 rfl (lv_at hl 3 rfl) ?_
                    refine va_iald hx hb hK.1 hP 1 1 rfl rfl (vi (bkc (x := 2) (c := 2) (by decide)) (by decide)) dX10_paste_101 ?_
                    refine lv_topi (fun v_1028 ev_1028 => ?_)
                    obtain rfl : v_1011 = v_1028 := (ev_1028.trans (ev_1011.symm)).symm
                    refine lv_i2l hx hb dX10_paste_102 rfl ?_
                    have kk_1029 : ((v_1011).toInt64).toInt = (v_1011).toInt := Int32.toInt_toInt64 _
                    refine W.lcmp hx hb dX10_paste_103 ?_
                    refine lv_if_le (tgt := 110) hx hb dX10_paste_104 (by decide) (fun c_1030 => ?_) (fun c_1030 => ?_)
                    · skip
                      have nc_1030 := jl_le c_1030
                      have h_1031 : (0 : Int) ≤ a2.toInt ∧ a2.toInt ≤ 60 := by omega
                      have h_1032 : (0 : Int) ≤ a4.toInt ∧ a4.toInt ≤ 60 := by omega
                      have h_1033 : (0 : Int) ≤ a5.toInt ∧ a5.toInt ≤ 60 := by omega
                      refine lv_iconst (v := 0) hx hb dX10_paste_110 (by decide) ?_
                      refine lv_istore (lv' := [(6, .int 0), (0, .ref ob), (1, .int 1), (2, .int a2), (3, .int 2), (4, .int a4), (5, .int a5)]) hx hb dX10_paste_111 hl (by decide) rfl (fun ls hl => ?_)
                      refine loopX (fun n H locs ls st => ∃ (v_1139 : Int32) (f_1140 : Nat → Int64), (60 - v_1139.toInt).toNat = n ∧ ((0 : Int) ≤ v_1139.toInt ∧ v_1139.toInt ≤ 60) ∧ st = [] ∧ vPD G A H [(ce_X10 ob ob_thrown ob_world ob_images ob_hasImage ob_tape ob_taped ob_five ob_size ob_at ob_from ob_token ob_value ob_faultKind ob_faultPlace ob_fresh ob_parts ob_houses ob_houseMany ob_worthOf ob_byCall ob_over ob_bestSet ob_bestOver ob_bestWorth ob_row ob_tenDebts ob_tenMany ob_fewestBy ob_covered ob_queue ob_cameBy ob_parent ob_met ob_calls ob_callMany ob_calledOn ob_saved ob_many ob_width ob_numbers ob_moving), (ce_i4 y ob_many fob_many), (ce_i4 y ob_width fob_width), (ce_l240 y ob_numbers fob_numbers), (ce_l60 y ob_moving f_1140)] ∧ va_S A s.heap H locs ∧ lv_has ls 7 [(6, .int v_1139), (0, .ref ob), (1, .int 1), (2, .int a2), (3, .int 2), (4, .int a4), (5, .int a5)]) ?_ (n := (60 - (0 : Int32).toInt).toNat) ⟨0, fob_moving, rfl, (bw (0) (60) (bkc (x := 0) (c := 0) (by decide)) (by decide)), rfl, ⟨hP, hD⟩, hS, lv_sub hl [0, 1, 2, 3, 4, 5, 6] rfl⟩
                      rintro n ih_1147 H locs ls st ⟨v_1139, f_1140, hn_1147, bv_1139, rfl, ⟨hP, hD⟩, hS, hl⟩
                      refine lv_iload hx hb dX10_paste_113 (lv_at hl 0 rfl) ?_
                      refine lv_iload hx hb dX10_paste_115 (lv_at hl 6 rfl) ?_
                      refine lv_icmp_ge (tgt := 147) hx hb dX10_paste_117 (by decide) (fun c_1148 => ?_) (fun c_1148 => ?_)
                      · skip
                        have nc_1148 := nb_le (60) (0) c_1148 h_1033 bv_1139 (by decide)
                        refine lv_iconst (v := 0) hx hb dX10_paste_147 (by decide) ?_
                        refine lv_istore (lv' := [(6, .int 0), (0, .ref ob), (1, .int 1), (2, .int a2), (3, .int 2), (4, .int a4), (5, .int a5)]) hx hb dX10_paste_148 hl (by decide) rfl (fun ls hl => ?_)
                        refine loopX (fun n H locs ls st => ∃ (v_1254 : Int32) (f_1255 : Nat → Int64), (60 - v_1254.toInt).toNat = n ∧ ((0 : Int) ≤ v_1254.toInt ∧ v_1254.toInt ≤ 60) ∧ st = [] ∧ vPD G A H [(ce_X10 ob ob_thrown ob_world ob_images ob_hasImage ob_tape ob_taped ob_five ob_size ob_at ob_from ob_token ob_value ob_faultKind ob_faultPlace ob_fresh ob_parts ob_houses ob_houseMany ob_worthOf ob_byCall ob_over ob_bestSet ob_bestOver ob_bestWorth ob_row ob_tenDebts ob_tenMany ob_fewestBy ob_covered ob_queue ob_cameBy ob_parent ob_met ob_calls ob_callMany ob_calledOn ob_saved ob_many ob_width ob_numbers ob_moving), (ce_i4 y ob_many fob_many), (ce_i4 y ob_width fob_width), (ce_l240 y ob_numbers f_1255), (ce_l60 y ob_moving f_1140)] ∧ va_S A s.heap H locs ∧ lv_has ls 7 [(6, .int v_1254), (0, .ref ob), (3, .int 2), (4, .int a4), (5, .int a5)]) ?_ (n := (60 - (0 : Int32).toInt).toNat) ⟨0, fob_numbers, rfl, (bw (0) (60) (bkc (x := 0) (c := 0) (by decide)) (by decide)), rfl, ⟨hP, hD⟩, hS, lv_sub hl [0, 1, 4, 5, 6] rfl⟩
                        rintro n ih_1262 H locs ls st ⟨v_1254, f_1255, hn_1262, bv_1254, rfl, ⟨hP, hD⟩, hS, hl⟩
                        refine lv_iload hx hb dX10_paste_150 (lv_at hl 0 rfl) ?_
                        refine lv_iload hx hb dX10_paste_152 (lv_at hl 4 rfl) ?_
                        refine lv_icmp_ge (tgt := 185) hx hb dX10_paste_154 (by decide) (fun c_1263 => ?_) (fun c_1263 => ?_)
                        · skip
                          have nc_1263 := nb_le (60) (0) c_1263 nc_1148.1 bv_1254 (by decide)
                          refine lv_iconst (v := 0) hx hb dX10_paste_185 (by decide) ?_
                          exact W.iret (v := 0) hx hb hr (fun t ht hW => ⟨⟨0, _, rfl, Or.inr (Or.inr (Or.inr (⟨f_1255, f_1140, h_1031, h_1032, nc_1263.1, by have h90 : Int32.toInt 0 = 0 := (by decide); have h91 : Int32.toInt 2 = 2 := (by decide); omega, rfl, rfl⟩))), by rw [ht]; exact hP, hD⟩, hS.F ht⟩) hS.2.2 dX10_paste_186
                        · skip
                          have nc_1263 := nb_nle (59) (1) c_1263 bv_1254 nc_1148.1 (by decide)
                          refine lv_aload_n hx hb dX10_paste_157 rfl (lv_at hl 1 rfl) ?_
                          refine va_get (D := G) (ci := 10) (v := .ref ob_numbers) (C := RX10) (T := TX10) (N := 41) hx hb hw0 inA_wsX100 hown hK.1 hP 0 rfl rfl 39 (by decide) (hw0 _ m_435) (fun _ h9 => h9) rfl dX10_paste_158 ?_
                          refine lv_bipush (v := 60) hx hb dX10_paste_161 (by decide) ?_
                          refine lv_iload_n hx hb dX10_paste_163 rfl (lv_at hl 2 rfl) ?_
                          refine lv_imul hx hb dX10_paste_164 ?_
                          refine lv_topi (fun v_1264 ev_1264 => ?_)
                          obtain rfl : 120 = v_1264 := (ev_1264.trans (by decide)).symm
                          refine lv_iload hx hb dX10_paste_165 (lv_at hl 3 rfl) ?_
                          refine lv_iadd hx hb dX10_paste_167 ?_
                          refine lv_topi (fun v_1265 ev_1265 => ?_)
                          have qv_1265 := ba_add ev_1265 (bkc (x := 120) (c := 120) (by decide)) h_1032 (by decide)
                          have bv_1265 : (120 : Int) ≤ v_1265.toInt ∧ v_1265.toInt ≤ 180 := bq_add qv_1265 (bkc (x := 120) (c := 120) (by decide)) h_1032 _ _ (by decide)
                          have qv_1265 : v_1265.toInt = (120) + a4.toInt := qv_1265
                          refine lv_iload hx hb dX10_paste_168 (lv_at hl 0 rfl) ?_
                          refine lv_iadd hx hb dX10_paste_170 ?_
                          refine lv_topi (fun v_1266 ev_1266 => ?_)
                          have qv_1266 := ba_add ev_1266 bv_1265 nc_1263.1 (by decide)
                          have bv_1266 : (120 : Int) ≤ v_1266.toInt ∧ v_1266.toInt ≤ 239 := bq_add qv_1266 bv_1265 nc_1263.1 _ _ (by decide)
                          refine lv_aload_n hx hb dX10_paste_171 rfl (lv_at hl 1 rfl) ?_
                          refine va_get (D := G) (ci := 10) (v := .ref ob_moving) (C := RX10) (T := TX10) (N := 41) hx hb hw0 inA_wsX100 hown hK.1 hP 0 rfl rfl 40 (by decide) (hw0 _ m_529) (fun _ h9 => h9) rfl dX10_paste_172 ?_
                          refine lv_iload hx hb dX10_paste_175 (lv_at hl 0 rfl) ?_
                          refine va_lald hx hb hK.1 hP 4 2 rfl rfl (vi nc_1263.1 (by decide)) dX10_paste_177 ?_
                          refine lv_topl (fun v_1267 ev_1267 => ?_)
                          refine va_last hx hb hK.1 hP hD hS 3 2 rfl rfl (vi bv_1266 (by decide)) dX10_paste_178 (fun H locs hP hD hS => ?_)
                          generalize hf_1268 : (vp_updL f_1255 (v_1266 : Int32).toNatClampNeg v_1267) = f_1268 at hP hD
                          obtain ⟨hP, hD⟩ : vPD G A H [(ce_X10 ob ob_thrown ob_world ob_images ob_hasImage ob_tape ob_taped ob_five ob_size ob_at ob_from ob_token ob_value ob_faultKind ob_faultPlace ob_fresh ob_parts ob_houses ob_houseMany ob_worthOf ob_byCall ob_over ob_bestSet ob_bestOver ob_bestWorth ob_row ob_tenDebts ob_tenMany ob_fewestBy ob_covered ob_queue ob_cameBy ob_parent ob_met ob_calls ob_callMany ob_calledOn ob_saved ob_many ob_width ob_numbers ob_moving), (ce_i4 y ob_many fob_many), (ce_i4 y ob_width fob_width), (ce_l240 y ob_numbers f_1268), (ce_l60 y ob_moving f_1140)] := ⟨hP, hD⟩
                          obtain ⟨v_1269, ev_1269⟩ : ∃ z : Int32, z = v_1254 + 1 := ⟨_, rfl⟩
                          have qv_1269 := ba_add ev_1269 nc_1263.1 (bkc (x := 1) (c := 1) (by decide)) (by decide)
                          have bv_1269 : (1 : Int) ≤ v_1269.toInt ∧ v_1269.toInt ≤ 60 := bq_add qv_1269 nc_1263.1 (bkc (x := 1) (c := 1) (by decide)) _ _ (by decide)
                          have qv_1269 : v_1269.toInt = v_1254.toInt + (1) := qv_1269
                          refine lv_iinc (v := v_1269) (lv' := [(6, .int v_1269), (0, .ref ob), (3, .int 2), (4, .int a4), (5, .int a5)]) hx hb dX10_paste_179 hl (k := 0) rfl (ev_1269.symm) (by decide) rfl (fun ls hl => ?_)
                          refine lv_goto (tgt := 150) hx hb dX10_paste_182 (by decide) ?_
                          exact ih_1262 _ (ml_inc (hi := 60) hn_1262 qv_1269 (by decide) ((bw (0) (60) bv_1269 (by decide))).2) _ _ _ _ ⟨v_1269, f_1268, rfl, (bw (0) (60) bv_1269 (by decide)), rfl, ⟨hP, hD⟩, hS, lv_sub hl [0, 1, 2, 3, 4] rfl⟩
                      · skip
                        have nc_1148 := nb_nle (59) (1) c_1148 bv_1139 h_1033 (by decide)
                        refine lv_aload_n hx hb dX10_paste_120 rfl (lv_at hl 1 rfl) ?_
                        refine va_get (D := G) (ci := 10) (v := .ref ob_moving) (C := RX10) (T := TX10) (N := 41) hx hb hw0 inA_wsX100 hown hK.1 hP 0 rfl rfl 40 (by decide) (hw0 _ m_529) (fun _ h9 => h9) rfl dX10_paste_121 ?_
                        refine lv_iload hx hb dX10_paste_124 (lv_at hl 0 rfl) ?_
                        refine lv_aload_n hx hb dX10_paste_126 rfl (lv_at hl 1 rfl) ?_
                        refine va_get (D := G) (ci := 10) (v := .ref ob_numbers) (C := RX10) (T := TX10) (N := 41) hx hb hw0 inA_wsX100 hown hK.1 hP 0 rfl rfl 39 (by decide) (hw0 _ m_435) (fun _ h9 => h9) rfl dX10_paste_127 ?_
                        refine lv_bipush (v := 60) hx hb dX10_paste_130 (by decide) ?_
                        refine lv_iload_n hx hb dX10_paste_132 rfl (lv_at hl 2 rfl) ?_
                        refine lv_imul hx hb dX10_paste_133 ?_
                        refine lv_topi (fun v_1270 ev_1270 => ?_)
                        obtain rfl : 60 = v_1270 := (ev_1270.trans (by decide)).symm
                        refine lv_iload_n hx hb dX10_paste_134 rfl (lv_at hl 3 rfl) ?_
                        refine lv_iadd hx hb dX10_paste_135 ?_
                        refine lv_topi (fun v_1271 ev_1271 => ?_)
                        have qv_1271 := ba_add ev_1271 (bkc (x := 60) (c := 60) (by decide)) h_1031 (by decide)
                        have bv_1271 : (60 : Int) ≤ v_1271.toInt ∧ v_1271.toInt ≤ 120 := bq_add qv_1271 (bkc (x := 60) (c := 60) (by decide)) h_1031 _ _ (by decide)
                        have qv_1271 : v_1271.toInt = (60) + a2.toInt := qv_1271
                        refine lv_iload hx hb dX10_paste_136 (lv_at hl 0 rfl) ?_
                        refine lv_iadd hx hb dX10_paste_138 ?_
                        refine lv_topi (fun v_1272 ev_1272 => ?_)
                        have qv_1272 := ba_add ev_1272 bv_1271 nc_1148.1 (by decide)
                        have bv_1272 : (60 : Int) ≤ v_1272.toInt ∧ v_1272.toInt ≤ 179 := bq_add qv_1272 bv_1271 nc_1148.1 _ _ (by decide)
                        refine va_lald hx hb hK.1 hP 3 2 rfl rfl (vi bv_1272 (by decide)) dX10_paste_139 ?_
                        refine lv_topl (fun v_1273 ev_1273 => ?_)
                        refine va_last hx hb hK.1 hP hD hS 4 2 rfl rfl (vi nc_1148.1 (by decide)) dX10_paste_140 (fun H locs hP hD hS => ?_)
                        generalize hf_1274 : (vp_updL f_1140 (v_1139 : Int32).toNatClampNeg v_1273) = f_1274 at hP hD
                        obtain ⟨hP, hD⟩ : vPD G A H [(ce_X10 ob ob_thrown ob_world ob_images ob_hasImage ob_tape ob_taped ob_five ob_size ob_at ob_from ob_token ob_value ob_faultKind ob_faultPlace ob_fresh ob_parts ob_houses ob_houseMany ob_worthOf ob_byCall ob_over ob_bestSet ob_bestOver ob_bestWorth ob_row ob_tenDebts ob_tenMany ob_fewestBy ob_covered ob_queue ob_cameBy ob_parent ob_met ob_calls ob_callMany ob_calledOn ob_saved ob_many ob_width ob_numbers ob_moving), (ce_i4 y ob_many fob_many), (ce_i4 y ob_width fob_width), (ce_l240 y ob_numbers fob_numbers), (ce_l60 y ob_moving f_1274)] := ⟨hP, hD⟩
                        obtain ⟨v_1275, ev_1275⟩ : ∃ z : Int32, z = v_1139 + 1 := ⟨_, rfl⟩
                        have qv_1275 := ba_add ev_1275 nc_1148.1 (bkc (x := 1) (c := 1) (by decide)) (by decide)
                        have bv_1275 : (1 : Int) ≤ v_1275.toInt ∧ v_1275.toInt ≤ 60 := bq_add qv_1275 nc_1148.1 (bkc (x := 1) (c := 1) (by decide)) _ _ (by decide)
                        have qv_1275 : v_1275.toInt = v_1139.toInt + (1) := qv_1275
                        refine lv_iinc (v := v_1275) (lv' := [(6, .int v_1275), (0, .ref ob), (1, .int 1), (2, .int a2), (3, .int 2), (4, .int a4), (5, .int a5)]) hx hb dX10_paste_141 hl (k := 0) rfl (ev_1275.symm) (by decide) rfl (fun ls hl => ?_)
                        refine lv_goto (tgt := 113) hx hb dX10_paste_144 (by decide) ?_
                        exact ih_1147 _ (ml_inc (hi := 60) hn_1147 qv_1275 (by decide) ((bw (0) (60) bv_1275 (by decide))).2) _ _ _ _ ⟨v_1275, f_1274, rfl, (bw (0) (60) bv_1275 (by decide)), rfl, ⟨hP, hD⟩, hS, lv_sub hl [0, 1, 2, 3, 4, 5, 6] rfl⟩
                    · skip
                      have nc_1030 := jl_nle c_1030
                      refine lv_bipush (v := (-7)) hx hb dX10_paste_107 (by decide) ?_
                      exact W.iret (v := (-7)) hx hb hr (fun t ht hW => ⟨⟨(-7), _, rfl, Or.inr (Or.inl (⟨by have h90 : Int32.toInt (-7) = -7 := (by decide); have h91 : Int32.toInt 1 = 1 := (by decide); have h92 : Int32.toInt 2 = 2 := (by decide); omega, rfl, rfl⟩)), by rw [ht]; exact hP, hD⟩, hS.F ht⟩) hS.2.2 dX10_paste_109
          · skip
            have nc_1015 : v_1013.toInt ≠ v_1014.toInt := fun h9 => c_1015 (Int32.toInt_inj.mp h9)
            refine lv_bipush (v := (-8)) hx hb dX10_paste_55 (by decide) ?_
            exact W.iret (v := (-8)) hx hb hr (fun t ht hW => ⟨⟨(-8), _, rfl, Or.inr (Or.inr (Or.inl (⟨by have h90 : Int32.toInt (-8) = -8 := (by decide); have h91 : Int32.toInt 1 = 1 := (by decide); have h92 : Int32.toInt 2 = 2 := (by decide); omega, rfl, rfl⟩))), by rw [ht]; exact hP, hD⟩, hS.F ht⟩) hS.2.2 dX10_paste_57
        · skip
          have nc_1012 := nb_eq (-1) (-1) c_1012 bv_1011 (bkc (x := (-1)) (c := -1) (by decide)) (by decide)
          refine lv_bipush (v := (-6)) hx hb dX10_paste_37 (by decide) ?_
          exact W.iret (v := (-6)) hx hb hr (fun t ht hW => ⟨⟨(-6), _, rfl, Or.inl (⟨by have h90 : Int32.toInt (-6) = -6 := (by decide); have h91 : Int32.toInt 1 = 1 := (by decide); have h92 : Int32.toInt 2 = 2 := (by decide); omega, rfl, rfl⟩), by rw [ht]; exact hP, hD⟩, hS.F ht⟩) hS.2.2 dX10_paste_39

set_option maxHeartbeats 4000000 in
set_option maxRecDepth 100000 in
theorem fpasteM13 (l : Launch) (G : va_G) (y : Nat → ClassId) (sz : Nat) (ob : Nat) (a2 : Int32) (a4 : Int32) (a5 : Int32) (ob_thrown : Int32) (ob_world : Nat) (ob_images : Nat) (ob_hasImage : Nat) (ob_tape : Nat) (ob_taped : Int32) (ob_five : Nat) (ob_size : Int32) (ob_at : Int32) (ob_from : Int32) (ob_token : Int32) (ob_value : Int32) (ob_faultKind : Int32) (ob_faultPlace : Int32) (ob_fresh : Nat) (ob_parts : Nat) (ob_houses : Nat) (ob_houseMany : Int32) (ob_worthOf : Nat) (ob_byCall : Nat) (ob_over : Nat) (ob_bestSet : Int32) (ob_bestOver : Int32) (ob_bestWorth : Int32) (ob_row : Nat) (ob_tenDebts : Nat) (ob_tenMany : Int32) (ob_fewestBy : Nat) (ob_covered : Nat) (ob_queue : Nat) (ob_cameBy : Nat) (ob_parent : Nat) (ob_met : Nat) (ob_calls : Nat) (ob_callMany : Int32) (ob_calledOn : Nat) (ob_saved : Nat) (ob_many : Nat) (ob_width : Nat) (ob_numbers : Nat) (ob_moving : Nat) (fob_many : Nat → Int32) (fob_width : Nat → Int32) (fob_numbers : Nat → Int64) (fob_moving : Nat → Int64) (p_ob_taped : (0 : Int) ≤ ob_taped.toInt ∧ ob_taped.toInt ≤ 1400) (p_ob_size : (0 : Int) ≤ ob_size.toInt ∧ ob_size.toInt ≤ 1400) (p_ob_at : (0 : Int) ≤ ob_at.toInt ∧ ob_at.toInt ≤ 1400) (p_ob_from : (0 : Int) ≤ ob_from.toInt ∧ ob_from.toInt ≤ 1400) (p_ob_token : (0 : Int) ≤ ob_token.toInt ∧ ob_token.toInt ≤ 4) (p_ob_value : (0 : Int) ≤ ob_value.toInt ∧ ob_value.toInt ≤ 9999) (p_ob_faultKind : (0 : Int) ≤ ob_faultKind.toInt ∧ ob_faultKind.toInt ≤ 3) (p_ob_houseMany : (0 : Int) ≤ ob_houseMany.toInt ∧ ob_houseMany.toInt ≤ 10) (p_ob_bestSet : (0 : Int) ≤ ob_bestSet.toInt ∧ ob_bestSet.toInt ≤ 1023) (p_ob_bestOver : (-1 : Int) ≤ ob_bestOver.toInt ∧ ob_bestOver.toInt ≤ 180) (p_ob_tenMany : (0 : Int) ≤ ob_tenMany.toInt ∧ ob_tenMany.toInt ≤ 10) (p_ob_callMany : (0 : Int) ≤ ob_callMany.toInt ∧ ob_callMany.toInt ≤ 16) (p_fob_many : ∀ i, (-1 : Int) ≤ (fob_many i).toInt ∧ (fob_many i).toInt ≤ 60) (p_fob_width : ∀ i, (0 : Int) ≤ (fob_width i).toInt ∧ (fob_width i).toInt ≤ 3) : Met l yX10_paste (Cond.code yX10_paste cX10_paste 7 (some .int) :: wAll) ({ frames := 2, cells := 0, slots := 0, locals := 45 }) (va_Pc [.ref ob, .int 1, .int a2, .int 3, .int a4, .int a5] (kp G y sz [(ce_X10 ob ob_thrown ob_world ob_images ob_hasImage ob_tape ob_taped ob_five ob_size ob_at ob_from ob_token ob_value ob_faultKind ob_faultPlace ob_fresh ob_parts ob_houses ob_houseMany ob_worthOf ob_byCall ob_over ob_bestSet ob_bestOver ob_bestWorth ob_row ob_tenDebts ob_tenMany ob_fewestBy ob_covered ob_queue ob_cameBy ob_parent ob_met ob_calls ob_callMany ob_calledOn ob_saved ob_many ob_width ob_numbers ob_moving), (ce_i4 y ob_many fob_many), (ce_i4 y ob_width fob_width), (ce_l240 y ob_numbers fob_numbers), (ce_l60 y ob_moving fob_moving)])) (va_Qi (fun (r : Int32) (w : va_W) => (((fob_many 1).toInt = -1 ∨ (fob_many 3).toInt = -1) ∧ r = (-6) ∧ w = [(ce_X10 ob ob_thrown ob_world ob_images ob_hasImage ob_tape ob_taped ob_five ob_size ob_at ob_from ob_token ob_value ob_faultKind ob_faultPlace ob_fresh ob_parts ob_houses ob_houseMany ob_worthOf ob_byCall ob_over ob_bestSet ob_bestOver ob_bestWorth ob_row ob_tenDebts ob_tenMany ob_fewestBy ob_covered ob_queue ob_cameBy ob_parent ob_met ob_calls ob_callMany ob_calledOn ob_saved ob_many ob_width ob_numbers ob_moving), (ce_i4 y ob_many fob_many), (ce_i4 y ob_width fob_width), (ce_l240 y ob_numbers fob_numbers), (ce_l60 y ob_moving fob_moving)]) ∨ ((¬ (fob_many 1).toInt = -1 ∧ ¬ (fob_many 3).toInt = -1 ∧ (fob_width 1).toInt = (fob_width 3).toInt ∧ ¬ (0 ≤ a2.toInt ∧ 0 ≤ a4.toInt ∧ 0 ≤ a5.toInt ∧ a2.toInt + a5.toInt ≤ (fob_many 1).toInt ∧ a4.toInt + a5.toInt ≤ (fob_many 3).toInt)) ∧ r = (-7) ∧ w = [(ce_X10 ob ob_thrown ob_world ob_images ob_hasImage ob_tape ob_taped ob_five ob_size ob_at ob_from ob_token ob_value ob_faultKind ob_faultPlace ob_fresh ob_parts ob_houses ob_houseMany ob_worthOf ob_byCall ob_over ob_bestSet ob_bestOver ob_bestWorth ob_row ob_tenDebts ob_tenMany ob_fewestBy ob_covered ob_queue ob_cameBy ob_parent ob_met ob_calls ob_callMany ob_calledOn ob_saved ob_many ob_width ob_numbers ob_moving), (ce_i4 y ob_many fob_many), (ce_i4 y ob_width fob_width), (ce_l240 y ob_numbers fob_numbers), (ce_l60 y ob_moving fob_moving)]) ∨ ((¬ (fob_many 1).toInt = -1 ∧ ¬ (fob_many 3).toInt = -1 ∧ ¬ (fob_width 1).toInt = (fob_width 3).toInt) ∧ r = (-8) ∧ w = [(ce_X10 ob ob_thrown ob_world ob_images ob_hasImage ob_tape ob_taped ob_five ob_size ob_at ob_from ob_token ob_value ob_faultKind ob_faultPlace ob_fresh ob_parts ob_houses ob_houseMany ob_worthOf ob_byCall ob_over ob_bestSet ob_bestOver ob_bestWorth ob_row ob_tenDebts ob_tenMany ob_fewestBy ob_covered ob_queue ob_cameBy ob_parent ob_met ob_calls ob_callMany ob_calledOn ob_saved ob_many ob_width ob_numbers ob_moving), (ce_i4 y ob_many fob_many), (ce_i4 y ob_width fob_width), (ce_l240 y ob_numbers fob_numbers), (ce_l60 y ob_moving fob_moving)]) ∨ (∃ (f_579 : Nat → Int64) (f_580 : Nat → Int64), ((0 : Int) ≤ a2.toInt ∧ a2.toInt ≤ 60) ∧ ((0 : Int) ≤ a4.toInt ∧ a4.toInt ≤ 60) ∧ ((0 : Int) ≤ a5.toInt ∧ a5.toInt ≤ 60) ∧ (¬ (fob_many 1).toInt = -1 ∧ ¬ (fob_many 3).toInt = -1 ∧ (fob_width 1).toInt = (fob_width 3).toInt ∧ 0 ≤ a2.toInt ∧ 0 ≤ a4.toInt ∧ 0 ≤ a5.toInt ∧ a2.toInt + a5.toInt ≤ (fob_many 1).toInt ∧ a4.toInt + a5.toInt ≤ (fob_many 3).toInt) ∧ r = 0 ∧ w = [(ce_X10 ob ob_thrown ob_world ob_images ob_hasImage ob_tape ob_taped ob_five ob_size ob_at ob_from ob_token ob_value ob_faultKind ob_faultPlace ob_fresh ob_parts ob_houses ob_houseMany ob_worthOf ob_byCall ob_over ob_bestSet ob_bestOver ob_bestWorth ob_row ob_tenDebts ob_tenMany ob_fewestBy ob_covered ob_queue ob_cameBy ob_parent ob_met ob_calls ob_callMany ob_calledOn ob_saved ob_many ob_width ob_numbers ob_moving), (ce_i4 y ob_many fob_many), (ce_i4 y ob_width fob_width), (ce_l240 y ob_numbers f_579), (ce_l60 y ob_moving f_580)])) (kq G (va_A [(ce_X10 ob ob_thrown ob_world ob_images ob_hasImage ob_tape ob_taped ob_five ob_size ob_at ob_from ob_token ob_value ob_faultKind ob_faultPlace ob_fresh ob_parts ob_houses ob_houseMany ob_worthOf ob_byCall ob_over ob_bestSet ob_bestOver ob_bestWorth ob_row ob_tenDebts ob_tenMany ob_fewestBy ob_covered ob_queue ob_cameBy ob_parent ob_met ob_calls ob_callMany ob_calledOn ob_saved ob_many ob_width ob_numbers ob_moving), (ce_i4 y ob_many fob_many), (ce_i4 y ob_width fob_width), (ce_l240 y ob_numbers fob_numbers), (ce_l60 y ob_moving fob_moving)] sz)) (va_A [(ce_X10 ob ob_thrown ob_world ob_images ob_hasImage ob_tape ob_taped ob_five ob_size ob_at ob_from ob_token ob_value ob_faultKind ob_faultPlace ob_fresh ob_parts ob_houses ob_houseMany ob_worthOf ob_byCall ob_over ob_bestSet ob_bestOver ob_bestWorth ob_row ob_tenDebts ob_tenMany ob_fewestBy ob_covered ob_queue ob_cameBy ob_parent ob_met ob_calls ob_callMany ob_calledOn ob_saved ob_many ob_width ob_numbers ob_moving), (ce_i4 y ob_many fob_many), (ce_i4 y ob_width fob_width), (ce_l240 y ob_numbers fob_numbers), (ce_l60 y ob_moving fob_moving)] sz)) 0 0 (va_A [(ce_X10 ob ob_thrown ob_world ob_images ob_hasImage ob_tape ob_taped ob_five ob_size ob_at ob_from ob_token ob_value ob_faultKind ob_faultPlace ob_fresh ob_parts ob_houses ob_houseMany ob_worthOf ob_byCall ob_over ob_bestSet ob_bestOver ob_bestWorth ob_row ob_tenDebts ob_tenMany ob_fewestBy ob_covered ob_queue ob_cameBy ob_parent ob_met ob_calls ob_callMany ob_calledOn ob_saved ob_many ob_width ob_numbers ob_moving), (ce_i4 y ob_many fob_many), (ce_i4 y ob_width fob_width), (ce_l240 y ob_numbers fob_numbers), (ce_l60 y ob_moving fob_moving)] sz) := by
  refine Met.ofW (cc := cX10_paste) (maxL := 7) (ret := (some .int)) (by decide) rfl ?_
  intro p e s m args below meth c s₁ B hml hv
  obtain ⟨rfl, hsz, hP, hK, hD0⟩ := hv
  have hx := B.exec
  have hb := B.bytes
  have hr := B.returns
  have hw0 : ∀ w ∈ wAll, w.before _ s = true := fun w h => atoms_spec (ws := Cond.code yX10_paste cX10_paste 7 (some .int) :: wAll) B.pre w (List.mem_cons_of_mem _ h)
  have hown : s.vm.findClass RX10 = some m.cls := findClass_of_methodNamed B.named
  subst hsz
  have hD := hD0.self (sz := s.heap.size)
  generalize hAe : va_A [(ce_X10 ob ob_thrown ob_world ob_images ob_hasImage ob_tape ob_taped ob_five ob_size ob_at ob_from ob_token ob_value ob_faultKind ob_faultPlace ob_fresh ob_parts ob_houses ob_houseMany ob_worthOf ob_byCall ob_over ob_bestSet ob_bestOver ob_bestWorth ob_row ob_tenDebts ob_tenMany ob_fewestBy ob_covered ob_queue ob_cameBy ob_parent ob_met ob_calls ob_callMany ob_calledOn ob_saved ob_many ob_width ob_numbers ob_moving), (ce_i4 y ob_many fob_many), (ce_i4 y ob_width fob_width), (ce_l240 y ob_numbers fob_numbers), (ce_l60 y ob_moving fob_moving)] s.heap.size = A at hD ⊢
  have hA : ∀ q : Nat, s.heap.size ≤ q → A q := fun q h => by rw [← hAe]; exact Or.inr h
  have hS : va_S A s.heap s.heap [] := va_S.rf
  have hP : va_P G vwCl [(ce_X10 ob ob_thrown ob_world ob_images ob_hasImage ob_tape ob_taped ob_five ob_size ob_at ob_from ob_token ob_value ob_faultKind ob_faultPlace ob_fresh ob_parts ob_houses ob_houseMany ob_worthOf ob_byCall ob_over ob_bestSet ob_bestOver ob_bestWorth ob_row ob_tenDebts ob_tenMany ob_fewestBy ob_covered ob_queue ob_cameBy ob_parent ob_met ob_calls ob_callMany ob_calledOn ob_saved ob_many ob_width ob_numbers ob_moving), (ce_i4 y ob_many fob_many), (ce_i4 y ob_width fob_width), (ce_l240 y ob_numbers fob_numbers), (ce_l60 y ob_moving fob_moving)] s.heap := hP
  have hl := lv_entry ([.ref ob, .int 1, .int a2, .int 3, .int a4, .int a5]) (n := 7) (Nat.le_of_ble_eq_true rfl)
  rw [lg_entry_eq]
  generalize (lg_sl ([.ref ob, .int 1, .int a2, .int 3, .int a4, .int a5]) ++ List.replicate (7 - (lg_sl ([.ref ob, .int 1, .int a2, .int 3, .int a4, .int a5])).length) Slot.unset).toArray = ls at hl ⊢
  have hl : lv_has ls 7 [(0, .ref ob), (1, .int 1), (2, .int a2), (3, .int 3), (4, .int a4), (5, .int a5)] := hl
  refine lv_iload_n hx hb dX10_paste_0 rfl (lv_at hl 1 rfl) ?_
  refine cSim (As := [.int 1]) (rest := []) ⟨hx, hb, hml, hown, hw0⟩ hA hK hP hD hS [] (fisSlotM l G y _ 1 ) rfl ⟨(callB_of 1 hw0 (gA m_543) rfl rfl rfl (hw0 _ m_41) (hw0 _ m_433) cb_X10_isSlot ⟨Nat.le_of_ble_eq_true rfl, Nat.le_of_ble_eq_true rfl⟩), (hw0 _ m_434)⟩ rfl hl.1 (Nat.le_of_ble_eq_true rfl) dX10_paste_1 ⟨Nat.le_of_ble_eq_true rfl, Nat.le_of_ble_eq_true rfl⟩ (fun r_1001 w_1001 H locs hw_1001 hP hD hS => ?_)
  rcases hw_1001 with ⟨h_1002, rfl, rfl⟩ | ⟨h_1003, h_1004, rfl, rfl⟩
  · skip
    exact False.elim (by have h9 : Int32.toInt 1 = 1 := (by decide); omega)
  · skip
    obtain ⟨hP, hD⟩ : vPD G A H [(ce_X10 ob ob_thrown ob_world ob_images ob_hasImage ob_tape ob_taped ob_five ob_size ob_at ob_from ob_token ob_value ob_faultKind ob_faultPlace ob_fresh ob_parts ob_houses ob_houseMany ob_worthOf ob_byCall ob_over ob_bestSet ob_bestOver ob_bestWorth ob_row ob_tenDebts ob_tenMany ob_fewestBy ob_covered ob_queue ob_cameBy ob_parent ob_met ob_calls ob_callMany ob_calledOn ob_saved ob_many ob_width ob_numbers ob_moving), (ce_i4 y ob_many fob_many), (ce_i4 y ob_width fob_width), (ce_l240 y ob_numbers fob_numbers), (ce_l60 y ob_moving fob_moving)] := ⟨hP, hD⟩
    refine lv_if_eq (tgt := 14) hx hb dX10_paste_4 (by decide) (fun c9 => absurd c9 (by decide)) (fun _ => ?_)
    refine lv_iload_n hx hb dX10_paste_7 rfl (lv_at hl 3 rfl) ?_
    refine cSim (As := [.int 3]) (rest := []) ⟨hx, hb, hml, hown, hw0⟩ hA hK hP hD hS [] (fisSlotM l G y _ 3 ) rfl ⟨(callB_of 1 hw0 (gA m_543) rfl rfl rfl (hw0 _ m_41) (hw0 _ m_433) cb_X10_isSlot ⟨Nat.le_of_ble_eq_true rfl, Nat.le_of_ble_eq_true rfl⟩), (hw0 _ m_434)⟩ rfl hl.1 (Nat.le_of_ble_eq_true rfl) dX10_paste_8 ⟨Nat.le_of_ble_eq_true rfl, Nat.le_of_ble_eq_true rfl⟩ (fun r_1005 w_1005 H locs hw_1005 hP hD hS => ?_)
    rcases hw_1005 with ⟨h_1006, rfl, rfl⟩ | ⟨h_1007, h_1008, rfl, rfl⟩
    · skip
      exact False.elim (by have h9 : Int32.toInt 3 = 3 := (by decide); omega)
    · skip
      obtain ⟨hP, hD⟩ : vPD G A H [(ce_X10 ob ob_thrown ob_world ob_images ob_hasImage ob_tape ob_taped ob_five ob_size ob_at ob_from ob_token ob_value ob_faultKind ob_faultPlace ob_fresh ob_parts ob_houses ob_houseMany ob_worthOf ob_byCall ob_over ob_bestSet ob_bestOver ob_bestWorth ob_row ob_tenDebts ob_tenMany ob_fewestBy ob_covered ob_queue ob_cameBy ob_parent ob_met ob_calls ob_callMany ob_calledOn ob_saved ob_many ob_width ob_numbers ob_moving), (ce_i4 y ob_many fob_many), (ce_i4 y ob_width fob_width), (ce_l240 y ob_numbers fob_numbers), (ce_l60 y ob_moving fob_moving)] := ⟨hP, hD⟩
      refine lv_if_ne (tgt := 17) hx hb dX10_paste_11 (by decide) (fun _ => ?_) (fun c9 => absurd c9 (by decide))
      refine lv_aload_n hx hb dX10_paste_17 rfl (lv_at hl 0 rfl) ?_
      refine va_get (D := G) (ci := 10) (v := .ref ob_many) (C := RX10) (T := TX10) (N := 41) hx hb hw0 inA_wsX100 hown hK.1 hP 0 rfl rfl 37 (by decide) (hw0 _ m_406) (fun _ h9 => h9) rfl dX10_paste_18 ?_
      refine lv_iload_n hx hb dX10_paste_21 rfl (lv_at hl 1 rfl) ?_
      refine va_iald hx hb hK.1 hP 1 1 rfl rfl (vi (bkc (x := 1) (c := 1) (by decide)) (by decide)) dX10_paste_22 ?_
      refine lv_topi (fun v_1009 ev_1009 => ?_)
      have bv_1009 : (-1 : Int) ≤ v_1009.toInt ∧ v_1009.toInt ≤ 60 := rd_b ev_1009 p_fob_many
      have yv_1009 : v_1009.toInt = (fob_many 1).toInt := congrArg Int32.toInt ev_1009
      refine lv_iconst (v := (-1)) hx hb dX10_paste_23 (by decide) ?_
      refine lv_icmp_eq (tgt := 37) hx hb dX10_paste_24 (by decide) (fun c_1010 => ?_) (fun c_1010 => ?_)
      · skip
        have nc_1010 := nb_eq (-1) (-1) c_1010 bv_1009 (bkc (x := (-1)) (c := -1) (by decide)) (by decide)
        refine lv_bipush (v := (-6)) hx hb dX10_paste_37 (by decide) ?_
        exact W.iret (v := (-6)) hx hb hr (fun t ht hW => ⟨⟨(-6), _, rfl, Or.inl (⟨by have h90 : Int32.toInt (-6) = -6 := (by decide); have h91 : Int32.toInt 1 = 1 := (by decide); have h92 : Int32.toInt 3 = 3 := (by decide); omega, rfl, rfl⟩), by rw [ht]; exact hP, hD⟩, hS.F ht⟩) hS.2.2 dX10_paste_39
      · skip
        have nc_1010 := nb_ne (0) (60) c_1010 bv_1009 (k := -1) (by decide) (by decide)
        refine lv_aload_n hx hb dX10_paste_27 rfl (lv_at hl 0 rfl) ?_
        refine va_get (D := G) (ci := 10) (v := .ref ob_many) (C := RX10) (T := TX10) (N := 41) hx hb hw0 inA_wsX100 hown hK.1 hP 0 rfl rfl 37 (by decide) (hw0 _ m_406) (fun _ h9 => h9) rfl dX10_paste_28 ?_
        refine lv_iload_n hx hb dX10_paste_31 rfl (lv_at hl 3 rfl) ?_
        refine va_iald hx hb hK.1 hP 1 1 rfl rfl (vi (bkc (x := 3) (c := 3) (by decide)) (by decide)) dX10_paste_32 ?_
        refine lv_topi (fun v_1011 ev_1011 => ?_)
        have bv_1011 : (-1 : Int) ≤ v_1011.toInt ∧ v_1011.toInt ≤ 60 := rd_b ev_1011 p_fob_many
        have yv_1011 : v_1011.toInt = (fob_many 3).toInt := congrArg Int32.toInt ev_1011
        refine lv_iconst (v := (-1)) hx hb dX10_paste_33 (by decide) ?_
        refine lv_icmp_ne (tgt := 40) hx hb dX10_paste_34 (by decide) (fun c_1012 => ?_) (fun c_1012 => ?_)
        · skip
          have nc_1012 := nb_ne (0) (60) c_1012 bv_1011 (k := -1) (by decide) (by decide)
          refine lv_aload_n hx hb dX10_paste_40 rfl (lv_at hl 0 rfl) ?_
          refine va_get (D := G) (ci := 10) (v := .ref ob_width) (C := RX10) (T := TX10) (N := 41) hx hb hw0 inA_wsX100 hown hK.1 hP 0 rfl rfl 38 (by decide) (hw0 _ m_527) (fun _ h9 => h9) rfl dX10_paste_41 ?_
          refine lv_iload_n hx hb dX10_paste_44 rfl (lv_at hl 1 rfl) ?_
          refine va_iald hx hb hK.1 hP 2 1 rfl rfl (vi (bkc (x := 1) (c := 1) (by decide)) (by decide)) dX10_paste_45 ?_
          refine lv_topi (fun v_1013 ev_1013 => ?_)
          have bv_1013 : (0 : Int) ≤ v_1013.toInt ∧ v_1013.toInt ≤ 3 := rd_b ev_1013 p_fob_width
          have yv_1013 : v_1013.toInt = (fob_width 1).toInt := congrArg Int32.toInt ev_1013
          refine lv_aload_n hx hb dX10_paste_46 rfl (lv_at hl 0 rfl) ?_
          refine va_get (D := G) (ci := 10) (v := .ref ob_width) (C := RX10) (T := TX10) (N := 41) hx hb hw0 inA_wsX100 hown hK.1 hP 0 rfl rfl 38 (by decide) (hw0 _ m_527) (fun _ h9 => h9) rfl dX10_paste_47 ?_
          refine lv_iload_n hx hb dX10_paste_50 rfl (lv_at hl 3 rfl) ?_
          refine va_iald hx hb hK.1 hP 2 1 rfl rfl (vi (bkc (x := 3) (c := 3) (by decide)) (by decide)) dX10_paste_51 ?_
          refine lv_topi (fun v_1014 ev_1014 => ?_)
          have bv_1014 : (0 : Int) ≤ v_1014.toInt ∧ v_1014.toInt ≤ 3 := rd_b ev_1014 p_fob_width
          have yv_1014 : v_1014.toInt = (fob_width 3).toInt := congrArg Int32.toInt ev_1014
          refine lv_icmp_eq (tgt := 58) hx hb dX10_paste_52 (by decide) (fun c_1015 => ?_) (fun c_1015 => ?_)
          · skip
            have nc_1015 := nb_eq (0) (3) c_1015 bv_1013 bv_1014 (by decide)
            refine lv_iload_n hx hb dX10_paste_58 rfl (lv_at hl 2 rfl) ?_
            refine lv_if_lt (tgt := 107) hx hb dX10_paste_59 (by decide) (fun c_1016 => ?_) (fun c_1016 => ?_)
            · skip
              have nc_1016 := nb_lt (-1) (0) c_1016 (btop a2) (bkc (x := 0) (c := 0) (by decide)) (by decide)
              refine lv_bipush (v := (-7)) hx hb dX10_paste_107 (by decide) ?_
              exact W.iret (v := (-7)) hx hb hr (fun t ht hW => ⟨⟨(-7), _, rfl, Or.inr (Or.inl (⟨by have h90 : Int32.toInt (-7) = -7 := (by decide); have h91 : Int32.toInt 1 = 1 := (by decide); have h92 : Int32.toInt 3 = 3 := (by decide); omega, rfl, rfl⟩)), by rw [ht]; exact hP, hD⟩, hS.F ht⟩) hS.2.2 dX10_paste_109
            · skip
              have nc_1016 := nb_nlt (0) (0) c_1016 (bkc (x := 0) (c := 0) (by decide)) (btop a2) (by decide)
              refine lv_iload hx hb dX10_paste_62 (lv_at hl 4 rfl) ?_
              refine lv_if_lt (tgt := 107) hx hb dX10_paste_64 (by decide) (fun c_1017 => ?_) (fun c_1017 => ?_)
              · skip
                have nc_1017 := nb_lt (-1) (0) c_1017 (btop a4) (bkc (x := 0) (c := 0) (by decide)) (by decide)
                refine lv_bipush (v := (-7)) hx hb dX10_paste_107 (by decide) ?_
                exact W.iret (v := (-7)) hx hb hr (fun t ht hW => ⟨⟨(-7), _, rfl, Or.inr (Or.inl (⟨by have h90 : Int32.toInt (-7) = -7 := (by decide); have h91 : Int32.toInt 1 = 1 := (by decide); have h92 : Int32.toInt 3 = 3 := (by decide); omega, rfl, rfl⟩)), by rw [ht]; exact hP, hD⟩, hS.F ht⟩) hS.2.2 dX10_paste_109
              · skip
                have nc_1017 := nb_nlt (0) (0) c_1017 (bkc (x := 0) (c := 0) (by decide)) (btop a4) (by decide)
                refine lv_iload hx hb dX10_paste_67 (lv_at hl 5 rfl) ?_
                refine lv_if_lt (tgt := 107) hx hb dX10_paste_69 (by decide) (fun c_1018 => ?_) (fun c_1018 => ?_)
                · skip
                  have nc_1018 := nb_lt (-1) (0) c_1018 (btop a5) (bkc (x := 0) (c := 0) (by decide)) (by decide)
                  refine lv_bipush (v := (-7)) hx hb dX10_paste_107 (by decide) ?_
                  exact W.iret (v := (-7)) hx hb hr (fun t ht hW => ⟨⟨(-7), _, rfl, Or.inr (Or.inl (⟨by have h90 : Int32.toInt (-7) = -7 := (by decide); have h91 : Int32.toInt 1 = 1 := (by decide); have h92 : Int32.toInt 3 = 3 := (by decide); omega, rfl, rfl⟩)), by rw [ht]; exact hP, hD⟩, hS.F ht⟩) hS.2.2 dX10_paste_109
                · skip
                  have nc_1018 := nb_nlt (0) (0) c_1018 (bkc (x := 0) (c := 0) (by decide)) (btop a5) (by decide)
                  refine lv_iload_n hx hb dX10_paste_72 rfl (lv_at hl 2 rfl) ?_
                  refine lv_i2l hx hb dX10_paste_73 rfl ?_
                  have kk_1019 : ((a2).toInt64).toInt = (a2).toInt := Int32.toInt_toInt64 _
                  refine lv_iload hx hb dX10_paste_74 (lv_at hl 5 rfl) ?_
                  refine lv_i2l hx hb dX10_paste_76 rfl ?_
                  have kk_1020 : ((a5).toInt64).toInt = (a5).toInt := Int32.toInt_toInt64 _
                  refine lv_ladd hx hb dX10_paste_77 ?_
                  refine lv_topl (fun v_1021 ev_1021 => ?_)
                  have qv_1021 := la_add ev_1021
                  refine lv_aload_n hx hb dX10_paste_78 rfl (lv_at hl 0 rfl) ?_
                  refine va_get (D := G) (ci := 10) (v := .ref ob_many) (C := RX10) (T := TX10) (N := 41) hx hb hw0 inA_wsX100 hown hK.1 hP 0 rfl rfl 37 (by decide) (hw0 _ m_406) (fun _ h9 => h9) rfl dX10_paste_79 ?_
                  refine lv_iload_n hx hb dX10_paste_82 rfl (lv_at hl 1 rfl) ?_
                  refine va_iald hx hb hK.1 hP 1 1 rfl rfl (vi (bkc (x := 1) (c := 1) (by decide)) (by decide)) dX10_paste_83 ?_
                  refine lv_topi (fun v_1022 ev_1022 => ?_)
                  obtain rfl : v_1009 = v_1022 := (ev_1022.trans (ev_1009.symm)).symm
                  refine lv_i2l hx hb dX10_paste_84 rfl ?_
                  have kk_1023 : ((v_1009).toInt64).toInt = (v_1009).toInt := Int32.toInt_toInt64 _
                  refine W.lcmp hx hb dX10_paste_85 ?_
                  refine lv_if_gt (tgt := 107) hx hb dX10_paste_86 (by decide) (fun c_1024 => ?_) (fun c_1024 => ?_)
                  · skip
                    have nc_1024 := jl_gt c_1024
                    refine lv_bipush (v := (-7)) hx hb dX10_paste_107 (by decide) ?_
                    exact W.iret (v := (-7)) hx hb hr (fun t ht hW => ⟨⟨(-7), _, rfl, Or.inr (Or.inl (⟨by have h90 : Int32.toInt (-7) = -7 := (by decide); have h91 : Int32.toInt 1 = 1 := (by decide); have h92 : Int32.toInt 3 = 3 := (by decide); omega, rfl, rfl⟩)), by rw [ht]; exact hP, hD⟩, hS.F ht⟩) hS.2.2 dX10_paste_109
                  · skip
                    have nc_1024 := jl_ngt c_1024
                    refine lv_iload hx hb dX10_paste_89 (lv_at hl 4 rfl) ?_
                    refine lv_i2l hx hb dX10_paste_91 rfl ?_
                    have kk_1025 : ((a4).toInt64).toInt = (a4).toInt := Int32.toInt_toInt64 _
                    refine lv_iload hx hb dX10_paste_92 (lv_at hl 5 rfl) ?_
                    refine lv_i2l hx hb dX10_paste_94 rfl ?_
                    have kk_1026 : ((a5).toInt64).toInt = (a5).toInt := Int32.toInt_toInt64 _
                    refine lv_ladd hx hb dX10_paste_95 ?_
                    refine lv_topl (fun v_1027 ev_1027 => ?_)
                    have qv_1027 := la_add ev_1027
                    refine lv_aload_n hx hb dX10_paste_96 rfl (lv_at hl 0 rfl) ?_
                    refine va_get (D := G) (ci := 10) (v := .ref ob_many) (C := RX10) (T := TX10) (N := 41) hx hb hw0 inA_wsX100 hown hK.1 hP 0 rfl rfl 37 (by decide) (hw0 _ m_406) (fun _ h9 => h9) rfl dX10_paste_97 ?_
                    refine lv_iload_n hx hb dX10_paste_100 rfl (lv_at hl 3 rfl) ?_
                    refine va_iald hx hb hK.1 hP 1 1 rfl rfl (vi (bkc (x := 3) (c := 3) (by decide)) (by decide)) dX10_paste_101 ?_
                    refine lv_topi (fun v_1028 ev_1028 => ?_)
                    obtain rfl : v_1011 = v_1028 := (ev_1028.trans (ev_1011.symm)).symm
                    refine lv_i2l hx hb dX10_paste_102 rfl ?_
                    have kk_1029 : ((v_1011).toInt64).toInt = (v_1011).toInt := Int32.toInt_toInt64 _
                    refine W.lcmp hx hb dX10_paste_103 ?_
                    refine lv_if_le (tgt := 110) hx hb dX10_paste_104 (by decide) (fun c_1030 => ?_) (fun c_1030 => ?_)
                    · skip
                      have nc_1030 := jl_le c_1030
                      have h_1031 : (0 : Int) ≤ a2.toInt ∧ a2.toInt ≤ 60 := by omega
                      have h_1032 : (0 : Int) ≤ a4.toInt ∧ a4.toInt ≤ 60 := by omega
                      have h_1033 : (0 : Int) ≤ a5.toInt ∧ a5.toInt ≤ 60 := by omega
                      refine lv_iconst (v := 0) hx hb dX10_paste_110 (by decide) ?_
                      refine lv_istore (lv' := [(6, .int 0), (0, .ref ob), (1, .int 1), (2, .int a2), (3, .int 3), (4, .int a4), (5, .int a5)]) hx hb dX10_paste_111 hl (by decide) rfl (fun ls hl => ?_)
                      refine loopX (fun n H locs ls st => ∃ (v_1139 : Int32) (f_1140 : Nat → Int64), (60 - v_1139.toInt).toNat = n ∧ ((0 : Int) ≤ v_1139.toInt ∧ v_1139.toInt ≤ 60) ∧ st = [] ∧ vPD G A H [(ce_X10 ob ob_thrown ob_world ob_images ob_hasImage ob_tape ob_taped ob_five ob_size ob_at ob_from ob_token ob_value ob_faultKind ob_faultPlace ob_fresh ob_parts ob_houses ob_houseMany ob_worthOf ob_byCall ob_over ob_bestSet ob_bestOver ob_bestWorth ob_row ob_tenDebts ob_tenMany ob_fewestBy ob_covered ob_queue ob_cameBy ob_parent ob_met ob_calls ob_callMany ob_calledOn ob_saved ob_many ob_width ob_numbers ob_moving), (ce_i4 y ob_many fob_many), (ce_i4 y ob_width fob_width), (ce_l240 y ob_numbers fob_numbers), (ce_l60 y ob_moving f_1140)] ∧ va_S A s.heap H locs ∧ lv_has ls 7 [(6, .int v_1139), (0, .ref ob), (1, .int 1), (2, .int a2), (3, .int 3), (4, .int a4), (5, .int a5)]) ?_ (n := (60 - (0 : Int32).toInt).toNat) ⟨0, fob_moving, rfl, (bw (0) (60) (bkc (x := 0) (c := 0) (by decide)) (by decide)), rfl, ⟨hP, hD⟩, hS, lv_sub hl [0, 1, 2, 3, 4, 5, 6] rfl⟩
                      rintro n ih_1147 H locs ls st ⟨v_1139, f_1140, hn_1147, bv_1139, rfl, ⟨hP, hD⟩, hS, hl⟩
                      refine lv_iload hx hb dX10_paste_113 (lv_at hl 0 rfl) ?_
                      refine lv_iload hx hb dX10_paste_115 (lv_at hl 6 rfl) ?_
                      refine lv_icmp_ge (tgt := 147) hx hb dX10_paste_117 (by decide) (fun c_1148 => ?_) (fun c_1148 => ?_)
                      · skip
                        have nc_1148 := nb_le (60) (0) c_1148 h_1033 bv_1139 (by decide)
                        refine lv_iconst (v := 0) hx hb dX10_paste_147 (by decide) ?_
                        refine lv_istore (lv' := [(6, .int 0), (0, .ref ob), (1, .int 1), (2, .int a2), (3, .int 3), (4, .int a4), (5, .int a5)]) hx hb dX10_paste_148 hl (by decide) rfl (fun ls hl => ?_)
                        refine loopX (fun n H locs ls st => ∃ (v_1266 : Int32) (f_1267 : Nat → Int64), (60 - v_1266.toInt).toNat = n ∧ ((0 : Int) ≤ v_1266.toInt ∧ v_1266.toInt ≤ 60) ∧ st = [] ∧ vPD G A H [(ce_X10 ob ob_thrown ob_world ob_images ob_hasImage ob_tape ob_taped ob_five ob_size ob_at ob_from ob_token ob_value ob_faultKind ob_faultPlace ob_fresh ob_parts ob_houses ob_houseMany ob_worthOf ob_byCall ob_over ob_bestSet ob_bestOver ob_bestWorth ob_row ob_tenDebts ob_tenMany ob_fewestBy ob_covered ob_queue ob_cameBy ob_parent ob_met ob_calls ob_callMany ob_calledOn ob_saved ob_many ob_width ob_numbers ob_moving), (ce_i4 y ob_many fob_many), (ce_i4 y ob_width fob_width), (ce_l240 y ob_numbers f_1267), (ce_l60 y ob_moving f_1140)] ∧ va_S A s.heap H locs ∧ lv_has ls 7 [(6, .int v_1266), (0, .ref ob), (3, .int 3), (4, .int a4), (5, .int a5)]) ?_ (n := (60 - (0 : Int32).toInt).toNat) ⟨0, fob_numbers, rfl, (bw (0) (60) (bkc (x := 0) (c := 0) (by decide)) (by decide)), rfl, ⟨hP, hD⟩, hS, lv_sub hl [0, 1, 4, 5, 6] rfl⟩
                        rintro n ih_1275 H locs ls st ⟨v_1266, f_1267, hn_1275, bv_1266, rfl, ⟨hP, hD⟩, hS, hl⟩
                        refine lv_iload hx hb dX10_paste_150 (lv_at hl 0 rfl) ?_
                        refine lv_iload hx hb dX10_paste_152 (lv_at hl 4 rfl) ?_
                        refine lv_icmp_ge (tgt := 185) hx hb dX10_paste_154 (by decide) (fun c_1276 => ?_) (fun c_1276 => ?_)
                        · skip
                          have nc_1276 := nb_le (60) (0) c_1276 nc_1148.1 bv_1266 (by decide)
                          refine lv_iconst (v := 0) hx hb dX10_paste_185 (by decide) ?_
                          exact W.iret (v := 0) hx hb hr (fun t ht hW => ⟨⟨0, _, rfl, Or.inr (Or.inr (Or.inr (⟨f_1267, f_1140, h_1031, h_1032, nc_1276.1, by have h90 : Int32.toInt 0 = 0 := (by decide); have h91 : Int32.toInt 3 = 3 := (by decide); omega, rfl, rfl⟩))), by rw [ht]; exact hP, hD⟩, hS.F ht⟩) hS.2.2 dX10_paste_186
                        · skip
                          have nc_1276 := nb_nle (59) (1) c_1276 bv_1266 nc_1148.1 (by decide)
                          refine lv_aload_n hx hb dX10_paste_157 rfl (lv_at hl 1 rfl) ?_
                          refine va_get (D := G) (ci := 10) (v := .ref ob_numbers) (C := RX10) (T := TX10) (N := 41) hx hb hw0 inA_wsX100 hown hK.1 hP 0 rfl rfl 39 (by decide) (hw0 _ m_435) (fun _ h9 => h9) rfl dX10_paste_158 ?_
                          refine lv_bipush (v := 60) hx hb dX10_paste_161 (by decide) ?_
                          refine lv_iload_n hx hb dX10_paste_163 rfl (lv_at hl 2 rfl) ?_
                          refine lv_imul hx hb dX10_paste_164 ?_
                          refine lv_topi (fun v_1277 ev_1277 => ?_)
                          obtain rfl : 180 = v_1277 := (ev_1277.trans (by decide)).symm
                          refine lv_iload hx hb dX10_paste_165 (lv_at hl 3 rfl) ?_
                          refine lv_iadd hx hb dX10_paste_167 ?_
                          refine lv_topi (fun v_1278 ev_1278 => ?_)
                          have qv_1278 := ba_add ev_1278 (bkc (x := 180) (c := 180) (by decide)) h_1032 (by decide)
                          have bv_1278 : (180 : Int) ≤ v_1278.toInt ∧ v_1278.toInt ≤ 240 := bq_add qv_1278 (bkc (x := 180) (c := 180) (by decide)) h_1032 _ _ (by decide)
                          have qv_1278 : v_1278.toInt = (180) + a4.toInt := qv_1278
                          refine lv_iload hx hb dX10_paste_168 (lv_at hl 0 rfl) ?_
                          refine lv_iadd hx hb dX10_paste_170 ?_
                          refine lv_topi (fun v_1279 ev_1279 => ?_)
                          have qv_1279 := ba_add ev_1279 bv_1278 nc_1276.1 (by decide)
                          have bv_1279 : (180 : Int) ≤ v_1279.toInt ∧ v_1279.toInt ≤ 299 := bq_add qv_1279 bv_1278 nc_1276.1 _ _ (by decide)
                          have h_1280 : (0 : Int) ≤ v_1279.toInt ∧ v_1279.toInt ≤ 239 := by omega
                          refine lv_aload_n hx hb dX10_paste_171 rfl (lv_at hl 1 rfl) ?_
                          refine va_get (D := G) (ci := 10) (v := .ref ob_moving) (C := RX10) (T := TX10) (N := 41) hx hb hw0 inA_wsX100 hown hK.1 hP 0 rfl rfl 40 (by decide) (hw0 _ m_529) (fun _ h9 => h9) rfl dX10_paste_172 ?_
                          refine lv_iload hx hb dX10_paste_175 (lv_at hl 0 rfl) ?_
                          refine va_lald hx hb hK.1 hP 4 2 rfl rfl (vi nc_1276.1 (by decide)) dX10_paste_177 ?_
                          refine lv_topl (fun v_1281 ev_1281 => ?_)
                          refine va_last hx hb hK.1 hP hD hS 3 2 rfl rfl (vi h_1280 (by decide)) dX10_paste_178 (fun H locs hP hD hS => ?_)
                          generalize hf_1282 : (vp_updL f_1267 (v_1279 : Int32).toNatClampNeg v_1281) = f_1282 at hP hD
                          obtain ⟨hP, hD⟩ : vPD G A H [(ce_X10 ob ob_thrown ob_world ob_images ob_hasImage ob_tape ob_taped ob_five ob_size ob_at ob_from ob_token ob_value ob_faultKind ob_faultPlace ob_fresh ob_parts ob_houses ob_houseMany ob_worthOf ob_byCall ob_over ob_bestSet ob_bestOver ob_bestWorth ob_row ob_tenDebts ob_tenMany ob_fewestBy ob_covered ob_queue ob_cameBy ob_parent ob_met ob_calls ob_callMany ob_calledOn ob_saved ob_many ob_width ob_numbers ob_moving), (ce_i4 y ob_many fob_many), (ce_i4 y ob_width fob_width), (ce_l240 y ob_numbers f_1282), (ce_l60 y ob_moving f_1140)] := ⟨hP, hD⟩
                          obtain ⟨v_1283, ev_1283⟩ : ∃ z : Int32, z = v_1266 + 1 := ⟨_, rfl⟩
                          have qv_1283 := ba_add ev_1283 nc_1276.1 (bkc (x := 1) (c := 1) (by decide)) (by decide)
                          have bv_1283 : (1 : Int) ≤ v_1283.toInt ∧ v_1283.toInt ≤ 60 := bq_add qv_1283 nc_1276.1 (bkc (x := 1) (c := 1) (by decide)) _ _ (by decide)
                          have qv_1283 : v_1283.toInt = v_1266.toInt + (1) := qv_1283
                          refine lv_iinc (v := v_1283) (lv' := [(6, .int v_1283), (0, .ref ob), (3, .int 3), (4, .int a4), (5, .int a5)]) hx hb dX10_paste_179 hl (k := 0) rfl (ev_1283.symm) (by decide) rfl (fun ls hl => ?_)
                          refine lv_goto (tgt := 150) hx hb dX10_paste_182 (by decide) ?_
                          exact ih_1275 _ (ml_inc (hi := 60) hn_1275 qv_1283 (by decide) ((bw (0) (60) bv_1283 (by decide))).2) _ _ _ _ ⟨v_1283, f_1282, rfl, (bw (0) (60) bv_1283 (by decide)), rfl, ⟨hP, hD⟩, hS, lv_sub hl [0, 1, 2, 3, 4] rfl⟩
                      · skip
                        have nc_1148 := nb_nle (59) (1) c_1148 bv_1139 h_1033 (by decide)
                        refine lv_aload_n hx hb dX10_paste_120 rfl (lv_at hl 1 rfl) ?_
                        refine va_get (D := G) (ci := 10) (v := .ref ob_moving) (C := RX10) (T := TX10) (N := 41) hx hb hw0 inA_wsX100 hown hK.1 hP 0 rfl rfl 40 (by decide) (hw0 _ m_529) (fun _ h9 => h9) rfl dX10_paste_121 ?_
                        refine lv_iload hx hb dX10_paste_124 (lv_at hl 0 rfl) ?_
                        refine lv_aload_n hx hb dX10_paste_126 rfl (lv_at hl 1 rfl) ?_
                        refine va_get (D := G) (ci := 10) (v := .ref ob_numbers) (C := RX10) (T := TX10) (N := 41) hx hb hw0 inA_wsX100 hown hK.1 hP 0 rfl rfl 39 (by decide) (hw0 _ m_435) (fun _ h9 => h9) rfl dX10_paste_127 ?_
                        refine lv_bipush (v := 60) hx hb dX10_paste_130 (by decide) ?_
                        refine lv_iload_n hx hb dX10_paste_132 rfl (lv_at hl 2 rfl) ?_
                        refine lv_imul hx hb dX10_paste_133 ?_
                        refine lv_topi (fun v_1284 ev_1284 => ?_)
                        obtain rfl : 60 = v_1284 := (ev_1284.trans (by decide)).symm
                        refine lv_iload_n hx hb dX10_paste_134 rfl (lv_at hl 3 rfl) ?_
                        refine lv_iadd hx hb dX10_paste_135 ?_
                        refine lv_topi (fun v_1285 ev_1285 => ?_)
                        have qv_1285 := ba_add ev_1285 (bkc (x := 60) (c := 60) (by decide)) h_1031 (by decide)
                        have bv_1285 : (60 : Int) ≤ v_1285.toInt ∧ v_1285.toInt ≤ 120 := bq_add qv_1285 (bkc (x := 60) (c := 60) (by decide)) h_1031 _ _ (by decide)
                        have qv_1285 : v_1285.toInt = (60) + a2.toInt := qv_1285
                        refine lv_iload hx hb dX10_paste_136 (lv_at hl 0 rfl) ?_
                        refine lv_iadd hx hb dX10_paste_138 ?_
                        refine lv_topi (fun v_1286 ev_1286 => ?_)
                        have qv_1286 := ba_add ev_1286 bv_1285 nc_1148.1 (by decide)
                        have bv_1286 : (60 : Int) ≤ v_1286.toInt ∧ v_1286.toInt ≤ 179 := bq_add qv_1286 bv_1285 nc_1148.1 _ _ (by decide)
                        refine va_lald hx hb hK.1 hP 3 2 rfl rfl (vi bv_1286 (by decide)) dX10_paste_139 ?_
                        refine lv_topl (fun v_1287 ev_1287 => ?_)
                        refine va_last hx hb hK.1 hP hD hS 4 2 rfl rfl (vi nc_1148.1 (by decide)) dX10_paste_140 (fun H locs hP hD hS => ?_)
                        generalize hf_1288 : (vp_updL f_1140 (v_1139 : Int32).toNatClampNeg v_1287) = f_1288 at hP hD
                        obtain ⟨hP, hD⟩ : vPD G A H [(ce_X10 ob ob_thrown ob_world ob_images ob_hasImage ob_tape ob_taped ob_five ob_size ob_at ob_from ob_token ob_value ob_faultKind ob_faultPlace ob_fresh ob_parts ob_houses ob_houseMany ob_worthOf ob_byCall ob_over ob_bestSet ob_bestOver ob_bestWorth ob_row ob_tenDebts ob_tenMany ob_fewestBy ob_covered ob_queue ob_cameBy ob_parent ob_met ob_calls ob_callMany ob_calledOn ob_saved ob_many ob_width ob_numbers ob_moving), (ce_i4 y ob_many fob_many), (ce_i4 y ob_width fob_width), (ce_l240 y ob_numbers fob_numbers), (ce_l60 y ob_moving f_1288)] := ⟨hP, hD⟩
                        obtain ⟨v_1289, ev_1289⟩ : ∃ z : Int32, z = v_1139 + 1 := ⟨_, rfl⟩
                        have qv_1289 := ba_add ev_1289 nc_1148.1 (bkc (x := 1) (c := 1) (by decide)) (by decide)
                        have bv_1289 : (1 : Int) ≤ v_1289.toInt ∧ v_1289.toInt ≤ 60 := bq_add qv_1289 nc_1148.1 (bkc (x := 1) (c := 1) (by decide)) _ _ (by decide)
                        have qv_1289 : v_1289.toInt = v_1139.toInt + (1) := qv_1289
                        refine lv_iinc (v := v_1289) (lv' := [(6, .int v_1289), (0, .ref ob), (1, .int 1), (2, .int a2), (3, .int 3), (4, .int a4), (5, .int a5)]) hx hb dX10_paste_141 hl (k := 0) rfl (ev_1289.symm) (by decide) rfl (fun ls hl => ?_)
                        refine lv_goto (tgt := 113) hx hb dX10_paste_144 (by decide) ?_
                        exact ih_1147 _ (ml_inc (hi := 60) hn_1147 qv_1289 (by decide) ((bw (0) (60) bv_1289 (by decide))).2) _ _ _ _ ⟨v_1289, f_1288, rfl, (bw (0) (60) bv_1289 (by decide)), rfl, ⟨hP, hD⟩, hS, lv_sub hl [0, 1, 2, 3, 4, 5, 6] rfl⟩
                    · skip
                      have nc_1030 := jl_nle c_1030
                      refine lv_bipush (v := (-7)) hx hb dX10_paste_107 (by decide) ?_
                      exact W.iret (v := (-7)) hx hb hr (fun t ht hW => ⟨⟨(-7), _, rfl, Or.inr (Or.inl (⟨by have h90 : Int32.toInt (-7) = -7 := (by decide); have h91 : Int32.toInt 1 = 1 := (by decide); have h92 : Int32.toInt 3 = 3 := (by decide); omega, rfl, rfl⟩)), by rw [ht]; exact hP, hD⟩, hS.F ht⟩) hS.2.2 dX10_paste_109
          · skip
            have nc_1015 : v_1013.toInt ≠ v_1014.toInt := fun h9 => c_1015 (Int32.toInt_inj.mp h9)
            refine lv_bipush (v := (-8)) hx hb dX10_paste_55 (by decide) ?_
            exact W.iret (v := (-8)) hx hb hr (fun t ht hW => ⟨⟨(-8), _, rfl, Or.inr (Or.inr (Or.inl (⟨by have h90 : Int32.toInt (-8) = -8 := (by decide); have h91 : Int32.toInt 1 = 1 := (by decide); have h92 : Int32.toInt 3 = 3 := (by decide); omega, rfl, rfl⟩))), by rw [ht]; exact hP, hD⟩, hS.F ht⟩) hS.2.2 dX10_paste_57
        · skip
          have nc_1012 := nb_eq (-1) (-1) c_1012 bv_1011 (bkc (x := (-1)) (c := -1) (by decide)) (by decide)
          refine lv_bipush (v := (-6)) hx hb dX10_paste_37 (by decide) ?_
          exact W.iret (v := (-6)) hx hb hr (fun t ht hW => ⟨⟨(-6), _, rfl, Or.inl (⟨by have h90 : Int32.toInt (-6) = -6 := (by decide); have h91 : Int32.toInt 1 = 1 := (by decide); have h92 : Int32.toInt 3 = 3 := (by decide); omega, rfl, rfl⟩), by rw [ht]; exact hP, hD⟩, hS.F ht⟩) hS.2.2 dX10_paste_39

set_option maxHeartbeats 4000000 in
set_option maxRecDepth 100000 in
theorem fpasteM20 (l : Launch) (G : va_G) (y : Nat → ClassId) (sz : Nat) (ob : Nat) (a2 : Int32) (a4 : Int32) (a5 : Int32) (ob_thrown : Int32) (ob_world : Nat) (ob_images : Nat) (ob_hasImage : Nat) (ob_tape : Nat) (ob_taped : Int32) (ob_five : Nat) (ob_size : Int32) (ob_at : Int32) (ob_from : Int32) (ob_token : Int32) (ob_value : Int32) (ob_faultKind : Int32) (ob_faultPlace : Int32) (ob_fresh : Nat) (ob_parts : Nat) (ob_houses : Nat) (ob_houseMany : Int32) (ob_worthOf : Nat) (ob_byCall : Nat) (ob_over : Nat) (ob_bestSet : Int32) (ob_bestOver : Int32) (ob_bestWorth : Int32) (ob_row : Nat) (ob_tenDebts : Nat) (ob_tenMany : Int32) (ob_fewestBy : Nat) (ob_covered : Nat) (ob_queue : Nat) (ob_cameBy : Nat) (ob_parent : Nat) (ob_met : Nat) (ob_calls : Nat) (ob_callMany : Int32) (ob_calledOn : Nat) (ob_saved : Nat) (ob_many : Nat) (ob_width : Nat) (ob_numbers : Nat) (ob_moving : Nat) (fob_many : Nat → Int32) (fob_width : Nat → Int32) (fob_numbers : Nat → Int64) (fob_moving : Nat → Int64) (p_ob_taped : (0 : Int) ≤ ob_taped.toInt ∧ ob_taped.toInt ≤ 1400) (p_ob_size : (0 : Int) ≤ ob_size.toInt ∧ ob_size.toInt ≤ 1400) (p_ob_at : (0 : Int) ≤ ob_at.toInt ∧ ob_at.toInt ≤ 1400) (p_ob_from : (0 : Int) ≤ ob_from.toInt ∧ ob_from.toInt ≤ 1400) (p_ob_token : (0 : Int) ≤ ob_token.toInt ∧ ob_token.toInt ≤ 4) (p_ob_value : (0 : Int) ≤ ob_value.toInt ∧ ob_value.toInt ≤ 9999) (p_ob_faultKind : (0 : Int) ≤ ob_faultKind.toInt ∧ ob_faultKind.toInt ≤ 3) (p_ob_houseMany : (0 : Int) ≤ ob_houseMany.toInt ∧ ob_houseMany.toInt ≤ 10) (p_ob_bestSet : (0 : Int) ≤ ob_bestSet.toInt ∧ ob_bestSet.toInt ≤ 1023) (p_ob_bestOver : (-1 : Int) ≤ ob_bestOver.toInt ∧ ob_bestOver.toInt ≤ 180) (p_ob_tenMany : (0 : Int) ≤ ob_tenMany.toInt ∧ ob_tenMany.toInt ≤ 10) (p_ob_callMany : (0 : Int) ≤ ob_callMany.toInt ∧ ob_callMany.toInt ≤ 16) (p_fob_many : ∀ i, (-1 : Int) ≤ (fob_many i).toInt ∧ (fob_many i).toInt ≤ 60) (p_fob_width : ∀ i, (0 : Int) ≤ (fob_width i).toInt ∧ (fob_width i).toInt ≤ 3) : Met l yX10_paste (Cond.code yX10_paste cX10_paste 7 (some .int) :: wAll) ({ frames := 2, cells := 0, slots := 0, locals := 45 }) (va_Pc [.ref ob, .int 2, .int a2, .int 0, .int a4, .int a5] (kp G y sz [(ce_X10 ob ob_thrown ob_world ob_images ob_hasImage ob_tape ob_taped ob_five ob_size ob_at ob_from ob_token ob_value ob_faultKind ob_faultPlace ob_fresh ob_parts ob_houses ob_houseMany ob_worthOf ob_byCall ob_over ob_bestSet ob_bestOver ob_bestWorth ob_row ob_tenDebts ob_tenMany ob_fewestBy ob_covered ob_queue ob_cameBy ob_parent ob_met ob_calls ob_callMany ob_calledOn ob_saved ob_many ob_width ob_numbers ob_moving), (ce_i4 y ob_many fob_many), (ce_i4 y ob_width fob_width), (ce_l240 y ob_numbers fob_numbers), (ce_l60 y ob_moving fob_moving)])) (va_Qi (fun (r : Int32) (w : va_W) => (((fob_many 2).toInt = -1 ∨ (fob_many 0).toInt = -1) ∧ r = (-6) ∧ w = [(ce_X10 ob ob_thrown ob_world ob_images ob_hasImage ob_tape ob_taped ob_five ob_size ob_at ob_from ob_token ob_value ob_faultKind ob_faultPlace ob_fresh ob_parts ob_houses ob_houseMany ob_worthOf ob_byCall ob_over ob_bestSet ob_bestOver ob_bestWorth ob_row ob_tenDebts ob_tenMany ob_fewestBy ob_covered ob_queue ob_cameBy ob_parent ob_met ob_calls ob_callMany ob_calledOn ob_saved ob_many ob_width ob_numbers ob_moving), (ce_i4 y ob_many fob_many), (ce_i4 y ob_width fob_width), (ce_l240 y ob_numbers fob_numbers), (ce_l60 y ob_moving fob_moving)]) ∨ ((¬ (fob_many 2).toInt = -1 ∧ ¬ (fob_many 0).toInt = -1 ∧ (fob_width 2).toInt = (fob_width 0).toInt ∧ ¬ (0 ≤ a2.toInt ∧ 0 ≤ a4.toInt ∧ 0 ≤ a5.toInt ∧ a2.toInt + a5.toInt ≤ (fob_many 2).toInt ∧ a4.toInt + a5.toInt ≤ (fob_many 0).toInt)) ∧ r = (-7) ∧ w = [(ce_X10 ob ob_thrown ob_world ob_images ob_hasImage ob_tape ob_taped ob_five ob_size ob_at ob_from ob_token ob_value ob_faultKind ob_faultPlace ob_fresh ob_parts ob_houses ob_houseMany ob_worthOf ob_byCall ob_over ob_bestSet ob_bestOver ob_bestWorth ob_row ob_tenDebts ob_tenMany ob_fewestBy ob_covered ob_queue ob_cameBy ob_parent ob_met ob_calls ob_callMany ob_calledOn ob_saved ob_many ob_width ob_numbers ob_moving), (ce_i4 y ob_many fob_many), (ce_i4 y ob_width fob_width), (ce_l240 y ob_numbers fob_numbers), (ce_l60 y ob_moving fob_moving)]) ∨ ((¬ (fob_many 2).toInt = -1 ∧ ¬ (fob_many 0).toInt = -1 ∧ ¬ (fob_width 2).toInt = (fob_width 0).toInt) ∧ r = (-8) ∧ w = [(ce_X10 ob ob_thrown ob_world ob_images ob_hasImage ob_tape ob_taped ob_five ob_size ob_at ob_from ob_token ob_value ob_faultKind ob_faultPlace ob_fresh ob_parts ob_houses ob_houseMany ob_worthOf ob_byCall ob_over ob_bestSet ob_bestOver ob_bestWorth ob_row ob_tenDebts ob_tenMany ob_fewestBy ob_covered ob_queue ob_cameBy ob_parent ob_met ob_calls ob_callMany ob_calledOn ob_saved ob_many ob_width ob_numbers ob_moving), (ce_i4 y ob_many fob_many), (ce_i4 y ob_width fob_width), (ce_l240 y ob_numbers fob_numbers), (ce_l60 y ob_moving fob_moving)]) ∨ (∃ (f_551 : Nat → Int64) (f_552 : Nat → Int64), ((0 : Int) ≤ a2.toInt ∧ a2.toInt ≤ 60) ∧ ((0 : Int) ≤ a4.toInt ∧ a4.toInt ≤ 60) ∧ ((0 : Int) ≤ a5.toInt ∧ a5.toInt ≤ 60) ∧ (¬ (fob_many 2).toInt = -1 ∧ ¬ (fob_many 0).toInt = -1 ∧ (fob_width 2).toInt = (fob_width 0).toInt ∧ 0 ≤ a2.toInt ∧ 0 ≤ a4.toInt ∧ 0 ≤ a5.toInt ∧ a2.toInt + a5.toInt ≤ (fob_many 2).toInt ∧ a4.toInt + a5.toInt ≤ (fob_many 0).toInt) ∧ r = 0 ∧ w = [(ce_X10 ob ob_thrown ob_world ob_images ob_hasImage ob_tape ob_taped ob_five ob_size ob_at ob_from ob_token ob_value ob_faultKind ob_faultPlace ob_fresh ob_parts ob_houses ob_houseMany ob_worthOf ob_byCall ob_over ob_bestSet ob_bestOver ob_bestWorth ob_row ob_tenDebts ob_tenMany ob_fewestBy ob_covered ob_queue ob_cameBy ob_parent ob_met ob_calls ob_callMany ob_calledOn ob_saved ob_many ob_width ob_numbers ob_moving), (ce_i4 y ob_many fob_many), (ce_i4 y ob_width fob_width), (ce_l240 y ob_numbers f_551), (ce_l60 y ob_moving f_552)])) (kq G (va_A [(ce_X10 ob ob_thrown ob_world ob_images ob_hasImage ob_tape ob_taped ob_five ob_size ob_at ob_from ob_token ob_value ob_faultKind ob_faultPlace ob_fresh ob_parts ob_houses ob_houseMany ob_worthOf ob_byCall ob_over ob_bestSet ob_bestOver ob_bestWorth ob_row ob_tenDebts ob_tenMany ob_fewestBy ob_covered ob_queue ob_cameBy ob_parent ob_met ob_calls ob_callMany ob_calledOn ob_saved ob_many ob_width ob_numbers ob_moving), (ce_i4 y ob_many fob_many), (ce_i4 y ob_width fob_width), (ce_l240 y ob_numbers fob_numbers), (ce_l60 y ob_moving fob_moving)] sz)) (va_A [(ce_X10 ob ob_thrown ob_world ob_images ob_hasImage ob_tape ob_taped ob_five ob_size ob_at ob_from ob_token ob_value ob_faultKind ob_faultPlace ob_fresh ob_parts ob_houses ob_houseMany ob_worthOf ob_byCall ob_over ob_bestSet ob_bestOver ob_bestWorth ob_row ob_tenDebts ob_tenMany ob_fewestBy ob_covered ob_queue ob_cameBy ob_parent ob_met ob_calls ob_callMany ob_calledOn ob_saved ob_many ob_width ob_numbers ob_moving), (ce_i4 y ob_many fob_many), (ce_i4 y ob_width fob_width), (ce_l240 y ob_numbers fob_numbers), (ce_l60 y ob_moving fob_moving)] sz)) 0 0 (va_A [(ce_X10 ob ob_thrown ob_world ob_images ob_hasImage ob_tape ob_taped ob_five ob_size ob_at ob_from ob_token ob_value ob_faultKind ob_faultPlace ob_fresh ob_parts ob_houses ob_houseMany ob_worthOf ob_byCall ob_over ob_bestSet ob_bestOver ob_bestWorth ob_row ob_tenDebts ob_tenMany ob_fewestBy ob_covered ob_queue ob_cameBy ob_parent ob_met ob_calls ob_callMany ob_calledOn ob_saved ob_many ob_width ob_numbers ob_moving), (ce_i4 y ob_many fob_many), (ce_i4 y ob_width fob_width), (ce_l240 y ob_numbers fob_numbers), (ce_l60 y ob_moving fob_moving)] sz) := by
  refine Met.ofW (cc := cX10_paste) (maxL := 7) (ret := (some .int)) (by decide) rfl ?_
  intro p e s m args below meth c s₁ B hml hv
  obtain ⟨rfl, hsz, hP, hK, hD0⟩ := hv
  have hx := B.exec
  have hb := B.bytes
  have hr := B.returns
  have hw0 : ∀ w ∈ wAll, w.before _ s = true := fun w h => atoms_spec (ws := Cond.code yX10_paste cX10_paste 7 (some .int) :: wAll) B.pre w (List.mem_cons_of_mem _ h)
  have hown : s.vm.findClass RX10 = some m.cls := findClass_of_methodNamed B.named
  subst hsz
  have hD := hD0.self (sz := s.heap.size)
  generalize hAe : va_A [(ce_X10 ob ob_thrown ob_world ob_images ob_hasImage ob_tape ob_taped ob_five ob_size ob_at ob_from ob_token ob_value ob_faultKind ob_faultPlace ob_fresh ob_parts ob_houses ob_houseMany ob_worthOf ob_byCall ob_over ob_bestSet ob_bestOver ob_bestWorth ob_row ob_tenDebts ob_tenMany ob_fewestBy ob_covered ob_queue ob_cameBy ob_parent ob_met ob_calls ob_callMany ob_calledOn ob_saved ob_many ob_width ob_numbers ob_moving), (ce_i4 y ob_many fob_many), (ce_i4 y ob_width fob_width), (ce_l240 y ob_numbers fob_numbers), (ce_l60 y ob_moving fob_moving)] s.heap.size = A at hD ⊢
  have hA : ∀ q : Nat, s.heap.size ≤ q → A q := fun q h => by rw [← hAe]; exact Or.inr h
  have hS : va_S A s.heap s.heap [] := va_S.rf
  have hP : va_P G vwCl [(ce_X10 ob ob_thrown ob_world ob_images ob_hasImage ob_tape ob_taped ob_five ob_size ob_at ob_from ob_token ob_value ob_faultKind ob_faultPlace ob_fresh ob_parts ob_houses ob_houseMany ob_worthOf ob_byCall ob_over ob_bestSet ob_bestOver ob_bestWorth ob_row ob_tenDebts ob_tenMany ob_fewestBy ob_covered ob_queue ob_cameBy ob_parent ob_met ob_calls ob_callMany ob_calledOn ob_saved ob_many ob_width ob_numbers ob_moving), (ce_i4 y ob_many fob_many), (ce_i4 y ob_width fob_width), (ce_l240 y ob_numbers fob_numbers), (ce_l60 y ob_moving fob_moving)] s.heap := hP
  have hl := lv_entry ([.ref ob, .int 2, .int a2, .int 0, .int a4, .int a5]) (n := 7) (Nat.le_of_ble_eq_true rfl)
  rw [lg_entry_eq]
  generalize (lg_sl ([.ref ob, .int 2, .int a2, .int 0, .int a4, .int a5]) ++ List.replicate (7 - (lg_sl ([.ref ob, .int 2, .int a2, .int 0, .int a4, .int a5])).length) Slot.unset).toArray = ls at hl ⊢
  have hl : lv_has ls 7 [(0, .ref ob), (1, .int 2), (2, .int a2), (3, .int 0), (4, .int a4), (5, .int a5)] := hl
  refine lv_iload_n hx hb dX10_paste_0 rfl (lv_at hl 1 rfl) ?_
  refine cSim (As := [.int 2]) (rest := []) ⟨hx, hb, hml, hown, hw0⟩ hA hK hP hD hS [] (fisSlotM l G y _ 2 ) rfl ⟨(callB_of 1 hw0 (gA m_543) rfl rfl rfl (hw0 _ m_41) (hw0 _ m_433) cb_X10_isSlot ⟨Nat.le_of_ble_eq_true rfl, Nat.le_of_ble_eq_true rfl⟩), (hw0 _ m_434)⟩ rfl hl.1 (Nat.le_of_ble_eq_true rfl) dX10_paste_1 ⟨Nat.le_of_ble_eq_true rfl, Nat.le_of_ble_eq_true rfl⟩ (fun r_1001 w_1001 H locs hw_1001 hP hD hS => ?_)
  rcases hw_1001 with ⟨h_1002, rfl, rfl⟩ | ⟨h_1003, h_1004, rfl, rfl⟩
  · skip
    exact False.elim (by have h9 : Int32.toInt 2 = 2 := (by decide); omega)
  · skip
    obtain ⟨hP, hD⟩ : vPD G A H [(ce_X10 ob ob_thrown ob_world ob_images ob_hasImage ob_tape ob_taped ob_five ob_size ob_at ob_from ob_token ob_value ob_faultKind ob_faultPlace ob_fresh ob_parts ob_houses ob_houseMany ob_worthOf ob_byCall ob_over ob_bestSet ob_bestOver ob_bestWorth ob_row ob_tenDebts ob_tenMany ob_fewestBy ob_covered ob_queue ob_cameBy ob_parent ob_met ob_calls ob_callMany ob_calledOn ob_saved ob_many ob_width ob_numbers ob_moving), (ce_i4 y ob_many fob_many), (ce_i4 y ob_width fob_width), (ce_l240 y ob_numbers fob_numbers), (ce_l60 y ob_moving fob_moving)] := ⟨hP, hD⟩
    refine lv_if_eq (tgt := 14) hx hb dX10_paste_4 (by decide) (fun c9 => absurd c9 (by decide)) (fun _ => ?_)
    refine lv_iload_n hx hb dX10_paste_7 rfl (lv_at hl 3 rfl) ?_
    refine cSim (As := [.int 0]) (rest := []) ⟨hx, hb, hml, hown, hw0⟩ hA hK hP hD hS [] (fisSlotM l G y _ 0 ) rfl ⟨(callB_of 1 hw0 (gA m_543) rfl rfl rfl (hw0 _ m_41) (hw0 _ m_433) cb_X10_isSlot ⟨Nat.le_of_ble_eq_true rfl, Nat.le_of_ble_eq_true rfl⟩), (hw0 _ m_434)⟩ rfl hl.1 (Nat.le_of_ble_eq_true rfl) dX10_paste_8 ⟨Nat.le_of_ble_eq_true rfl, Nat.le_of_ble_eq_true rfl⟩ (fun r_1005 w_1005 H locs hw_1005 hP hD hS => ?_)
    rcases hw_1005 with ⟨h_1006, rfl, rfl⟩ | ⟨h_1007, h_1008, rfl, rfl⟩
    · skip
      exact False.elim (by have h9 : Int32.toInt 0 = 0 := (by decide); omega)
    · skip
      obtain ⟨hP, hD⟩ : vPD G A H [(ce_X10 ob ob_thrown ob_world ob_images ob_hasImage ob_tape ob_taped ob_five ob_size ob_at ob_from ob_token ob_value ob_faultKind ob_faultPlace ob_fresh ob_parts ob_houses ob_houseMany ob_worthOf ob_byCall ob_over ob_bestSet ob_bestOver ob_bestWorth ob_row ob_tenDebts ob_tenMany ob_fewestBy ob_covered ob_queue ob_cameBy ob_parent ob_met ob_calls ob_callMany ob_calledOn ob_saved ob_many ob_width ob_numbers ob_moving), (ce_i4 y ob_many fob_many), (ce_i4 y ob_width fob_width), (ce_l240 y ob_numbers fob_numbers), (ce_l60 y ob_moving fob_moving)] := ⟨hP, hD⟩
      refine lv_if_ne (tgt := 17) hx hb dX10_paste_11 (by decide) (fun _ => ?_) (fun c9 => absurd c9 (by decide))
      refine lv_aload_n hx hb dX10_paste_17 rfl (lv_at hl 0 rfl) ?_
      refine va_get (D := G) (ci := 10) (v := .ref ob_many) (C := RX10) (T := TX10) (N := 41) hx hb hw0 inA_wsX100 hown hK.1 hP 0 rfl rfl 37 (by decide) (hw0 _ m_406) (fun _ h9 => h9) rfl dX10_paste_18 ?_
      refine lv_iload_n hx hb dX10_paste_21 rfl (lv_at hl 1 rfl) ?_
      refine va_iald hx hb hK.1 hP 1 1 rfl rfl (vi (bkc (x := 2) (c := 2) (by decide)) (by decide)) dX10_paste_22 ?_
      refine lv_topi (fun v_1009 ev_1009 => ?_)
      have bv_1009 : (-1 : Int) ≤ v_1009.toInt ∧ v_1009.toInt ≤ 60 := rd_b ev_1009 p_fob_many
      have yv_1009 : v_1009.toInt = (fob_many 2).toInt := congrArg Int32.toInt ev_1009
      refine lv_iconst (v := (-1)) hx hb dX10_paste_23 (by decide) ?_
      refine lv_icmp_eq (tgt := 37) hx hb dX10_paste_24 (by decide) (fun c_1010 => ?_) (fun c_1010 => ?_)
      · skip
        have nc_1010 := nb_eq (-1) (-1) c_1010 bv_1009 (bkc (x := (-1)) (c := -1) (by decide)) (by decide)
        refine lv_bipush (v := (-6)) hx hb dX10_paste_37 (by decide) ?_
        exact W.iret (v := (-6)) hx hb hr (fun t ht hW => ⟨⟨(-6), _, rfl, Or.inl (⟨by have h90 : Int32.toInt (-6) = -6 := (by decide); have h91 : Int32.toInt 0 = 0 := (by decide); have h92 : Int32.toInt 2 = 2 := (by decide); omega, rfl, rfl⟩), by rw [ht]; exact hP, hD⟩, hS.F ht⟩) hS.2.2 dX10_paste_39
      · skip
        have nc_1010 := nb_ne (0) (60) c_1010 bv_1009 (k := -1) (by decide) (by decide)
        refine lv_aload_n hx hb dX10_paste_27 rfl (lv_at hl 0 rfl) ?_
        refine va_get (D := G) (ci := 10) (v := .ref ob_many) (C := RX10) (T := TX10) (N := 41) hx hb hw0 inA_wsX100 hown hK.1 hP 0 rfl rfl 37 (by decide) (hw0 _ m_406) (fun _ h9 => h9) rfl dX10_paste_28 ?_
        refine lv_iload_n hx hb dX10_paste_31 rfl (lv_at hl 3 rfl) ?_
        refine va_iald hx hb hK.1 hP 1 1 rfl rfl (vi (bkc (x := 0) (c := 0) (by decide)) (by decide)) dX10_paste_32 ?_
        refine lv_topi (fun v_1011 ev_1011 => ?_)
        have bv_1011 : (-1 : Int) ≤ v_1011.toInt ∧ v_1011.toInt ≤ 60 := rd_b ev_1011 p_fob_many
        have yv_1011 : v_1011.toInt = (fob_many 0).toInt := congrArg Int32.toInt ev_1011
        refine lv_iconst (v := (-1)) hx hb dX10_paste_33 (by decide) ?_
        refine lv_icmp_ne (tgt := 40) hx hb dX10_paste_34 (by decide) (fun c_1012 => ?_) (fun c_1012 => ?_)
        · skip
          have nc_1012 := nb_ne (0) (60) c_1012 bv_1011 (k := -1) (by decide) (by decide)
          refine lv_aload_n hx hb dX10_paste_40 rfl (lv_at hl 0 rfl) ?_
          refine va_get (D := G) (ci := 10) (v := .ref ob_width) (C := RX10) (T := TX10) (N := 41) hx hb hw0 inA_wsX100 hown hK.1 hP 0 rfl rfl 38 (by decide) (hw0 _ m_527) (fun _ h9 => h9) rfl dX10_paste_41 ?_
          refine lv_iload_n hx hb dX10_paste_44 rfl (lv_at hl 1 rfl) ?_
          refine va_iald hx hb hK.1 hP 2 1 rfl rfl (vi (bkc (x := 2) (c := 2) (by decide)) (by decide)) dX10_paste_45 ?_
          refine lv_topi (fun v_1013 ev_1013 => ?_)
          have bv_1013 : (0 : Int) ≤ v_1013.toInt ∧ v_1013.toInt ≤ 3 := rd_b ev_1013 p_fob_width
          have yv_1013 : v_1013.toInt = (fob_width 2).toInt := congrArg Int32.toInt ev_1013
          refine lv_aload_n hx hb dX10_paste_46 rfl (lv_at hl 0 rfl) ?_
          refine va_get (D := G) (ci := 10) (v := .ref ob_width) (C := RX10) (T := TX10) (N := 41) hx hb hw0 inA_wsX100 hown hK.1 hP 0 rfl rfl 38 (by decide) (hw0 _ m_527) (fun _ h9 => h9) rfl dX10_paste_47 ?_
          refine lv_iload_n hx hb dX10_paste_50 rfl (lv_at hl 3 rfl) ?_
          refine va_iald hx hb hK.1 hP 2 1 rfl rfl (vi (bkc (x := 0) (c := 0) (by decide)) (by decide)) dX10_paste_51 ?_
          refine lv_topi (fun v_1014 ev_1014 => ?_)
          have bv_1014 : (0 : Int) ≤ v_1014.toInt ∧ v_1014.toInt ≤ 3 := rd_b ev_1014 p_fob_width
          have yv_1014 : v_1014.toInt = (fob_width 0).toInt := congrArg Int32.toInt ev_1014
          refine lv_icmp_eq (tgt := 58) hx hb dX10_paste_52 (by decide) (fun c_1015 => ?_) (fun c_1015 => ?_)
          · skip
            have nc_1015 := nb_eq (0) (3) c_1015 bv_1013 bv_1014 (by decide)
            refine lv_iload_n hx hb dX10_paste_58 rfl (lv_at hl 2 rfl) ?_
            refine lv_if_lt (tgt := 107) hx hb dX10_paste_59 (by decide) (fun c_1016 => ?_) (fun c_1016 => ?_)
            · skip
              have nc_1016 := nb_lt (-1) (0) c_1016 (btop a2) (bkc (x := 0) (c := 0) (by decide)) (by decide)
              refine lv_bipush (v := (-7)) hx hb dX10_paste_107 (by decide) ?_
              exact W.iret (v := (-7)) hx hb hr (fun t ht hW => ⟨⟨(-7), _, rfl, Or.inr (Or.inl (⟨by have h90 : Int32.toInt (-7) = -7 := (by decide); have h91 : Int32.toInt 0 = 0 := (by decide); have h92 : Int32.toInt 2 = 2 := (by decide); omega, rfl, rfl⟩)), by rw [ht]; exact hP, hD⟩, hS.F ht⟩) hS.2.2 dX10_paste_109
            · skip
              have nc_1016 := nb_nlt (0) (0) c_1016 (bkc (x := 0) (c := 0) (by decide)) (btop a2) (by decide)
              refine lv_iload hx hb dX10_paste_62 (lv_at hl 4 rfl) ?_
              refine lv_if_lt (tgt := 107) hx hb dX10_paste_64 (by decide) (fun c_1017 => ?_) (fun c_1017 => ?_)
              · skip
                have nc_1017 := nb_lt (-1) (0) c_1017 (btop a4) (bkc (x := 0) (c := 0) (by decide)) (by decide)
                refine lv_bipush (v := (-7)) hx hb dX10_paste_107 (by decide) ?_
                exact W.iret (v := (-7)) hx hb hr (fun t ht hW => ⟨⟨(-7), _, rfl, Or.inr (Or.inl (⟨by have h90 : Int32.toInt (-7) = -7 := (by decide); have h91 : Int32.toInt 0 = 0 := (by decide); have h92 : Int32.toInt 2 = 2 := (by decide); omega, rfl, rfl⟩)), by rw [ht]; exact hP, hD⟩, hS.F ht⟩) hS.2.2 dX10_paste_109
              · skip
                have nc_1017 := nb_nlt (0) (0) c_1017 (bkc (x := 0) (c := 0) (by decide)) (btop a4) (by decide)
                refine lv_iload hx hb dX10_paste_67 (lv_at hl 5 rfl) ?_
                refine lv_if_lt (tgt := 107) hx hb dX10_paste_69 (by decide) (fun c_1018 => ?_) (fun c_1018 => ?_)
                · skip
                  have nc_1018 := nb_lt (-1) (0) c_1018 (btop a5) (bkc (x := 0) (c := 0) (by decide)) (by decide)
                  refine lv_bipush (v := (-7)) hx hb dX10_paste_107 (by decide) ?_
                  exact W.iret (v := (-7)) hx hb hr (fun t ht hW => ⟨⟨(-7), _, rfl, Or.inr (Or.inl (⟨by have h90 : Int32.toInt (-7) = -7 := (by decide); have h91 : Int32.toInt 0 = 0 := (by decide); have h92 : Int32.toInt 2 = 2 := (by decide); omega, rfl, rfl⟩)), by rw [ht]; exact hP, hD⟩, hS.F ht⟩) hS.2.2 dX10_paste_109
                · skip
                  have nc_1018 := nb_nlt (0) (0) c_1018 (bkc (x := 0) (c := 0) (by decide)) (btop a5) (by decide)
                  refine lv_iload_n hx hb dX10_paste_72 rfl (lv_at hl 2 rfl) ?_
                  refine lv_i2l hx hb dX10_paste_73 rfl ?_
                  have kk_1019 : ((a2).toInt64).toInt = (a2).toInt := Int32.toInt_toInt64 _
                  refine lv_iload hx hb dX10_paste_74 (lv_at hl 5 rfl) ?_
                  refine lv_i2l hx hb dX10_paste_76 rfl ?_
                  have kk_1020 : ((a5).toInt64).toInt = (a5).toInt := Int32.toInt_toInt64 _
                  refine lv_ladd hx hb dX10_paste_77 ?_
                  refine lv_topl (fun v_1021 ev_1021 => ?_)
                  have qv_1021 := la_add ev_1021
                  refine lv_aload_n hx hb dX10_paste_78 rfl (lv_at hl 0 rfl) ?_
                  refine va_get (D := G) (ci := 10) (v := .ref ob_many) (C := RX10) (T := TX10) (N := 41) hx hb hw0 inA_wsX100 hown hK.1 hP 0 rfl rfl 37 (by decide) (hw0 _ m_406) (fun _ h9 => h9) rfl dX10_paste_79 ?_
                  refine lv_iload_n hx hb dX10_paste_82 rfl (lv_at hl 1 rfl) ?_
                  refine va_iald hx hb hK.1 hP 1 1 rfl rfl (vi (bkc (x := 2) (c := 2) (by decide)) (by decide)) dX10_paste_83 ?_
                  refine lv_topi (fun v_1022 ev_1022 => ?_)
                  obtain rfl : v_1009 = v_1022 := (ev_1022.trans (ev_1009.symm)).symm
                  refine lv_i2l hx hb dX10_paste_84 rfl ?_
                  have kk_1023 : ((v_1009).toInt64).toInt = (v_1009).toInt := Int32.toInt_toInt64 _
                  refine W.lcmp hx hb dX10_paste_85 ?_
                  refine lv_if_gt (tgt := 107) hx hb dX10_paste_86 (by decide) (fun c_1024 => ?_) (fun c_1024 => ?_)
                  · skip
                    have nc_1024 := jl_gt c_1024
                    refine lv_bipush (v := (-7)) hx hb dX10_paste_107 (by decide) ?_
                    exact W.iret (v := (-7)) hx hb hr (fun t ht hW => ⟨⟨(-7), _, rfl, Or.inr (Or.inl (⟨by have h90 : Int32.toInt (-7) = -7 := (by decide); have h91 : Int32.toInt 0 = 0 := (by decide); have h92 : Int32.toInt 2 = 2 := (by decide); omega, rfl, rfl⟩)), by rw [ht]; exact hP, hD⟩, hS.F ht⟩) hS.2.2 dX10_paste_109
                  · skip
                    have nc_1024 := jl_ngt c_1024
                    refine lv_iload hx hb dX10_paste_89 (lv_at hl 4 rfl) ?_
                    refine lv_i2l hx hb dX10_paste_91 rfl ?_
                    have kk_1025 : ((a4).toInt64).toInt = (a4).toInt := Int32.toInt_toInt64 _
                    refine lv_iload hx hb dX10_paste_92 (lv_at hl 5 rfl) ?_
                    refine lv_i2l hx hb dX10_paste_94 rfl ?_
                    have kk_1026 : ((a5).toInt64).toInt = (a5).toInt := Int32.toInt_toInt64 _
                    refine lv_ladd hx hb dX10_paste_95 ?_
                    refine lv_topl (fun v_1027 ev_1027 => ?_)
                    have qv_1027 := la_add ev_1027
                    refine lv_aload_n hx hb dX10_paste_96 rfl (lv_at hl 0 rfl) ?_
                    refine va_get (D := G) (ci := 10) (v := .ref ob_many) (C := RX10) (T := TX10) (N := 41) hx hb hw0 inA_wsX100 hown hK.1 hP 0 rfl rfl 37 (by decide) (hw0 _ m_406) (fun _ h9 => h9) rfl dX10_paste_97 ?_
                    refine lv_iload_n hx hb dX10_paste_100 rfl (lv_at hl 3 rfl) ?_
                    refine va_iald hx hb hK.1 hP 1 1 rfl rfl (vi (bkc (x := 0) (c := 0) (by decide)) (by decide)) dX10_paste_101 ?_
                    refine lv_topi (fun v_1028 ev_1028 => ?_)
                    obtain rfl : v_1011 = v_1028 := (ev_1028.trans (ev_1011.symm)).symm
                    refine lv_i2l hx hb dX10_paste_102 rfl ?_
                    have kk_1029 : ((v_1011).toInt64).toInt = (v_1011).toInt := Int32.toInt_toInt64 _
                    refine W.lcmp hx hb dX10_paste_103 ?_
                    refine lv_if_le (tgt := 110) hx hb dX10_paste_104 (by decide) (fun c_1030 => ?_) (fun c_1030 => ?_)
                    · skip
                      have nc_1030 := jl_le c_1030
                      have h_1031 : (0 : Int) ≤ a2.toInt ∧ a2.toInt ≤ 60 := by omega
                      have h_1032 : (0 : Int) ≤ a4.toInt ∧ a4.toInt ≤ 60 := by omega
                      have h_1033 : (0 : Int) ≤ a5.toInt ∧ a5.toInt ≤ 60 := by omega
                      refine lv_iconst (v := 0) hx hb dX10_paste_110 (by decide) ?_
                      refine lv_istore (lv' := [(6, .int 0), (0, .ref ob), (1, .int 2), (2, .int a2), (3, .int 0), (4, .int a4), (5, .int a5)]) hx hb dX10_paste_111 hl (by decide) rfl (fun ls hl => ?_)
                      refine loopX (fun n H locs ls st => ∃ (v_1139 : Int32) (f_1140 : Nat → Int64), (60 - v_1139.toInt).toNat = n ∧ ((0 : Int) ≤ v_1139.toInt ∧ v_1139.toInt ≤ 60) ∧ st = [] ∧ vPD G A H [(ce_X10 ob ob_thrown ob_world ob_images ob_hasImage ob_tape ob_taped ob_five ob_size ob_at ob_from ob_token ob_value ob_faultKind ob_faultPlace ob_fresh ob_parts ob_houses ob_houseMany ob_worthOf ob_byCall ob_over ob_bestSet ob_bestOver ob_bestWorth ob_row ob_tenDebts ob_tenMany ob_fewestBy ob_covered ob_queue ob_cameBy ob_parent ob_met ob_calls ob_callMany ob_calledOn ob_saved ob_many ob_width ob_numbers ob_moving), (ce_i4 y ob_many fob_many), (ce_i4 y ob_width fob_width), (ce_l240 y ob_numbers fob_numbers), (ce_l60 y ob_moving f_1140)] ∧ va_S A s.heap H locs ∧ lv_has ls 7 [(6, .int v_1139), (0, .ref ob), (1, .int 2), (2, .int a2), (3, .int 0), (4, .int a4), (5, .int a5)]) ?_ (n := (60 - (0 : Int32).toInt).toNat) ⟨0, fob_moving, rfl, (bw (0) (60) (bkc (x := 0) (c := 0) (by decide)) (by decide)), rfl, ⟨hP, hD⟩, hS, lv_sub hl [0, 1, 2, 3, 4, 5, 6] rfl⟩
                      rintro n ih_1147 H locs ls st ⟨v_1139, f_1140, hn_1147, bv_1139, rfl, ⟨hP, hD⟩, hS, hl⟩
                      refine lv_iload hx hb dX10_paste_113 (lv_at hl 0 rfl) ?_
                      refine lv_iload hx hb dX10_paste_115 (lv_at hl 6 rfl) ?_
                      refine lv_icmp_ge (tgt := 147) hx hb dX10_paste_117 (by decide) (fun c_1148 => ?_) (fun c_1148 => ?_)
                      · skip
                        have nc_1148 := nb_le (60) (0) c_1148 h_1033 bv_1139 (by decide)
                        refine lv_iconst (v := 0) hx hb dX10_paste_147 (by decide) ?_
                        refine lv_istore (lv' := [(6, .int 0), (0, .ref ob), (1, .int 2), (2, .int a2), (3, .int 0), (4, .int a4), (5, .int a5)]) hx hb dX10_paste_148 hl (by decide) rfl (fun ls hl => ?_)
                        refine loopX (fun n H locs ls st => ∃ (v_1254 : Int32) (f_1255 : Nat → Int64), (60 - v_1254.toInt).toNat = n ∧ ((0 : Int) ≤ v_1254.toInt ∧ v_1254.toInt ≤ 60) ∧ st = [] ∧ vPD G A H [(ce_X10 ob ob_thrown ob_world ob_images ob_hasImage ob_tape ob_taped ob_five ob_size ob_at ob_from ob_token ob_value ob_faultKind ob_faultPlace ob_fresh ob_parts ob_houses ob_houseMany ob_worthOf ob_byCall ob_over ob_bestSet ob_bestOver ob_bestWorth ob_row ob_tenDebts ob_tenMany ob_fewestBy ob_covered ob_queue ob_cameBy ob_parent ob_met ob_calls ob_callMany ob_calledOn ob_saved ob_many ob_width ob_numbers ob_moving), (ce_i4 y ob_many fob_many), (ce_i4 y ob_width fob_width), (ce_l240 y ob_numbers f_1255), (ce_l60 y ob_moving f_1140)] ∧ va_S A s.heap H locs ∧ lv_has ls 7 [(6, .int v_1254), (0, .ref ob), (3, .int 0), (4, .int a4), (5, .int a5)]) ?_ (n := (60 - (0 : Int32).toInt).toNat) ⟨0, fob_numbers, rfl, (bw (0) (60) (bkc (x := 0) (c := 0) (by decide)) (by decide)), rfl, ⟨hP, hD⟩, hS, lv_sub hl [0, 1, 4, 5, 6] rfl⟩
                        rintro n ih_1262 H locs ls st ⟨v_1254, f_1255, hn_1262, bv_1254, rfl, ⟨hP, hD⟩, hS, hl⟩
                        refine lv_iload hx hb dX10_paste_150 (lv_at hl 0 rfl) ?_
                        refine lv_iload hx hb dX10_paste_152 (lv_at hl 4 rfl) ?_
                        refine lv_icmp_ge (tgt := 185) hx hb dX10_paste_154 (by decide) (fun c_1263 => ?_) (fun c_1263 => ?_)
                        · skip
                          have nc_1263 := nb_le (60) (0) c_1263 nc_1148.1 bv_1254 (by decide)
                          refine lv_iconst (v := 0) hx hb dX10_paste_185 (by decide) ?_
                          exact W.iret (v := 0) hx hb hr (fun t ht hW => ⟨⟨0, _, rfl, Or.inr (Or.inr (Or.inr (⟨f_1255, f_1140, h_1031, h_1032, nc_1263.1, by have h90 : Int32.toInt 0 = 0 := (by decide); omega, rfl, rfl⟩))), by rw [ht]; exact hP, hD⟩, hS.F ht⟩) hS.2.2 dX10_paste_186
                        · skip
                          have nc_1263 := nb_nle (59) (1) c_1263 bv_1254 nc_1148.1 (by decide)
                          refine lv_aload_n hx hb dX10_paste_157 rfl (lv_at hl 1 rfl) ?_
                          refine va_get (D := G) (ci := 10) (v := .ref ob_numbers) (C := RX10) (T := TX10) (N := 41) hx hb hw0 inA_wsX100 hown hK.1 hP 0 rfl rfl 39 (by decide) (hw0 _ m_435) (fun _ h9 => h9) rfl dX10_paste_158 ?_
                          refine lv_bipush (v := 60) hx hb dX10_paste_161 (by decide) ?_
                          refine lv_iload_n hx hb dX10_paste_163 rfl (lv_at hl 2 rfl) ?_
                          refine lv_imul hx hb dX10_paste_164 ?_
                          refine lv_topi (fun v_1264 ev_1264 => ?_)
                          obtain rfl : 0 = v_1264 := (ev_1264.trans (by decide)).symm
                          refine lv_iload hx hb dX10_paste_165 (lv_at hl 3 rfl) ?_
                          refine lv_iadd hx hb dX10_paste_167 ?_
                          refine lv_topi (fun v_1265 ev_1265 => ?_)
                          have qv_1265 := ba_add ev_1265 (bkc (x := 0) (c := 0) (by decide)) h_1032 (by decide)
                          have bv_1265 : (0 : Int) ≤ v_1265.toInt ∧ v_1265.toInt ≤ 60 := bq_add qv_1265 (bkc (x := 0) (c := 0) (by decide)) h_1032 _ _ (by decide)
                          have qv_1265 : v_1265.toInt = (0) + a4.toInt := qv_1265
                          refine lv_iload hx hb dX10_paste_168 (lv_at hl 0 rfl) ?_
                          refine lv_iadd hx hb dX10_paste_170 ?_
                          refine lv_topi (fun v_1266 ev_1266 => ?_)
                          have qv_1266 := ba_add ev_1266 bv_1265 nc_1263.1 (by decide)
                          have bv_1266 : (0 : Int) ≤ v_1266.toInt ∧ v_1266.toInt ≤ 119 := bq_add qv_1266 bv_1265 nc_1263.1 _ _ (by decide)
                          refine lv_aload_n hx hb dX10_paste_171 rfl (lv_at hl 1 rfl) ?_
                          refine va_get (D := G) (ci := 10) (v := .ref ob_moving) (C := RX10) (T := TX10) (N := 41) hx hb hw0 inA_wsX100 hown hK.1 hP 0 rfl rfl 40 (by decide) (hw0 _ m_529) (fun _ h9 => h9) rfl dX10_paste_172 ?_
                          refine lv_iload hx hb dX10_paste_175 (lv_at hl 0 rfl) ?_
                          refine va_lald hx hb hK.1 hP 4 2 rfl rfl (vi nc_1263.1 (by decide)) dX10_paste_177 ?_
                          refine lv_topl (fun v_1267 ev_1267 => ?_)
                          refine va_last hx hb hK.1 hP hD hS 3 2 rfl rfl (vi bv_1266 (by decide)) dX10_paste_178 (fun H locs hP hD hS => ?_)
                          generalize hf_1268 : (vp_updL f_1255 (v_1266 : Int32).toNatClampNeg v_1267) = f_1268 at hP hD
                          obtain ⟨hP, hD⟩ : vPD G A H [(ce_X10 ob ob_thrown ob_world ob_images ob_hasImage ob_tape ob_taped ob_five ob_size ob_at ob_from ob_token ob_value ob_faultKind ob_faultPlace ob_fresh ob_parts ob_houses ob_houseMany ob_worthOf ob_byCall ob_over ob_bestSet ob_bestOver ob_bestWorth ob_row ob_tenDebts ob_tenMany ob_fewestBy ob_covered ob_queue ob_cameBy ob_parent ob_met ob_calls ob_callMany ob_calledOn ob_saved ob_many ob_width ob_numbers ob_moving), (ce_i4 y ob_many fob_many), (ce_i4 y ob_width fob_width), (ce_l240 y ob_numbers f_1268), (ce_l60 y ob_moving f_1140)] := ⟨hP, hD⟩
                          obtain ⟨v_1269, ev_1269⟩ : ∃ z : Int32, z = v_1254 + 1 := ⟨_, rfl⟩
                          have qv_1269 := ba_add ev_1269 nc_1263.1 (bkc (x := 1) (c := 1) (by decide)) (by decide)
                          have bv_1269 : (1 : Int) ≤ v_1269.toInt ∧ v_1269.toInt ≤ 60 := bq_add qv_1269 nc_1263.1 (bkc (x := 1) (c := 1) (by decide)) _ _ (by decide)
                          have qv_1269 : v_1269.toInt = v_1254.toInt + (1) := qv_1269
                          refine lv_iinc (v := v_1269) (lv' := [(6, .int v_1269), (0, .ref ob), (3, .int 0), (4, .int a4), (5, .int a5)]) hx hb dX10_paste_179 hl (k := 0) rfl (ev_1269.symm) (by decide) rfl (fun ls hl => ?_)
                          refine lv_goto (tgt := 150) hx hb dX10_paste_182 (by decide) ?_
                          exact ih_1262 _ (ml_inc (hi := 60) hn_1262 qv_1269 (by decide) ((bw (0) (60) bv_1269 (by decide))).2) _ _ _ _ ⟨v_1269, f_1268, rfl, (bw (0) (60) bv_1269 (by decide)), rfl, ⟨hP, hD⟩, hS, lv_sub hl [0, 1, 2, 3, 4] rfl⟩
                      · skip
                        have nc_1148 := nb_nle (59) (1) c_1148 bv_1139 h_1033 (by decide)
                        refine lv_aload_n hx hb dX10_paste_120 rfl (lv_at hl 1 rfl) ?_
                        refine va_get (D := G) (ci := 10) (v := .ref ob_moving) (C := RX10) (T := TX10) (N := 41) hx hb hw0 inA_wsX100 hown hK.1 hP 0 rfl rfl 40 (by decide) (hw0 _ m_529) (fun _ h9 => h9) rfl dX10_paste_121 ?_
                        refine lv_iload hx hb dX10_paste_124 (lv_at hl 0 rfl) ?_
                        refine lv_aload_n hx hb dX10_paste_126 rfl (lv_at hl 1 rfl) ?_
                        refine va_get (D := G) (ci := 10) (v := .ref ob_numbers) (C := RX10) (T := TX10) (N := 41) hx hb hw0 inA_wsX100 hown hK.1 hP 0 rfl rfl 39 (by decide) (hw0 _ m_435) (fun _ h9 => h9) rfl dX10_paste_127 ?_
                        refine lv_bipush (v := 60) hx hb dX10_paste_130 (by decide) ?_
                        refine lv_iload_n hx hb dX10_paste_132 rfl (lv_at hl 2 rfl) ?_
                        refine lv_imul hx hb dX10_paste_133 ?_
                        refine lv_topi (fun v_1270 ev_1270 => ?_)
                        obtain rfl : 120 = v_1270 := (ev_1270.trans (by decide)).symm
                        refine lv_iload_n hx hb dX10_paste_134 rfl (lv_at hl 3 rfl) ?_
                        refine lv_iadd hx hb dX10_paste_135 ?_
                        refine lv_topi (fun v_1271 ev_1271 => ?_)
                        have qv_1271 := ba_add ev_1271 (bkc (x := 120) (c := 120) (by decide)) h_1031 (by decide)
                        have bv_1271 : (120 : Int) ≤ v_1271.toInt ∧ v_1271.toInt ≤ 180 := bq_add qv_1271 (bkc (x := 120) (c := 120) (by decide)) h_1031 _ _ (by decide)
                        have qv_1271 : v_1271.toInt = (120) + a2.toInt := qv_1271
                        refine lv_iload hx hb dX10_paste_136 (lv_at hl 0 rfl) ?_
                        refine lv_iadd hx hb dX10_paste_138 ?_
                        refine lv_topi (fun v_1272 ev_1272 => ?_)
                        have qv_1272 := ba_add ev_1272 bv_1271 nc_1148.1 (by decide)
                        have bv_1272 : (120 : Int) ≤ v_1272.toInt ∧ v_1272.toInt ≤ 239 := bq_add qv_1272 bv_1271 nc_1148.1 _ _ (by decide)
                        refine va_lald hx hb hK.1 hP 3 2 rfl rfl (vi bv_1272 (by decide)) dX10_paste_139 ?_
                        refine lv_topl (fun v_1273 ev_1273 => ?_)
                        refine va_last hx hb hK.1 hP hD hS 4 2 rfl rfl (vi nc_1148.1 (by decide)) dX10_paste_140 (fun H locs hP hD hS => ?_)
                        generalize hf_1274 : (vp_updL f_1140 (v_1139 : Int32).toNatClampNeg v_1273) = f_1274 at hP hD
                        obtain ⟨hP, hD⟩ : vPD G A H [(ce_X10 ob ob_thrown ob_world ob_images ob_hasImage ob_tape ob_taped ob_five ob_size ob_at ob_from ob_token ob_value ob_faultKind ob_faultPlace ob_fresh ob_parts ob_houses ob_houseMany ob_worthOf ob_byCall ob_over ob_bestSet ob_bestOver ob_bestWorth ob_row ob_tenDebts ob_tenMany ob_fewestBy ob_covered ob_queue ob_cameBy ob_parent ob_met ob_calls ob_callMany ob_calledOn ob_saved ob_many ob_width ob_numbers ob_moving), (ce_i4 y ob_many fob_many), (ce_i4 y ob_width fob_width), (ce_l240 y ob_numbers fob_numbers), (ce_l60 y ob_moving f_1274)] := ⟨hP, hD⟩
                        obtain ⟨v_1275, ev_1275⟩ : ∃ z : Int32, z = v_1139 + 1 := ⟨_, rfl⟩
                        have qv_1275 := ba_add ev_1275 nc_1148.1 (bkc (x := 1) (c := 1) (by decide)) (by decide)
                        have bv_1275 : (1 : Int) ≤ v_1275.toInt ∧ v_1275.toInt ≤ 60 := bq_add qv_1275 nc_1148.1 (bkc (x := 1) (c := 1) (by decide)) _ _ (by decide)
                        have qv_1275 : v_1275.toInt = v_1139.toInt + (1) := qv_1275
                        refine lv_iinc (v := v_1275) (lv' := [(6, .int v_1275), (0, .ref ob), (1, .int 2), (2, .int a2), (3, .int 0), (4, .int a4), (5, .int a5)]) hx hb dX10_paste_141 hl (k := 0) rfl (ev_1275.symm) (by decide) rfl (fun ls hl => ?_)
                        refine lv_goto (tgt := 113) hx hb dX10_paste_144 (by decide) ?_
                        exact ih_1147 _ (ml_inc (hi := 60) hn_1147 qv_1275 (by decide) ((bw (0) (60) bv_1275 (by decide))).2) _ _ _ _ ⟨v_1275, f_1274, rfl, (bw (0) (60) bv_1275 (by decide)), rfl, ⟨hP, hD⟩, hS, lv_sub hl [0, 1, 2, 3, 4, 5, 6] rfl⟩
                    · skip
                      have nc_1030 := jl_nle c_1030
                      refine lv_bipush (v := (-7)) hx hb dX10_paste_107 (by decide) ?_
                      exact W.iret (v := (-7)) hx hb hr (fun t ht hW => ⟨⟨(-7), _, rfl, Or.inr (Or.inl (⟨by have h90 : Int32.toInt (-7) = -7 := (by decide); have h91 : Int32.toInt 0 = 0 := (by decide); have h92 : Int32.toInt 2 = 2 := (by decide); omega, rfl, rfl⟩)), by rw [ht]; exact hP, hD⟩, hS.F ht⟩) hS.2.2 dX10_paste_109
          · skip
            have nc_1015 : v_1013.toInt ≠ v_1014.toInt := fun h9 => c_1015 (Int32.toInt_inj.mp h9)
            refine lv_bipush (v := (-8)) hx hb dX10_paste_55 (by decide) ?_
            exact W.iret (v := (-8)) hx hb hr (fun t ht hW => ⟨⟨(-8), _, rfl, Or.inr (Or.inr (Or.inl (⟨by have h90 : Int32.toInt (-8) = -8 := (by decide); have h91 : Int32.toInt 0 = 0 := (by decide); have h92 : Int32.toInt 2 = 2 := (by decide); omega, rfl, rfl⟩))), by rw [ht]; exact hP, hD⟩, hS.F ht⟩) hS.2.2 dX10_paste_57
        · skip
          have nc_1012 := nb_eq (-1) (-1) c_1012 bv_1011 (bkc (x := (-1)) (c := -1) (by decide)) (by decide)
          refine lv_bipush (v := (-6)) hx hb dX10_paste_37 (by decide) ?_
          exact W.iret (v := (-6)) hx hb hr (fun t ht hW => ⟨⟨(-6), _, rfl, Or.inl (⟨by have h90 : Int32.toInt (-6) = -6 := (by decide); have h91 : Int32.toInt 0 = 0 := (by decide); have h92 : Int32.toInt 2 = 2 := (by decide); omega, rfl, rfl⟩), by rw [ht]; exact hP, hD⟩, hS.F ht⟩) hS.2.2 dX10_paste_39

set_option maxHeartbeats 4000000 in
set_option maxRecDepth 100000 in
theorem fpasteM21 (l : Launch) (G : va_G) (y : Nat → ClassId) (sz : Nat) (ob : Nat) (a2 : Int32) (a4 : Int32) (a5 : Int32) (ob_thrown : Int32) (ob_world : Nat) (ob_images : Nat) (ob_hasImage : Nat) (ob_tape : Nat) (ob_taped : Int32) (ob_five : Nat) (ob_size : Int32) (ob_at : Int32) (ob_from : Int32) (ob_token : Int32) (ob_value : Int32) (ob_faultKind : Int32) (ob_faultPlace : Int32) (ob_fresh : Nat) (ob_parts : Nat) (ob_houses : Nat) (ob_houseMany : Int32) (ob_worthOf : Nat) (ob_byCall : Nat) (ob_over : Nat) (ob_bestSet : Int32) (ob_bestOver : Int32) (ob_bestWorth : Int32) (ob_row : Nat) (ob_tenDebts : Nat) (ob_tenMany : Int32) (ob_fewestBy : Nat) (ob_covered : Nat) (ob_queue : Nat) (ob_cameBy : Nat) (ob_parent : Nat) (ob_met : Nat) (ob_calls : Nat) (ob_callMany : Int32) (ob_calledOn : Nat) (ob_saved : Nat) (ob_many : Nat) (ob_width : Nat) (ob_numbers : Nat) (ob_moving : Nat) (fob_many : Nat → Int32) (fob_width : Nat → Int32) (fob_numbers : Nat → Int64) (fob_moving : Nat → Int64) (p_ob_taped : (0 : Int) ≤ ob_taped.toInt ∧ ob_taped.toInt ≤ 1400) (p_ob_size : (0 : Int) ≤ ob_size.toInt ∧ ob_size.toInt ≤ 1400) (p_ob_at : (0 : Int) ≤ ob_at.toInt ∧ ob_at.toInt ≤ 1400) (p_ob_from : (0 : Int) ≤ ob_from.toInt ∧ ob_from.toInt ≤ 1400) (p_ob_token : (0 : Int) ≤ ob_token.toInt ∧ ob_token.toInt ≤ 4) (p_ob_value : (0 : Int) ≤ ob_value.toInt ∧ ob_value.toInt ≤ 9999) (p_ob_faultKind : (0 : Int) ≤ ob_faultKind.toInt ∧ ob_faultKind.toInt ≤ 3) (p_ob_houseMany : (0 : Int) ≤ ob_houseMany.toInt ∧ ob_houseMany.toInt ≤ 10) (p_ob_bestSet : (0 : Int) ≤ ob_bestSet.toInt ∧ ob_bestSet.toInt ≤ 1023) (p_ob_bestOver : (-1 : Int) ≤ ob_bestOver.toInt ∧ ob_bestOver.toInt ≤ 180) (p_ob_tenMany : (0 : Int) ≤ ob_tenMany.toInt ∧ ob_tenMany.toInt ≤ 10) (p_ob_callMany : (0 : Int) ≤ ob_callMany.toInt ∧ ob_callMany.toInt ≤ 16) (p_fob_many : ∀ i, (-1 : Int) ≤ (fob_many i).toInt ∧ (fob_many i).toInt ≤ 60) (p_fob_width : ∀ i, (0 : Int) ≤ (fob_width i).toInt ∧ (fob_width i).toInt ≤ 3) : Met l yX10_paste (Cond.code yX10_paste cX10_paste 7 (some .int) :: wAll) ({ frames := 2, cells := 0, slots := 0, locals := 45 }) (va_Pc [.ref ob, .int 2, .int a2, .int 1, .int a4, .int a5] (kp G y sz [(ce_X10 ob ob_thrown ob_world ob_images ob_hasImage ob_tape ob_taped ob_five ob_size ob_at ob_from ob_token ob_value ob_faultKind ob_faultPlace ob_fresh ob_parts ob_houses ob_houseMany ob_worthOf ob_byCall ob_over ob_bestSet ob_bestOver ob_bestWorth ob_row ob_tenDebts ob_tenMany ob_fewestBy ob_covered ob_queue ob_cameBy ob_parent ob_met ob_calls ob_callMany ob_calledOn ob_saved ob_many ob_width ob_numbers ob_moving), (ce_i4 y ob_many fob_many), (ce_i4 y ob_width fob_width), (ce_l240 y ob_numbers fob_numbers), (ce_l60 y ob_moving fob_moving)])) (va_Qi (fun (r : Int32) (w : va_W) => (((fob_many 2).toInt = -1 ∨ (fob_many 1).toInt = -1) ∧ r = (-6) ∧ w = [(ce_X10 ob ob_thrown ob_world ob_images ob_hasImage ob_tape ob_taped ob_five ob_size ob_at ob_from ob_token ob_value ob_faultKind ob_faultPlace ob_fresh ob_parts ob_houses ob_houseMany ob_worthOf ob_byCall ob_over ob_bestSet ob_bestOver ob_bestWorth ob_row ob_tenDebts ob_tenMany ob_fewestBy ob_covered ob_queue ob_cameBy ob_parent ob_met ob_calls ob_callMany ob_calledOn ob_saved ob_many ob_width ob_numbers ob_moving), (ce_i4 y ob_many fob_many), (ce_i4 y ob_width fob_width), (ce_l240 y ob_numbers fob_numbers), (ce_l60 y ob_moving fob_moving)]) ∨ ((¬ (fob_many 2).toInt = -1 ∧ ¬ (fob_many 1).toInt = -1 ∧ (fob_width 2).toInt = (fob_width 1).toInt ∧ ¬ (0 ≤ a2.toInt ∧ 0 ≤ a4.toInt ∧ 0 ≤ a5.toInt ∧ a2.toInt + a5.toInt ≤ (fob_many 2).toInt ∧ a4.toInt + a5.toInt ≤ (fob_many 1).toInt)) ∧ r = (-7) ∧ w = [(ce_X10 ob ob_thrown ob_world ob_images ob_hasImage ob_tape ob_taped ob_five ob_size ob_at ob_from ob_token ob_value ob_faultKind ob_faultPlace ob_fresh ob_parts ob_houses ob_houseMany ob_worthOf ob_byCall ob_over ob_bestSet ob_bestOver ob_bestWorth ob_row ob_tenDebts ob_tenMany ob_fewestBy ob_covered ob_queue ob_cameBy ob_parent ob_met ob_calls ob_callMany ob_calledOn ob_saved ob_many ob_width ob_numbers ob_moving), (ce_i4 y ob_many fob_many), (ce_i4 y ob_width fob_width), (ce_l240 y ob_numbers fob_numbers), (ce_l60 y ob_moving fob_moving)]) ∨ ((¬ (fob_many 2).toInt = -1 ∧ ¬ (fob_many 1).toInt = -1 ∧ ¬ (fob_width 2).toInt = (fob_width 1).toInt) ∧ r = (-8) ∧ w = [(ce_X10 ob ob_thrown ob_world ob_images ob_hasImage ob_tape ob_taped ob_five ob_size ob_at ob_from ob_token ob_value ob_faultKind ob_faultPlace ob_fresh ob_parts ob_houses ob_houseMany ob_worthOf ob_byCall ob_over ob_bestSet ob_bestOver ob_bestWorth ob_row ob_tenDebts ob_tenMany ob_fewestBy ob_covered ob_queue ob_cameBy ob_parent ob_met ob_calls ob_callMany ob_calledOn ob_saved ob_many ob_width ob_numbers ob_moving), (ce_i4 y ob_many fob_many), (ce_i4 y ob_width fob_width), (ce_l240 y ob_numbers fob_numbers), (ce_l60 y ob_moving fob_moving)]) ∨ (∃ (f_551 : Nat → Int64) (f_552 : Nat → Int64), ((0 : Int) ≤ a2.toInt ∧ a2.toInt ≤ 60) ∧ ((0 : Int) ≤ a4.toInt ∧ a4.toInt ≤ 60) ∧ ((0 : Int) ≤ a5.toInt ∧ a5.toInt ≤ 60) ∧ (¬ (fob_many 2).toInt = -1 ∧ ¬ (fob_many 1).toInt = -1 ∧ (fob_width 2).toInt = (fob_width 1).toInt ∧ 0 ≤ a2.toInt ∧ 0 ≤ a4.toInt ∧ 0 ≤ a5.toInt ∧ a2.toInt + a5.toInt ≤ (fob_many 2).toInt ∧ a4.toInt + a5.toInt ≤ (fob_many 1).toInt) ∧ r = 0 ∧ w = [(ce_X10 ob ob_thrown ob_world ob_images ob_hasImage ob_tape ob_taped ob_five ob_size ob_at ob_from ob_token ob_value ob_faultKind ob_faultPlace ob_fresh ob_parts ob_houses ob_houseMany ob_worthOf ob_byCall ob_over ob_bestSet ob_bestOver ob_bestWorth ob_row ob_tenDebts ob_tenMany ob_fewestBy ob_covered ob_queue ob_cameBy ob_parent ob_met ob_calls ob_callMany ob_calledOn ob_saved ob_many ob_width ob_numbers ob_moving), (ce_i4 y ob_many fob_many), (ce_i4 y ob_width fob_width), (ce_l240 y ob_numbers f_551), (ce_l60 y ob_moving f_552)])) (kq G (va_A [(ce_X10 ob ob_thrown ob_world ob_images ob_hasImage ob_tape ob_taped ob_five ob_size ob_at ob_from ob_token ob_value ob_faultKind ob_faultPlace ob_fresh ob_parts ob_houses ob_houseMany ob_worthOf ob_byCall ob_over ob_bestSet ob_bestOver ob_bestWorth ob_row ob_tenDebts ob_tenMany ob_fewestBy ob_covered ob_queue ob_cameBy ob_parent ob_met ob_calls ob_callMany ob_calledOn ob_saved ob_many ob_width ob_numbers ob_moving), (ce_i4 y ob_many fob_many), (ce_i4 y ob_width fob_width), (ce_l240 y ob_numbers fob_numbers), (ce_l60 y ob_moving fob_moving)] sz)) (va_A [(ce_X10 ob ob_thrown ob_world ob_images ob_hasImage ob_tape ob_taped ob_five ob_size ob_at ob_from ob_token ob_value ob_faultKind ob_faultPlace ob_fresh ob_parts ob_houses ob_houseMany ob_worthOf ob_byCall ob_over ob_bestSet ob_bestOver ob_bestWorth ob_row ob_tenDebts ob_tenMany ob_fewestBy ob_covered ob_queue ob_cameBy ob_parent ob_met ob_calls ob_callMany ob_calledOn ob_saved ob_many ob_width ob_numbers ob_moving), (ce_i4 y ob_many fob_many), (ce_i4 y ob_width fob_width), (ce_l240 y ob_numbers fob_numbers), (ce_l60 y ob_moving fob_moving)] sz)) 0 0 (va_A [(ce_X10 ob ob_thrown ob_world ob_images ob_hasImage ob_tape ob_taped ob_five ob_size ob_at ob_from ob_token ob_value ob_faultKind ob_faultPlace ob_fresh ob_parts ob_houses ob_houseMany ob_worthOf ob_byCall ob_over ob_bestSet ob_bestOver ob_bestWorth ob_row ob_tenDebts ob_tenMany ob_fewestBy ob_covered ob_queue ob_cameBy ob_parent ob_met ob_calls ob_callMany ob_calledOn ob_saved ob_many ob_width ob_numbers ob_moving), (ce_i4 y ob_many fob_many), (ce_i4 y ob_width fob_width), (ce_l240 y ob_numbers fob_numbers), (ce_l60 y ob_moving fob_moving)] sz) := by
  refine Met.ofW (cc := cX10_paste) (maxL := 7) (ret := (some .int)) (by decide) rfl ?_
  intro p e s m args below meth c s₁ B hml hv
  obtain ⟨rfl, hsz, hP, hK, hD0⟩ := hv
  have hx := B.exec
  have hb := B.bytes
  have hr := B.returns
  have hw0 : ∀ w ∈ wAll, w.before _ s = true := fun w h => atoms_spec (ws := Cond.code yX10_paste cX10_paste 7 (some .int) :: wAll) B.pre w (List.mem_cons_of_mem _ h)
  have hown : s.vm.findClass RX10 = some m.cls := findClass_of_methodNamed B.named
  subst hsz
  have hD := hD0.self (sz := s.heap.size)
  generalize hAe : va_A [(ce_X10 ob ob_thrown ob_world ob_images ob_hasImage ob_tape ob_taped ob_five ob_size ob_at ob_from ob_token ob_value ob_faultKind ob_faultPlace ob_fresh ob_parts ob_houses ob_houseMany ob_worthOf ob_byCall ob_over ob_bestSet ob_bestOver ob_bestWorth ob_row ob_tenDebts ob_tenMany ob_fewestBy ob_covered ob_queue ob_cameBy ob_parent ob_met ob_calls ob_callMany ob_calledOn ob_saved ob_many ob_width ob_numbers ob_moving), (ce_i4 y ob_many fob_many), (ce_i4 y ob_width fob_width), (ce_l240 y ob_numbers fob_numbers), (ce_l60 y ob_moving fob_moving)] s.heap.size = A at hD ⊢
  have hA : ∀ q : Nat, s.heap.size ≤ q → A q := fun q h => by rw [← hAe]; exact Or.inr h
  have hS : va_S A s.heap s.heap [] := va_S.rf
  have hP : va_P G vwCl [(ce_X10 ob ob_thrown ob_world ob_images ob_hasImage ob_tape ob_taped ob_five ob_size ob_at ob_from ob_token ob_value ob_faultKind ob_faultPlace ob_fresh ob_parts ob_houses ob_houseMany ob_worthOf ob_byCall ob_over ob_bestSet ob_bestOver ob_bestWorth ob_row ob_tenDebts ob_tenMany ob_fewestBy ob_covered ob_queue ob_cameBy ob_parent ob_met ob_calls ob_callMany ob_calledOn ob_saved ob_many ob_width ob_numbers ob_moving), (ce_i4 y ob_many fob_many), (ce_i4 y ob_width fob_width), (ce_l240 y ob_numbers fob_numbers), (ce_l60 y ob_moving fob_moving)] s.heap := hP
  have hl := lv_entry ([.ref ob, .int 2, .int a2, .int 1, .int a4, .int a5]) (n := 7) (Nat.le_of_ble_eq_true rfl)
  rw [lg_entry_eq]
  generalize (lg_sl ([.ref ob, .int 2, .int a2, .int 1, .int a4, .int a5]) ++ List.replicate (7 - (lg_sl ([.ref ob, .int 2, .int a2, .int 1, .int a4, .int a5])).length) Slot.unset).toArray = ls at hl ⊢
  have hl : lv_has ls 7 [(0, .ref ob), (1, .int 2), (2, .int a2), (3, .int 1), (4, .int a4), (5, .int a5)] := hl
  refine lv_iload_n hx hb dX10_paste_0 rfl (lv_at hl 1 rfl) ?_
  refine cSim (As := [.int 2]) (rest := []) ⟨hx, hb, hml, hown, hw0⟩ hA hK hP hD hS [] (fisSlotM l G y _ 2 ) rfl ⟨(callB_of 1 hw0 (gA m_543) rfl rfl rfl (hw0 _ m_41) (hw0 _ m_433) cb_X10_isSlot ⟨Nat.le_of_ble_eq_true rfl, Nat.le_of_ble_eq_true rfl⟩), (hw0 _ m_434)⟩ rfl hl.1 (Nat.le_of_ble_eq_true rfl) dX10_paste_1 ⟨Nat.le_of_ble_eq_true rfl, Nat.le_of_ble_eq_true rfl⟩ (fun r_1001 w_1001 H locs hw_1001 hP hD hS => ?_)
  rcases hw_1001 with ⟨h_1002, rfl, rfl⟩ | ⟨h_1003, h_1004, rfl, rfl⟩
  · skip
    exact False.elim (by have h9 : Int32.toInt 2 = 2 := (by decide); omega)
  · skip
    obtain ⟨hP, hD⟩ : vPD G A H [(ce_X10 ob ob_thrown ob_world ob_images ob_hasImage ob_tape ob_taped ob_five ob_size ob_at ob_from ob_token ob_value ob_faultKind ob_faultPlace ob_fresh ob_parts ob_houses ob_houseMany ob_worthOf ob_byCall ob_over ob_bestSet ob_bestOver ob_bestWorth ob_row ob_tenDebts ob_tenMany ob_fewestBy ob_covered ob_queue ob_cameBy ob_parent ob_met ob_calls ob_callMany ob_calledOn ob_saved ob_many ob_width ob_numbers ob_moving), (ce_i4 y ob_many fob_many), (ce_i4 y ob_width fob_width), (ce_l240 y ob_numbers fob_numbers), (ce_l60 y ob_moving fob_moving)] := ⟨hP, hD⟩
    refine lv_if_eq (tgt := 14) hx hb dX10_paste_4 (by decide) (fun c9 => absurd c9 (by decide)) (fun _ => ?_)
    refine lv_iload_n hx hb dX10_paste_7 rfl (lv_at hl 3 rfl) ?_
    refine cSim (As := [.int 1]) (rest := []) ⟨hx, hb, hml, hown, hw0⟩ hA hK hP hD hS [] (fisSlotM l G y _ 1 ) rfl ⟨(callB_of 1 hw0 (gA m_543) rfl rfl rfl (hw0 _ m_41) (hw0 _ m_433) cb_X10_isSlot ⟨Nat.le_of_ble_eq_true rfl, Nat.le_of_ble_eq_true rfl⟩), (hw0 _ m_434)⟩ rfl hl.1 (Nat.le_of_ble_eq_true rfl) dX10_paste_8 ⟨Nat.le_of_ble_eq_true rfl, Nat.le_of_ble_eq_true rfl⟩ (fun r_1005 w_1005 H locs hw_1005 hP hD hS => ?_)
    rcases hw_1005 with ⟨h_1006, rfl, rfl⟩ | ⟨h_1007, h_1008, rfl, rfl⟩
    · skip
      exact False.elim (by have h9 : Int32.toInt 1 = 1 := (by decide); omega)
    · skip
      obtain ⟨hP, hD⟩ : vPD G A H [(ce_X10 ob ob_thrown ob_world ob_images ob_hasImage ob_tape ob_taped ob_five ob_size ob_at ob_from ob_token ob_value ob_faultKind ob_faultPlace ob_fresh ob_parts ob_houses ob_houseMany ob_worthOf ob_byCall ob_over ob_bestSet ob_bestOver ob_bestWorth ob_row ob_tenDebts ob_tenMany ob_fewestBy ob_covered ob_queue ob_cameBy ob_parent ob_met ob_calls ob_callMany ob_calledOn ob_saved ob_many ob_width ob_numbers ob_moving), (ce_i4 y ob_many fob_many), (ce_i4 y ob_width fob_width), (ce_l240 y ob_numbers fob_numbers), (ce_l60 y ob_moving fob_moving)] := ⟨hP, hD⟩
      refine lv_if_ne (tgt := 17) hx hb dX10_paste_11 (by decide) (fun _ => ?_) (fun c9 => absurd c9 (by decide))
      refine lv_aload_n hx hb dX10_paste_17 rfl (lv_at hl 0 rfl) ?_
      refine va_get (D := G) (ci := 10) (v := .ref ob_many) (C := RX10) (T := TX10) (N := 41) hx hb hw0 inA_wsX100 hown hK.1 hP 0 rfl rfl 37 (by decide) (hw0 _ m_406) (fun _ h9 => h9) rfl dX10_paste_18 ?_
      refine lv_iload_n hx hb dX10_paste_21 rfl (lv_at hl 1 rfl) ?_
      refine va_iald hx hb hK.1 hP 1 1 rfl rfl (vi (bkc (x := 2) (c := 2) (by decide)) (by decide)) dX10_paste_22 ?_
      refine lv_topi (fun v_1009 ev_1009 => ?_)
      have bv_1009 : (-1 : Int) ≤ v_1009.toInt ∧ v_1009.toInt ≤ 60 := rd_b ev_1009 p_fob_many
      have yv_1009 : v_1009.toInt = (fob_many 2).toInt := congrArg Int32.toInt ev_1009
      refine lv_iconst (v := (-1)) hx hb dX10_paste_23 (by decide) ?_
      refine lv_icmp_eq (tgt := 37) hx hb dX10_paste_24 (by decide) (fun c_1010 => ?_) (fun c_1010 => ?_)
      · skip
        have nc_1010 := nb_eq (-1) (-1) c_1010 bv_1009 (bkc (x := (-1)) (c := -1) (by decide)) (by decide)
        refine lv_bipush (v := (-6)) hx hb dX10_paste_37 (by decide) ?_
        exact W.iret (v := (-6)) hx hb hr (fun t ht hW => ⟨⟨(-6), _, rfl, Or.inl (⟨by have h90 : Int32.toInt (-6) = -6 := (by decide); have h91 : Int32.toInt 1 = 1 := (by decide); have h92 : Int32.toInt 2 = 2 := (by decide); omega, rfl, rfl⟩), by rw [ht]; exact hP, hD⟩, hS.F ht⟩) hS.2.2 dX10_paste_39
      · skip
        have nc_1010 := nb_ne (0) (60) c_1010 bv_1009 (k := -1) (by decide) (by decide)
        refine lv_aload_n hx hb dX10_paste_27 rfl (lv_at hl 0 rfl) ?_
        refine va_get (D := G) (ci := 10) (v := .ref ob_many) (C := RX10) (T := TX10) (N := 41) hx hb hw0 inA_wsX100 hown hK.1 hP 0 rfl rfl 37 (by decide) (hw0 _ m_406) (fun _ h9 => h9) rfl dX10_paste_28 ?_
        refine lv_iload_n hx hb dX10_paste_31 rfl (lv_at hl 3 rfl) ?_
        refine va_iald hx hb hK.1 hP 1 1 rfl rfl (vi (bkc (x := 1) (c := 1) (by decide)) (by decide)) dX10_paste_32 ?_
        refine lv_topi (fun v_1011 ev_1011 => ?_)
        have bv_1011 : (-1 : Int) ≤ v_1011.toInt ∧ v_1011.toInt ≤ 60 := rd_b ev_1011 p_fob_many
        have yv_1011 : v_1011.toInt = (fob_many 1).toInt := congrArg Int32.toInt ev_1011
        refine lv_iconst (v := (-1)) hx hb dX10_paste_33 (by decide) ?_
        refine lv_icmp_ne (tgt := 40) hx hb dX10_paste_34 (by decide) (fun c_1012 => ?_) (fun c_1012 => ?_)
        · skip
          have nc_1012 := nb_ne (0) (60) c_1012 bv_1011 (k := -1) (by decide) (by decide)
          refine lv_aload_n hx hb dX10_paste_40 rfl (lv_at hl 0 rfl) ?_
          refine va_get (D := G) (ci := 10) (v := .ref ob_width) (C := RX10) (T := TX10) (N := 41) hx hb hw0 inA_wsX100 hown hK.1 hP 0 rfl rfl 38 (by decide) (hw0 _ m_527) (fun _ h9 => h9) rfl dX10_paste_41 ?_
          refine lv_iload_n hx hb dX10_paste_44 rfl (lv_at hl 1 rfl) ?_
          refine va_iald hx hb hK.1 hP 2 1 rfl rfl (vi (bkc (x := 2) (c := 2) (by decide)) (by decide)) dX10_paste_45 ?_
          refine lv_topi (fun v_1013 ev_1013 => ?_)
          have bv_1013 : (0 : Int) ≤ v_1013.toInt ∧ v_1013.toInt ≤ 3 := rd_b ev_1013 p_fob_width
          have yv_1013 : v_1013.toInt = (fob_width 2).toInt := congrArg Int32.toInt ev_1013
          refine lv_aload_n hx hb dX10_paste_46 rfl (lv_at hl 0 rfl) ?_
          refine va_get (D := G) (ci := 10) (v := .ref ob_width) (C := RX10) (T := TX10) (N := 41) hx hb hw0 inA_wsX100 hown hK.1 hP 0 rfl rfl 38 (by decide) (hw0 _ m_527) (fun _ h9 => h9) rfl dX10_paste_47 ?_
          refine lv_iload_n hx hb dX10_paste_50 rfl (lv_at hl 3 rfl) ?_
          refine va_iald hx hb hK.1 hP 2 1 rfl rfl (vi (bkc (x := 1) (c := 1) (by decide)) (by decide)) dX10_paste_51 ?_
          refine lv_topi (fun v_1014 ev_1014 => ?_)
          have bv_1014 : (0 : Int) ≤ v_1014.toInt ∧ v_1014.toInt ≤ 3 := rd_b ev_1014 p_fob_width
          have yv_1014 : v_1014.toInt = (fob_width 1).toInt := congrArg Int32.toInt ev_1014
          refine lv_icmp_eq (tgt := 58) hx hb dX10_paste_52 (by decide) (fun c_1015 => ?_) (fun c_1015 => ?_)
          · skip
            have nc_1015 := nb_eq (0) (3) c_1015 bv_1013 bv_1014 (by decide)
            refine lv_iload_n hx hb dX10_paste_58 rfl (lv_at hl 2 rfl) ?_
            refine lv_if_lt (tgt := 107) hx hb dX10_paste_59 (by decide) (fun c_1016 => ?_) (fun c_1016 => ?_)
            · skip
              have nc_1016 := nb_lt (-1) (0) c_1016 (btop a2) (bkc (x := 0) (c := 0) (by decide)) (by decide)
              refine lv_bipush (v := (-7)) hx hb dX10_paste_107 (by decide) ?_
              exact W.iret (v := (-7)) hx hb hr (fun t ht hW => ⟨⟨(-7), _, rfl, Or.inr (Or.inl (⟨by have h90 : Int32.toInt (-7) = -7 := (by decide); have h91 : Int32.toInt 1 = 1 := (by decide); have h92 : Int32.toInt 2 = 2 := (by decide); omega, rfl, rfl⟩)), by rw [ht]; exact hP, hD⟩, hS.F ht⟩) hS.2.2 dX10_paste_109
            · skip
              have nc_1016 := nb_nlt (0) (0) c_1016 (bkc (x := 0) (c := 0) (by decide)) (btop a2) (by decide)
              refine lv_iload hx hb dX10_paste_62 (lv_at hl 4 rfl) ?_
              refine lv_if_lt (tgt := 107) hx hb dX10_paste_64 (by decide) (fun c_1017 => ?_) (fun c_1017 => ?_)
              · skip
                have nc_1017 := nb_lt (-1) (0) c_1017 (btop a4) (bkc (x := 0) (c := 0) (by decide)) (by decide)
                refine lv_bipush (v := (-7)) hx hb dX10_paste_107 (by decide) ?_
                exact W.iret (v := (-7)) hx hb hr (fun t ht hW => ⟨⟨(-7), _, rfl, Or.inr (Or.inl (⟨by have h90 : Int32.toInt (-7) = -7 := (by decide); have h91 : Int32.toInt 1 = 1 := (by decide); have h92 : Int32.toInt 2 = 2 := (by decide); omega, rfl, rfl⟩)), by rw [ht]; exact hP, hD⟩, hS.F ht⟩) hS.2.2 dX10_paste_109
              · skip
                have nc_1017 := nb_nlt (0) (0) c_1017 (bkc (x := 0) (c := 0) (by decide)) (btop a4) (by decide)
                refine lv_iload hx hb dX10_paste_67 (lv_at hl 5 rfl) ?_
                refine lv_if_lt (tgt := 107) hx hb dX10_paste_69 (by decide) (fun c_1018 => ?_) (fun c_1018 => ?_)
                · skip
                  have nc_1018 := nb_lt (-1) (0) c_1018 (btop a5) (bkc (x := 0) (c := 0) (by decide)) (by decide)
                  refine lv_bipush (v := (-7)) hx hb dX10_paste_107 (by decide) ?_
                  exact W.iret (v := (-7)) hx hb hr (fun t ht hW => ⟨⟨(-7), _, rfl, Or.inr (Or.inl (⟨by have h90 : Int32.toInt (-7) = -7 := (by decide); have h91 : Int32.toInt 1 = 1 := (by decide); have h92 : Int32.toInt 2 = 2 := (by decide); omega, rfl, rfl⟩)), by rw [ht]; exact hP, hD⟩, hS.F ht⟩) hS.2.2 dX10_paste_109
                · skip
                  have nc_1018 := nb_nlt (0) (0) c_1018 (bkc (x := 0) (c := 0) (by decide)) (btop a5) (by decide)
                  refine lv_iload_n hx hb dX10_paste_72 rfl (lv_at hl 2 rfl) ?_
                  refine lv_i2l hx hb dX10_paste_73 rfl ?_
                  have kk_1019 : ((a2).toInt64).toInt = (a2).toInt := Int32.toInt_toInt64 _
                  refine lv_iload hx hb dX10_paste_74 (lv_at hl 5 rfl) ?_
                  refine lv_i2l hx hb dX10_paste_76 rfl ?_
                  have kk_1020 : ((a5).toInt64).toInt = (a5).toInt := Int32.toInt_toInt64 _
                  refine lv_ladd hx hb dX10_paste_77 ?_
                  refine lv_topl (fun v_1021 ev_1021 => ?_)
                  have qv_1021 := la_add ev_1021
                  refine lv_aload_n hx hb dX10_paste_78 rfl (lv_at hl 0 rfl) ?_
                  refine va_get (D := G) (ci := 10) (v := .ref ob_many) (C := RX10) (T := TX10) (N := 41) hx hb hw0 inA_wsX100 hown hK.1 hP 0 rfl rfl 37 (by decide) (hw0 _ m_406) (fun _ h9 => h9) rfl dX10_paste_79 ?_
                  refine lv_iload_n hx hb dX10_paste_82 rfl (lv_at hl 1 rfl) ?_
                  refine va_iald hx hb hK.1 hP 1 1 rfl rfl (vi (bkc (x := 2) (c := 2) (by decide)) (by decide)) dX10_paste_83 ?_
                  refine lv_topi (fun v_1022 ev_1022 => ?_)
                  obtain rfl : v_1009 = v_1022 := (ev_1022.trans (ev_1009.symm)).symm
                  refine lv_i2l hx hb dX10_paste_84 rfl ?_
                  have kk_1023 : ((v_1009).toInt64).toInt = (v_1009).toInt := Int32.toInt_toInt64 _
                  refine W.lcmp hx hb dX10_paste_85 ?_
                  refine lv_if_gt (tgt := 107) hx hb dX10_paste_86 (by decide) (fun c_1024 => ?_) (fun c_1024 => ?_)
                  · skip
                    have nc_1024 := jl_gt c_1024
                    refine lv_bipush (v := (-7)) hx hb dX10_paste_107 (by decide) ?_
                    exact W.iret (v := (-7)) hx hb hr (fun t ht hW => ⟨⟨(-7), _, rfl, Or.inr (Or.inl (⟨by have h90 : Int32.toInt (-7) = -7 := (by decide); have h91 : Int32.toInt 1 = 1 := (by decide); have h92 : Int32.toInt 2 = 2 := (by decide); omega, rfl, rfl⟩)), by rw [ht]; exact hP, hD⟩, hS.F ht⟩) hS.2.2 dX10_paste_109
                  · skip
                    have nc_1024 := jl_ngt c_1024
                    refine lv_iload hx hb dX10_paste_89 (lv_at hl 4 rfl) ?_
                    refine lv_i2l hx hb dX10_paste_91 rfl ?_
                    have kk_1025 : ((a4).toInt64).toInt = (a4).toInt := Int32.toInt_toInt64 _
                    refine lv_iload hx hb dX10_paste_92 (lv_at hl 5 rfl) ?_
                    refine lv_i2l hx hb dX10_paste_94 rfl ?_
                    have kk_1026 : ((a5).toInt64).toInt = (a5).toInt := Int32.toInt_toInt64 _
                    refine lv_ladd hx hb dX10_paste_95 ?_
                    refine lv_topl (fun v_1027 ev_1027 => ?_)
                    have qv_1027 := la_add ev_1027
                    refine lv_aload_n hx hb dX10_paste_96 rfl (lv_at hl 0 rfl) ?_
                    refine va_get (D := G) (ci := 10) (v := .ref ob_many) (C := RX10) (T := TX10) (N := 41) hx hb hw0 inA_wsX100 hown hK.1 hP 0 rfl rfl 37 (by decide) (hw0 _ m_406) (fun _ h9 => h9) rfl dX10_paste_97 ?_
                    refine lv_iload_n hx hb dX10_paste_100 rfl (lv_at hl 3 rfl) ?_
                    refine va_iald hx hb hK.1 hP 1 1 rfl rfl (vi (bkc (x := 1) (c := 1) (by decide)) (by decide)) dX10_paste_101 ?_
                    refine lv_topi (fun v_1028 ev_1028 => ?_)
                    obtain rfl : v_1011 = v_1028 := (ev_1028.trans (ev_1011.symm)).symm
                    refine lv_i2l hx hb dX10_paste_102 rfl ?_
                    have kk_1029 : ((v_1011).toInt64).toInt = (v_1011).toInt := Int32.toInt_toInt64 _
                    refine W.lcmp hx hb dX10_paste_103 ?_
                    refine lv_if_le (tgt := 110) hx hb dX10_paste_104 (by decide) (fun c_1030 => ?_) (fun c_1030 => ?_)
                    · skip
                      have nc_1030 := jl_le c_1030
                      have h_1031 : (0 : Int) ≤ a2.toInt ∧ a2.toInt ≤ 60 := by omega
                      have h_1032 : (0 : Int) ≤ a4.toInt ∧ a4.toInt ≤ 60 := by omega
                      have h_1033 : (0 : Int) ≤ a5.toInt ∧ a5.toInt ≤ 60 := by omega
                      refine lv_iconst (v := 0) hx hb dX10_paste_110 (by decide) ?_
                      refine lv_istore (lv' := [(6, .int 0), (0, .ref ob), (1, .int 2), (2, .int a2), (3, .int 1), (4, .int a4), (5, .int a5)]) hx hb dX10_paste_111 hl (by decide) rfl (fun ls hl => ?_)
                      refine loopX (fun n H locs ls st => ∃ (v_1139 : Int32) (f_1140 : Nat → Int64), (60 - v_1139.toInt).toNat = n ∧ ((0 : Int) ≤ v_1139.toInt ∧ v_1139.toInt ≤ 60) ∧ st = [] ∧ vPD G A H [(ce_X10 ob ob_thrown ob_world ob_images ob_hasImage ob_tape ob_taped ob_five ob_size ob_at ob_from ob_token ob_value ob_faultKind ob_faultPlace ob_fresh ob_parts ob_houses ob_houseMany ob_worthOf ob_byCall ob_over ob_bestSet ob_bestOver ob_bestWorth ob_row ob_tenDebts ob_tenMany ob_fewestBy ob_covered ob_queue ob_cameBy ob_parent ob_met ob_calls ob_callMany ob_calledOn ob_saved ob_many ob_width ob_numbers ob_moving), (ce_i4 y ob_many fob_many), (ce_i4 y ob_width fob_width), (ce_l240 y ob_numbers fob_numbers), (ce_l60 y ob_moving f_1140)] ∧ va_S A s.heap H locs ∧ lv_has ls 7 [(6, .int v_1139), (0, .ref ob), (1, .int 2), (2, .int a2), (3, .int 1), (4, .int a4), (5, .int a5)]) ?_ (n := (60 - (0 : Int32).toInt).toNat) ⟨0, fob_moving, rfl, (bw (0) (60) (bkc (x := 0) (c := 0) (by decide)) (by decide)), rfl, ⟨hP, hD⟩, hS, lv_sub hl [0, 1, 2, 3, 4, 5, 6] rfl⟩
                      rintro n ih_1147 H locs ls st ⟨v_1139, f_1140, hn_1147, bv_1139, rfl, ⟨hP, hD⟩, hS, hl⟩
                      refine lv_iload hx hb dX10_paste_113 (lv_at hl 0 rfl) ?_
                      refine lv_iload hx hb dX10_paste_115 (lv_at hl 6 rfl) ?_
                      refine lv_icmp_ge (tgt := 147) hx hb dX10_paste_117 (by decide) (fun c_1148 => ?_) (fun c_1148 => ?_)
                      · skip
                        have nc_1148 := nb_le (60) (0) c_1148 h_1033 bv_1139 (by decide)
                        refine lv_iconst (v := 0) hx hb dX10_paste_147 (by decide) ?_
                        refine lv_istore (lv' := [(6, .int 0), (0, .ref ob), (1, .int 2), (2, .int a2), (3, .int 1), (4, .int a4), (5, .int a5)]) hx hb dX10_paste_148 hl (by decide) rfl (fun ls hl => ?_)
                        refine loopX (fun n H locs ls st => ∃ (v_1254 : Int32) (f_1255 : Nat → Int64), (60 - v_1254.toInt).toNat = n ∧ ((0 : Int) ≤ v_1254.toInt ∧ v_1254.toInt ≤ 60) ∧ st = [] ∧ vPD G A H [(ce_X10 ob ob_thrown ob_world ob_images ob_hasImage ob_tape ob_taped ob_five ob_size ob_at ob_from ob_token ob_value ob_faultKind ob_faultPlace ob_fresh ob_parts ob_houses ob_houseMany ob_worthOf ob_byCall ob_over ob_bestSet ob_bestOver ob_bestWorth ob_row ob_tenDebts ob_tenMany ob_fewestBy ob_covered ob_queue ob_cameBy ob_parent ob_met ob_calls ob_callMany ob_calledOn ob_saved ob_many ob_width ob_numbers ob_moving), (ce_i4 y ob_many fob_many), (ce_i4 y ob_width fob_width), (ce_l240 y ob_numbers f_1255), (ce_l60 y ob_moving f_1140)] ∧ va_S A s.heap H locs ∧ lv_has ls 7 [(6, .int v_1254), (0, .ref ob), (3, .int 1), (4, .int a4), (5, .int a5)]) ?_ (n := (60 - (0 : Int32).toInt).toNat) ⟨0, fob_numbers, rfl, (bw (0) (60) (bkc (x := 0) (c := 0) (by decide)) (by decide)), rfl, ⟨hP, hD⟩, hS, lv_sub hl [0, 1, 4, 5, 6] rfl⟩
                        rintro n ih_1262 H locs ls st ⟨v_1254, f_1255, hn_1262, bv_1254, rfl, ⟨hP, hD⟩, hS, hl⟩
                        refine lv_iload hx hb dX10_paste_150 (lv_at hl 0 rfl) ?_
                        refine lv_iload hx hb dX10_paste_152 (lv_at hl 4 rfl) ?_
                        refine lv_icmp_ge (tgt := 185) hx hb dX10_paste_154 (by decide) (fun c_1263 => ?_) (fun c_1263 => ?_)
                        · skip
                          have nc_1263 := nb_le (60) (0) c_1263 nc_1148.1 bv_1254 (by decide)
                          refine lv_iconst (v := 0) hx hb dX10_paste_185 (by decide) ?_
                          exact W.iret (v := 0) hx hb hr (fun t ht hW => ⟨⟨0, _, rfl, Or.inr (Or.inr (Or.inr (⟨f_1255, f_1140, h_1031, h_1032, nc_1263.1, by have h90 : Int32.toInt 0 = 0 := (by decide); have h91 : Int32.toInt 1 = 1 := (by decide); omega, rfl, rfl⟩))), by rw [ht]; exact hP, hD⟩, hS.F ht⟩) hS.2.2 dX10_paste_186
                        · skip
                          have nc_1263 := nb_nle (59) (1) c_1263 bv_1254 nc_1148.1 (by decide)
                          refine lv_aload_n hx hb dX10_paste_157 rfl (lv_at hl 1 rfl) ?_
                          refine va_get (D := G) (ci := 10) (v := .ref ob_numbers) (C := RX10) (T := TX10) (N := 41) hx hb hw0 inA_wsX100 hown hK.1 hP 0 rfl rfl 39 (by decide) (hw0 _ m_435) (fun _ h9 => h9) rfl dX10_paste_158 ?_
                          refine lv_bipush (v := 60) hx hb dX10_paste_161 (by decide) ?_
                          refine lv_iload_n hx hb dX10_paste_163 rfl (lv_at hl 2 rfl) ?_
                          refine lv_imul hx hb dX10_paste_164 ?_
                          refine lv_topi (fun v_1264 ev_1264 => ?_)
                          obtain rfl : 60 = v_1264 := (ev_1264.trans (by decide)).symm
                          refine lv_iload hx hb dX10_paste_165 (lv_at hl 3 rfl) ?_
                          refine lv_iadd hx hb dX10_paste_167 ?_
                          refine lv_topi (fun v_1265 ev_1265 => ?_)
                          have qv_1265 := ba_add ev_1265 (bkc (x := 60) (c := 60) (by decide)) h_1032 (by decide)
                          have bv_1265 : (60 : Int) ≤ v_1265.toInt ∧ v_1265.toInt ≤ 120 := bq_add qv_1265 (bkc (x := 60) (c := 60) (by decide)) h_1032 _ _ (by decide)
                          have qv_1265 : v_1265.toInt = (60) + a4.toInt := qv_1265
                          refine lv_iload hx hb dX10_paste_168 (lv_at hl 0 rfl) ?_
                          refine lv_iadd hx hb dX10_paste_170 ?_
                          refine lv_topi (fun v_1266 ev_1266 => ?_)
                          have qv_1266 := ba_add ev_1266 bv_1265 nc_1263.1 (by decide)
                          have bv_1266 : (60 : Int) ≤ v_1266.toInt ∧ v_1266.toInt ≤ 179 := bq_add qv_1266 bv_1265 nc_1263.1 _ _ (by decide)
                          refine lv_aload_n hx hb dX10_paste_171 rfl (lv_at hl 1 rfl) ?_
                          refine va_get (D := G) (ci := 10) (v := .ref ob_moving) (C := RX10) (T := TX10) (N := 41) hx hb hw0 inA_wsX100 hown hK.1 hP 0 rfl rfl 40 (by decide) (hw0 _ m_529) (fun _ h9 => h9) rfl dX10_paste_172 ?_
                          refine lv_iload hx hb dX10_paste_175 (lv_at hl 0 rfl) ?_
                          refine va_lald hx hb hK.1 hP 4 2 rfl rfl (vi nc_1263.1 (by decide)) dX10_paste_177 ?_
                          refine lv_topl (fun v_1267 ev_1267 => ?_)
                          refine va_last hx hb hK.1 hP hD hS 3 2 rfl rfl (vi bv_1266 (by decide)) dX10_paste_178 (fun H locs hP hD hS => ?_)
                          generalize hf_1268 : (vp_updL f_1255 (v_1266 : Int32).toNatClampNeg v_1267) = f_1268 at hP hD
                          obtain ⟨hP, hD⟩ : vPD G A H [(ce_X10 ob ob_thrown ob_world ob_images ob_hasImage ob_tape ob_taped ob_five ob_size ob_at ob_from ob_token ob_value ob_faultKind ob_faultPlace ob_fresh ob_parts ob_houses ob_houseMany ob_worthOf ob_byCall ob_over ob_bestSet ob_bestOver ob_bestWorth ob_row ob_tenDebts ob_tenMany ob_fewestBy ob_covered ob_queue ob_cameBy ob_parent ob_met ob_calls ob_callMany ob_calledOn ob_saved ob_many ob_width ob_numbers ob_moving), (ce_i4 y ob_many fob_many), (ce_i4 y ob_width fob_width), (ce_l240 y ob_numbers f_1268), (ce_l60 y ob_moving f_1140)] := ⟨hP, hD⟩
                          obtain ⟨v_1269, ev_1269⟩ : ∃ z : Int32, z = v_1254 + 1 := ⟨_, rfl⟩
                          have qv_1269 := ba_add ev_1269 nc_1263.1 (bkc (x := 1) (c := 1) (by decide)) (by decide)
                          have bv_1269 : (1 : Int) ≤ v_1269.toInt ∧ v_1269.toInt ≤ 60 := bq_add qv_1269 nc_1263.1 (bkc (x := 1) (c := 1) (by decide)) _ _ (by decide)
                          have qv_1269 : v_1269.toInt = v_1254.toInt + (1) := qv_1269
                          refine lv_iinc (v := v_1269) (lv' := [(6, .int v_1269), (0, .ref ob), (3, .int 1), (4, .int a4), (5, .int a5)]) hx hb dX10_paste_179 hl (k := 0) rfl (ev_1269.symm) (by decide) rfl (fun ls hl => ?_)
                          refine lv_goto (tgt := 150) hx hb dX10_paste_182 (by decide) ?_
                          exact ih_1262 _ (ml_inc (hi := 60) hn_1262 qv_1269 (by decide) ((bw (0) (60) bv_1269 (by decide))).2) _ _ _ _ ⟨v_1269, f_1268, rfl, (bw (0) (60) bv_1269 (by decide)), rfl, ⟨hP, hD⟩, hS, lv_sub hl [0, 1, 2, 3, 4] rfl⟩
                      · skip
                        have nc_1148 := nb_nle (59) (1) c_1148 bv_1139 h_1033 (by decide)
                        refine lv_aload_n hx hb dX10_paste_120 rfl (lv_at hl 1 rfl) ?_
                        refine va_get (D := G) (ci := 10) (v := .ref ob_moving) (C := RX10) (T := TX10) (N := 41) hx hb hw0 inA_wsX100 hown hK.1 hP 0 rfl rfl 40 (by decide) (hw0 _ m_529) (fun _ h9 => h9) rfl dX10_paste_121 ?_
                        refine lv_iload hx hb dX10_paste_124 (lv_at hl 0 rfl) ?_
                        refine lv_aload_n hx hb dX10_paste_126 rfl (lv_at hl 1 rfl) ?_
                        refine va_get (D := G) (ci := 10) (v := .ref ob_numbers) (C := RX10) (T := TX10) (N := 41) hx hb hw0 inA_wsX100 hown hK.1 hP 0 rfl rfl 39 (by decide) (hw0 _ m_435) (fun _ h9 => h9) rfl dX10_paste_127 ?_
                        refine lv_bipush (v := 60) hx hb dX10_paste_130 (by decide) ?_
                        refine lv_iload_n hx hb dX10_paste_132 rfl (lv_at hl 2 rfl) ?_
                        refine lv_imul hx hb dX10_paste_133 ?_
                        refine lv_topi (fun v_1270 ev_1270 => ?_)
                        obtain rfl : 120 = v_1270 := (ev_1270.trans (by decide)).symm
                        refine lv_iload_n hx hb dX10_paste_134 rfl (lv_at hl 3 rfl) ?_
                        refine lv_iadd hx hb dX10_paste_135 ?_
                        refine lv_topi (fun v_1271 ev_1271 => ?_)
                        have qv_1271 := ba_add ev_1271 (bkc (x := 120) (c := 120) (by decide)) h_1031 (by decide)
                        have bv_1271 : (120 : Int) ≤ v_1271.toInt ∧ v_1271.toInt ≤ 180 := bq_add qv_1271 (bkc (x := 120) (c := 120) (by decide)) h_1031 _ _ (by decide)
                        have qv_1271 : v_1271.toInt = (120) + a2.toInt := qv_1271
                        refine lv_iload hx hb dX10_paste_136 (lv_at hl 0 rfl) ?_
                        refine lv_iadd hx hb dX10_paste_138 ?_
                        refine lv_topi (fun v_1272 ev_1272 => ?_)
                        have qv_1272 := ba_add ev_1272 bv_1271 nc_1148.1 (by decide)
                        have bv_1272 : (120 : Int) ≤ v_1272.toInt ∧ v_1272.toInt ≤ 239 := bq_add qv_1272 bv_1271 nc_1148.1 _ _ (by decide)
                        refine va_lald hx hb hK.1 hP 3 2 rfl rfl (vi bv_1272 (by decide)) dX10_paste_139 ?_
                        refine lv_topl (fun v_1273 ev_1273 => ?_)
                        refine va_last hx hb hK.1 hP hD hS 4 2 rfl rfl (vi nc_1148.1 (by decide)) dX10_paste_140 (fun H locs hP hD hS => ?_)
                        generalize hf_1274 : (vp_updL f_1140 (v_1139 : Int32).toNatClampNeg v_1273) = f_1274 at hP hD
                        obtain ⟨hP, hD⟩ : vPD G A H [(ce_X10 ob ob_thrown ob_world ob_images ob_hasImage ob_tape ob_taped ob_five ob_size ob_at ob_from ob_token ob_value ob_faultKind ob_faultPlace ob_fresh ob_parts ob_houses ob_houseMany ob_worthOf ob_byCall ob_over ob_bestSet ob_bestOver ob_bestWorth ob_row ob_tenDebts ob_tenMany ob_fewestBy ob_covered ob_queue ob_cameBy ob_parent ob_met ob_calls ob_callMany ob_calledOn ob_saved ob_many ob_width ob_numbers ob_moving), (ce_i4 y ob_many fob_many), (ce_i4 y ob_width fob_width), (ce_l240 y ob_numbers fob_numbers), (ce_l60 y ob_moving f_1274)] := ⟨hP, hD⟩
                        obtain ⟨v_1275, ev_1275⟩ : ∃ z : Int32, z = v_1139 + 1 := ⟨_, rfl⟩
                        have qv_1275 := ba_add ev_1275 nc_1148.1 (bkc (x := 1) (c := 1) (by decide)) (by decide)
                        have bv_1275 : (1 : Int) ≤ v_1275.toInt ∧ v_1275.toInt ≤ 60 := bq_add qv_1275 nc_1148.1 (bkc (x := 1) (c := 1) (by decide)) _ _ (by decide)
                        have qv_1275 : v_1275.toInt = v_1139.toInt + (1) := qv_1275
                        refine lv_iinc (v := v_1275) (lv' := [(6, .int v_1275), (0, .ref ob), (1, .int 2), (2, .int a2), (3, .int 1), (4, .int a4), (5, .int a5)]) hx hb dX10_paste_141 hl (k := 0) rfl (ev_1275.symm) (by decide) rfl (fun ls hl => ?_)
                        refine lv_goto (tgt := 113) hx hb dX10_paste_144 (by decide) ?_
                        exact ih_1147 _ (ml_inc (hi := 60) hn_1147 qv_1275 (by decide) ((bw (0) (60) bv_1275 (by decide))).2) _ _ _ _ ⟨v_1275, f_1274, rfl, (bw (0) (60) bv_1275 (by decide)), rfl, ⟨hP, hD⟩, hS, lv_sub hl [0, 1, 2, 3, 4, 5, 6] rfl⟩
                    · skip
                      have nc_1030 := jl_nle c_1030
                      refine lv_bipush (v := (-7)) hx hb dX10_paste_107 (by decide) ?_
                      exact W.iret (v := (-7)) hx hb hr (fun t ht hW => ⟨⟨(-7), _, rfl, Or.inr (Or.inl (⟨by have h90 : Int32.toInt (-7) = -7 := (by decide); have h91 : Int32.toInt 1 = 1 := (by decide); have h92 : Int32.toInt 2 = 2 := (by decide); omega, rfl, rfl⟩)), by rw [ht]; exact hP, hD⟩, hS.F ht⟩) hS.2.2 dX10_paste_109
          · skip
            have nc_1015 : v_1013.toInt ≠ v_1014.toInt := fun h9 => c_1015 (Int32.toInt_inj.mp h9)
            refine lv_bipush (v := (-8)) hx hb dX10_paste_55 (by decide) ?_
            exact W.iret (v := (-8)) hx hb hr (fun t ht hW => ⟨⟨(-8), _, rfl, Or.inr (Or.inr (Or.inl (⟨by have h90 : Int32.toInt (-8) = -8 := (by decide); have h91 : Int32.toInt 1 = 1 := (by decide); have h92 : Int32.toInt 2 = 2 := (by decide); omega, rfl, rfl⟩))), by rw [ht]; exact hP, hD⟩, hS.F ht⟩) hS.2.2 dX10_paste_57
        · skip
          have nc_1012 := nb_eq (-1) (-1) c_1012 bv_1011 (bkc (x := (-1)) (c := -1) (by decide)) (by decide)
          refine lv_bipush (v := (-6)) hx hb dX10_paste_37 (by decide) ?_
          exact W.iret (v := (-6)) hx hb hr (fun t ht hW => ⟨⟨(-6), _, rfl, Or.inl (⟨by have h90 : Int32.toInt (-6) = -6 := (by decide); have h91 : Int32.toInt 1 = 1 := (by decide); have h92 : Int32.toInt 2 = 2 := (by decide); omega, rfl, rfl⟩), by rw [ht]; exact hP, hD⟩, hS.F ht⟩) hS.2.2 dX10_paste_39

set_option maxHeartbeats 4000000 in
set_option maxRecDepth 100000 in
theorem fpasteM22 (l : Launch) (G : va_G) (y : Nat → ClassId) (sz : Nat) (ob : Nat) (a2 : Int32) (a4 : Int32) (a5 : Int32) (ob_thrown : Int32) (ob_world : Nat) (ob_images : Nat) (ob_hasImage : Nat) (ob_tape : Nat) (ob_taped : Int32) (ob_five : Nat) (ob_size : Int32) (ob_at : Int32) (ob_from : Int32) (ob_token : Int32) (ob_value : Int32) (ob_faultKind : Int32) (ob_faultPlace : Int32) (ob_fresh : Nat) (ob_parts : Nat) (ob_houses : Nat) (ob_houseMany : Int32) (ob_worthOf : Nat) (ob_byCall : Nat) (ob_over : Nat) (ob_bestSet : Int32) (ob_bestOver : Int32) (ob_bestWorth : Int32) (ob_row : Nat) (ob_tenDebts : Nat) (ob_tenMany : Int32) (ob_fewestBy : Nat) (ob_covered : Nat) (ob_queue : Nat) (ob_cameBy : Nat) (ob_parent : Nat) (ob_met : Nat) (ob_calls : Nat) (ob_callMany : Int32) (ob_calledOn : Nat) (ob_saved : Nat) (ob_many : Nat) (ob_width : Nat) (ob_numbers : Nat) (ob_moving : Nat) (fob_many : Nat → Int32) (fob_width : Nat → Int32) (fob_numbers : Nat → Int64) (fob_moving : Nat → Int64) (p_ob_taped : (0 : Int) ≤ ob_taped.toInt ∧ ob_taped.toInt ≤ 1400) (p_ob_size : (0 : Int) ≤ ob_size.toInt ∧ ob_size.toInt ≤ 1400) (p_ob_at : (0 : Int) ≤ ob_at.toInt ∧ ob_at.toInt ≤ 1400) (p_ob_from : (0 : Int) ≤ ob_from.toInt ∧ ob_from.toInt ≤ 1400) (p_ob_token : (0 : Int) ≤ ob_token.toInt ∧ ob_token.toInt ≤ 4) (p_ob_value : (0 : Int) ≤ ob_value.toInt ∧ ob_value.toInt ≤ 9999) (p_ob_faultKind : (0 : Int) ≤ ob_faultKind.toInt ∧ ob_faultKind.toInt ≤ 3) (p_ob_houseMany : (0 : Int) ≤ ob_houseMany.toInt ∧ ob_houseMany.toInt ≤ 10) (p_ob_bestSet : (0 : Int) ≤ ob_bestSet.toInt ∧ ob_bestSet.toInt ≤ 1023) (p_ob_bestOver : (-1 : Int) ≤ ob_bestOver.toInt ∧ ob_bestOver.toInt ≤ 180) (p_ob_tenMany : (0 : Int) ≤ ob_tenMany.toInt ∧ ob_tenMany.toInt ≤ 10) (p_ob_callMany : (0 : Int) ≤ ob_callMany.toInt ∧ ob_callMany.toInt ≤ 16) (p_fob_many : ∀ i, (-1 : Int) ≤ (fob_many i).toInt ∧ (fob_many i).toInt ≤ 60) (p_fob_width : ∀ i, (0 : Int) ≤ (fob_width i).toInt ∧ (fob_width i).toInt ≤ 3) : Met l yX10_paste (Cond.code yX10_paste cX10_paste 7 (some .int) :: wAll) ({ frames := 2, cells := 0, slots := 0, locals := 45 }) (va_Pc [.ref ob, .int 2, .int a2, .int 2, .int a4, .int a5] (kp G y sz [(ce_X10 ob ob_thrown ob_world ob_images ob_hasImage ob_tape ob_taped ob_five ob_size ob_at ob_from ob_token ob_value ob_faultKind ob_faultPlace ob_fresh ob_parts ob_houses ob_houseMany ob_worthOf ob_byCall ob_over ob_bestSet ob_bestOver ob_bestWorth ob_row ob_tenDebts ob_tenMany ob_fewestBy ob_covered ob_queue ob_cameBy ob_parent ob_met ob_calls ob_callMany ob_calledOn ob_saved ob_many ob_width ob_numbers ob_moving), (ce_i4 y ob_many fob_many), (ce_i4 y ob_width fob_width), (ce_l240 y ob_numbers fob_numbers), (ce_l60 y ob_moving fob_moving)])) (va_Qi (fun (r : Int32) (w : va_W) => (((fob_many 2).toInt = -1 ∨ (fob_many 2).toInt = -1) ∧ r = (-6) ∧ w = [(ce_X10 ob ob_thrown ob_world ob_images ob_hasImage ob_tape ob_taped ob_five ob_size ob_at ob_from ob_token ob_value ob_faultKind ob_faultPlace ob_fresh ob_parts ob_houses ob_houseMany ob_worthOf ob_byCall ob_over ob_bestSet ob_bestOver ob_bestWorth ob_row ob_tenDebts ob_tenMany ob_fewestBy ob_covered ob_queue ob_cameBy ob_parent ob_met ob_calls ob_callMany ob_calledOn ob_saved ob_many ob_width ob_numbers ob_moving), (ce_i4 y ob_many fob_many), (ce_i4 y ob_width fob_width), (ce_l240 y ob_numbers fob_numbers), (ce_l60 y ob_moving fob_moving)]) ∨ ((¬ (fob_many 2).toInt = -1 ∧ ¬ (fob_many 2).toInt = -1 ∧ (fob_width 2).toInt = (fob_width 2).toInt ∧ ¬ (0 ≤ a2.toInt ∧ 0 ≤ a4.toInt ∧ 0 ≤ a5.toInt ∧ a2.toInt + a5.toInt ≤ (fob_many 2).toInt ∧ a4.toInt + a5.toInt ≤ (fob_many 2).toInt)) ∧ r = (-7) ∧ w = [(ce_X10 ob ob_thrown ob_world ob_images ob_hasImage ob_tape ob_taped ob_five ob_size ob_at ob_from ob_token ob_value ob_faultKind ob_faultPlace ob_fresh ob_parts ob_houses ob_houseMany ob_worthOf ob_byCall ob_over ob_bestSet ob_bestOver ob_bestWorth ob_row ob_tenDebts ob_tenMany ob_fewestBy ob_covered ob_queue ob_cameBy ob_parent ob_met ob_calls ob_callMany ob_calledOn ob_saved ob_many ob_width ob_numbers ob_moving), (ce_i4 y ob_many fob_many), (ce_i4 y ob_width fob_width), (ce_l240 y ob_numbers fob_numbers), (ce_l60 y ob_moving fob_moving)]) ∨ (∃ (f_547 : Nat → Int64) (f_548 : Nat → Int64), ((0 : Int) ≤ a2.toInt ∧ a2.toInt ≤ 60) ∧ ((0 : Int) ≤ a4.toInt ∧ a4.toInt ≤ 60) ∧ ((0 : Int) ≤ a5.toInt ∧ a5.toInt ≤ 60) ∧ (¬ (fob_many 2).toInt = -1 ∧ ¬ (fob_many 2).toInt = -1 ∧ (fob_width 2).toInt = (fob_width 2).toInt ∧ 0 ≤ a2.toInt ∧ 0 ≤ a4.toInt ∧ 0 ≤ a5.toInt ∧ a2.toInt + a5.toInt ≤ (fob_many 2).toInt ∧ a4.toInt + a5.toInt ≤ (fob_many 2).toInt) ∧ r = 0 ∧ w = [(ce_X10 ob ob_thrown ob_world ob_images ob_hasImage ob_tape ob_taped ob_five ob_size ob_at ob_from ob_token ob_value ob_faultKind ob_faultPlace ob_fresh ob_parts ob_houses ob_houseMany ob_worthOf ob_byCall ob_over ob_bestSet ob_bestOver ob_bestWorth ob_row ob_tenDebts ob_tenMany ob_fewestBy ob_covered ob_queue ob_cameBy ob_parent ob_met ob_calls ob_callMany ob_calledOn ob_saved ob_many ob_width ob_numbers ob_moving), (ce_i4 y ob_many fob_many), (ce_i4 y ob_width fob_width), (ce_l240 y ob_numbers f_547), (ce_l60 y ob_moving f_548)])) (kq G (va_A [(ce_X10 ob ob_thrown ob_world ob_images ob_hasImage ob_tape ob_taped ob_five ob_size ob_at ob_from ob_token ob_value ob_faultKind ob_faultPlace ob_fresh ob_parts ob_houses ob_houseMany ob_worthOf ob_byCall ob_over ob_bestSet ob_bestOver ob_bestWorth ob_row ob_tenDebts ob_tenMany ob_fewestBy ob_covered ob_queue ob_cameBy ob_parent ob_met ob_calls ob_callMany ob_calledOn ob_saved ob_many ob_width ob_numbers ob_moving), (ce_i4 y ob_many fob_many), (ce_i4 y ob_width fob_width), (ce_l240 y ob_numbers fob_numbers), (ce_l60 y ob_moving fob_moving)] sz)) (va_A [(ce_X10 ob ob_thrown ob_world ob_images ob_hasImage ob_tape ob_taped ob_five ob_size ob_at ob_from ob_token ob_value ob_faultKind ob_faultPlace ob_fresh ob_parts ob_houses ob_houseMany ob_worthOf ob_byCall ob_over ob_bestSet ob_bestOver ob_bestWorth ob_row ob_tenDebts ob_tenMany ob_fewestBy ob_covered ob_queue ob_cameBy ob_parent ob_met ob_calls ob_callMany ob_calledOn ob_saved ob_many ob_width ob_numbers ob_moving), (ce_i4 y ob_many fob_many), (ce_i4 y ob_width fob_width), (ce_l240 y ob_numbers fob_numbers), (ce_l60 y ob_moving fob_moving)] sz)) 0 0 (va_A [(ce_X10 ob ob_thrown ob_world ob_images ob_hasImage ob_tape ob_taped ob_five ob_size ob_at ob_from ob_token ob_value ob_faultKind ob_faultPlace ob_fresh ob_parts ob_houses ob_houseMany ob_worthOf ob_byCall ob_over ob_bestSet ob_bestOver ob_bestWorth ob_row ob_tenDebts ob_tenMany ob_fewestBy ob_covered ob_queue ob_cameBy ob_parent ob_met ob_calls ob_callMany ob_calledOn ob_saved ob_many ob_width ob_numbers ob_moving), (ce_i4 y ob_many fob_many), (ce_i4 y ob_width fob_width), (ce_l240 y ob_numbers fob_numbers), (ce_l60 y ob_moving fob_moving)] sz) := by
  refine Met.ofW (cc := cX10_paste) (maxL := 7) (ret := (some .int)) (by decide) rfl ?_
  intro p e s m args below meth c s₁ B hml hv
  obtain ⟨rfl, hsz, hP, hK, hD0⟩ := hv
  have hx := B.exec
  have hb := B.bytes
  have hr := B.returns
  have hw0 : ∀ w ∈ wAll, w.before _ s = true := fun w h => atoms_spec (ws := Cond.code yX10_paste cX10_paste 7 (some .int) :: wAll) B.pre w (List.mem_cons_of_mem _ h)
  have hown : s.vm.findClass RX10 = some m.cls := findClass_of_methodNamed B.named
  subst hsz
  have hD := hD0.self (sz := s.heap.size)
  generalize hAe : va_A [(ce_X10 ob ob_thrown ob_world ob_images ob_hasImage ob_tape ob_taped ob_five ob_size ob_at ob_from ob_token ob_value ob_faultKind ob_faultPlace ob_fresh ob_parts ob_houses ob_houseMany ob_worthOf ob_byCall ob_over ob_bestSet ob_bestOver ob_bestWorth ob_row ob_tenDebts ob_tenMany ob_fewestBy ob_covered ob_queue ob_cameBy ob_parent ob_met ob_calls ob_callMany ob_calledOn ob_saved ob_many ob_width ob_numbers ob_moving), (ce_i4 y ob_many fob_many), (ce_i4 y ob_width fob_width), (ce_l240 y ob_numbers fob_numbers), (ce_l60 y ob_moving fob_moving)] s.heap.size = A at hD ⊢
  have hA : ∀ q : Nat, s.heap.size ≤ q → A q := fun q h => by rw [← hAe]; exact Or.inr h
  have hS : va_S A s.heap s.heap [] := va_S.rf
  have hP : va_P G vwCl [(ce_X10 ob ob_thrown ob_world ob_images ob_hasImage ob_tape ob_taped ob_five ob_size ob_at ob_from ob_token ob_value ob_faultKind ob_faultPlace ob_fresh ob_parts ob_houses ob_houseMany ob_worthOf ob_byCall ob_over ob_bestSet ob_bestOver ob_bestWorth ob_row ob_tenDebts ob_tenMany ob_fewestBy ob_covered ob_queue ob_cameBy ob_parent ob_met ob_calls ob_callMany ob_calledOn ob_saved ob_many ob_width ob_numbers ob_moving), (ce_i4 y ob_many fob_many), (ce_i4 y ob_width fob_width), (ce_l240 y ob_numbers fob_numbers), (ce_l60 y ob_moving fob_moving)] s.heap := hP
  have hl := lv_entry ([.ref ob, .int 2, .int a2, .int 2, .int a4, .int a5]) (n := 7) (Nat.le_of_ble_eq_true rfl)
  rw [lg_entry_eq]
  generalize (lg_sl ([.ref ob, .int 2, .int a2, .int 2, .int a4, .int a5]) ++ List.replicate (7 - (lg_sl ([.ref ob, .int 2, .int a2, .int 2, .int a4, .int a5])).length) Slot.unset).toArray = ls at hl ⊢
  have hl : lv_has ls 7 [(0, .ref ob), (1, .int 2), (2, .int a2), (3, .int 2), (4, .int a4), (5, .int a5)] := hl
  refine lv_iload_n hx hb dX10_paste_0 rfl (lv_at hl 1 rfl) ?_
  refine cSim (As := [.int 2]) (rest := []) ⟨hx, hb, hml, hown, hw0⟩ hA hK hP hD hS [] (fisSlotM l G y _ 2 ) rfl ⟨(callB_of 1 hw0 (gA m_543) rfl rfl rfl (hw0 _ m_41) (hw0 _ m_433) cb_X10_isSlot ⟨Nat.le_of_ble_eq_true rfl, Nat.le_of_ble_eq_true rfl⟩), (hw0 _ m_434)⟩ rfl hl.1 (Nat.le_of_ble_eq_true rfl) dX10_paste_1 ⟨Nat.le_of_ble_eq_true rfl, Nat.le_of_ble_eq_true rfl⟩ (fun r_1001 w_1001 H locs hw_1001 hP hD hS => ?_)
  rcases hw_1001 with ⟨h_1002, rfl, rfl⟩ | ⟨h_1003, h_1004, rfl, rfl⟩
  · skip
    exact False.elim (by have h9 : Int32.toInt 2 = 2 := (by decide); omega)
  · skip
    obtain ⟨hP, hD⟩ : vPD G A H [(ce_X10 ob ob_thrown ob_world ob_images ob_hasImage ob_tape ob_taped ob_five ob_size ob_at ob_from ob_token ob_value ob_faultKind ob_faultPlace ob_fresh ob_parts ob_houses ob_houseMany ob_worthOf ob_byCall ob_over ob_bestSet ob_bestOver ob_bestWorth ob_row ob_tenDebts ob_tenMany ob_fewestBy ob_covered ob_queue ob_cameBy ob_parent ob_met ob_calls ob_callMany ob_calledOn ob_saved ob_many ob_width ob_numbers ob_moving), (ce_i4 y ob_many fob_many), (ce_i4 y ob_width fob_width), (ce_l240 y ob_numbers fob_numbers), (ce_l60 y ob_moving fob_moving)] := ⟨hP, hD⟩
    refine lv_if_eq (tgt := 14) hx hb dX10_paste_4 (by decide) (fun c9 => absurd c9 (by decide)) (fun _ => ?_)
    refine lv_iload_n hx hb dX10_paste_7 rfl (lv_at hl 3 rfl) ?_
    refine cSim (As := [.int 2]) (rest := []) ⟨hx, hb, hml, hown, hw0⟩ hA hK hP hD hS [] (fisSlotM l G y _ 2 ) rfl ⟨(callB_of 1 hw0 (gA m_543) rfl rfl rfl (hw0 _ m_41) (hw0 _ m_433) cb_X10_isSlot ⟨Nat.le_of_ble_eq_true rfl, Nat.le_of_ble_eq_true rfl⟩), (hw0 _ m_434)⟩ rfl hl.1 (Nat.le_of_ble_eq_true rfl) dX10_paste_8 ⟨Nat.le_of_ble_eq_true rfl, Nat.le_of_ble_eq_true rfl⟩ (fun r_1005 w_1005 H locs hw_1005 hP hD hS => ?_)
    rcases hw_1005 with ⟨h_1006, rfl, rfl⟩ | ⟨h_1007, h_1008, rfl, rfl⟩
    · skip
      exact False.elim (by have h9 : Int32.toInt 2 = 2 := (by decide); omega)
    · skip
      obtain ⟨hP, hD⟩ : vPD G A H [(ce_X10 ob ob_thrown ob_world ob_images ob_hasImage ob_tape ob_taped ob_five ob_size ob_at ob_from ob_token ob_value ob_faultKind ob_faultPlace ob_fresh ob_parts ob_houses ob_houseMany ob_worthOf ob_byCall ob_over ob_bestSet ob_bestOver ob_bestWorth ob_row ob_tenDebts ob_tenMany ob_fewestBy ob_covered ob_queue ob_cameBy ob_parent ob_met ob_calls ob_callMany ob_calledOn ob_saved ob_many ob_width ob_numbers ob_moving), (ce_i4 y ob_many fob_many), (ce_i4 y ob_width fob_width), (ce_l240 y ob_numbers fob_numbers), (ce_l60 y ob_moving fob_moving)] := ⟨hP, hD⟩
      refine lv_if_ne (tgt := 17) hx hb dX10_paste_11 (by decide) (fun _ => ?_) (fun c9 => absurd c9 (by decide))
      refine lv_aload_n hx hb dX10_paste_17 rfl (lv_at hl 0 rfl) ?_
      refine va_get (D := G) (ci := 10) (v := .ref ob_many) (C := RX10) (T := TX10) (N := 41) hx hb hw0 inA_wsX100 hown hK.1 hP 0 rfl rfl 37 (by decide) (hw0 _ m_406) (fun _ h9 => h9) rfl dX10_paste_18 ?_
      refine lv_iload_n hx hb dX10_paste_21 rfl (lv_at hl 1 rfl) ?_
      refine va_iald hx hb hK.1 hP 1 1 rfl rfl (vi (bkc (x := 2) (c := 2) (by decide)) (by decide)) dX10_paste_22 ?_
      refine lv_topi (fun v_1009 ev_1009 => ?_)
      have bv_1009 : (-1 : Int) ≤ v_1009.toInt ∧ v_1009.toInt ≤ 60 := rd_b ev_1009 p_fob_many
      have yv_1009 : v_1009.toInt = (fob_many 2).toInt := congrArg Int32.toInt ev_1009
      refine lv_iconst (v := (-1)) hx hb dX10_paste_23 (by decide) ?_
      refine lv_icmp_eq (tgt := 37) hx hb dX10_paste_24 (by decide) (fun c_1010 => ?_) (fun c_1010 => ?_)
      · skip
        have nc_1010 := nb_eq (-1) (-1) c_1010 bv_1009 (bkc (x := (-1)) (c := -1) (by decide)) (by decide)
        refine lv_bipush (v := (-6)) hx hb dX10_paste_37 (by decide) ?_
        exact W.iret (v := (-6)) hx hb hr (fun t ht hW => ⟨⟨(-6), _, rfl, Or.inl (⟨by have h90 : Int32.toInt (-6) = -6 := (by decide); have h91 : Int32.toInt 2 = 2 := (by decide); omega, rfl, rfl⟩), by rw [ht]; exact hP, hD⟩, hS.F ht⟩) hS.2.2 dX10_paste_39
      · skip
        have nc_1010 := nb_ne (0) (60) c_1010 bv_1009 (k := -1) (by decide) (by decide)
        refine lv_aload_n hx hb dX10_paste_27 rfl (lv_at hl 0 rfl) ?_
        refine va_get (D := G) (ci := 10) (v := .ref ob_many) (C := RX10) (T := TX10) (N := 41) hx hb hw0 inA_wsX100 hown hK.1 hP 0 rfl rfl 37 (by decide) (hw0 _ m_406) (fun _ h9 => h9) rfl dX10_paste_28 ?_
        refine lv_iload_n hx hb dX10_paste_31 rfl (lv_at hl 3 rfl) ?_
        refine va_iald hx hb hK.1 hP 1 1 rfl rfl (vi (bkc (x := 2) (c := 2) (by decide)) (by decide)) dX10_paste_32 ?_
        refine lv_topi (fun v_1011 ev_1011 => ?_)
        obtain rfl : v_1009 = v_1011 := (ev_1011.trans (ev_1009.symm)).symm
        refine lv_iconst (v := (-1)) hx hb dX10_paste_33 (by decide) ?_
        refine lv_icmp_ne (tgt := 40) hx hb dX10_paste_34 (by decide) (fun _ => ?_) (fun c9 => absurd c9 (dc_neq nc_1010.1 (bkc (x := (-1)) (c := -1) (by decide)) (by decide)))
        refine lv_aload_n hx hb dX10_paste_40 rfl (lv_at hl 0 rfl) ?_
        refine va_get (D := G) (ci := 10) (v := .ref ob_width) (C := RX10) (T := TX10) (N := 41) hx hb hw0 inA_wsX100 hown hK.1 hP 0 rfl rfl 38 (by decide) (hw0 _ m_527) (fun _ h9 => h9) rfl dX10_paste_41 ?_
        refine lv_iload_n hx hb dX10_paste_44 rfl (lv_at hl 1 rfl) ?_
        refine va_iald hx hb hK.1 hP 2 1 rfl rfl (vi (bkc (x := 2) (c := 2) (by decide)) (by decide)) dX10_paste_45 ?_
        refine lv_topi (fun v_1012 ev_1012 => ?_)
        have bv_1012 : (0 : Int) ≤ v_1012.toInt ∧ v_1012.toInt ≤ 3 := rd_b ev_1012 p_fob_width
        have yv_1012 : v_1012.toInt = (fob_width 2).toInt := congrArg Int32.toInt ev_1012
        refine lv_aload_n hx hb dX10_paste_46 rfl (lv_at hl 0 rfl) ?_
        refine va_get (D := G) (ci := 10) (v := .ref ob_width) (C := RX10) (T := TX10) (N := 41) hx hb hw0 inA_wsX100 hown hK.1 hP 0 rfl rfl 38 (by decide) (hw0 _ m_527) (fun _ h9 => h9) rfl dX10_paste_47 ?_
        refine lv_iload_n hx hb dX10_paste_50 rfl (lv_at hl 3 rfl) ?_
        refine va_iald hx hb hK.1 hP 2 1 rfl rfl (vi (bkc (x := 2) (c := 2) (by decide)) (by decide)) dX10_paste_51 ?_
        refine lv_topi (fun v_1013 ev_1013 => ?_)
        obtain rfl : v_1012 = v_1013 := (ev_1013.trans (ev_1012.symm)).symm
        refine lv_icmp_eq (tgt := 58) hx hb dX10_paste_52 (by decide) (fun _ => ?_) (fun c9 => absurd (rfl) c9)
        refine lv_iload_n hx hb dX10_paste_58 rfl (lv_at hl 2 rfl) ?_
        refine lv_if_lt (tgt := 107) hx hb dX10_paste_59 (by decide) (fun c_1014 => ?_) (fun c_1014 => ?_)
        · skip
          have nc_1014 := nb_lt (-1) (0) c_1014 (btop a2) (bkc (x := 0) (c := 0) (by decide)) (by decide)
          refine lv_bipush (v := (-7)) hx hb dX10_paste_107 (by decide) ?_
          exact W.iret (v := (-7)) hx hb hr (fun t ht hW => ⟨⟨(-7), _, rfl, Or.inr (Or.inl (⟨by have h90 : Int32.toInt (-7) = -7 := (by decide); have h91 : Int32.toInt 2 = 2 := (by decide); omega, rfl, rfl⟩)), by rw [ht]; exact hP, hD⟩, hS.F ht⟩) hS.2.2 dX10_paste_109
        · skip
          have nc_1014 := nb_nlt (0) (0) c_1014 (bkc (x := 0) (c := 0) (by decide)) (btop a2) (by decide)
          refine lv_iload hx hb dX10_paste_62 (lv_at hl 4 rfl) ?_
          refine lv_if_lt (tgt := 107) hx hb dX10_paste_64 (by decide) (fun c_1015 => ?_) (fun c_1015 => ?_)
          · skip
            have nc_1015 := nb_lt (-1) (0) c_1015 (btop a4) (bkc (x := 0) (c := 0) (by decide)) (by decide)
            refine lv_bipush (v := (-7)) hx hb dX10_paste_107 (by decide) ?_
            exact W.iret (v := (-7)) hx hb hr (fun t ht hW => ⟨⟨(-7), _, rfl, Or.inr (Or.inl (⟨by have h90 : Int32.toInt (-7) = -7 := (by decide); have h91 : Int32.toInt 2 = 2 := (by decide); omega, rfl, rfl⟩)), by rw [ht]; exact hP, hD⟩, hS.F ht⟩) hS.2.2 dX10_paste_109
          · skip
            have nc_1015 := nb_nlt (0) (0) c_1015 (bkc (x := 0) (c := 0) (by decide)) (btop a4) (by decide)
            refine lv_iload hx hb dX10_paste_67 (lv_at hl 5 rfl) ?_
            refine lv_if_lt (tgt := 107) hx hb dX10_paste_69 (by decide) (fun c_1016 => ?_) (fun c_1016 => ?_)
            · skip
              have nc_1016 := nb_lt (-1) (0) c_1016 (btop a5) (bkc (x := 0) (c := 0) (by decide)) (by decide)
              refine lv_bipush (v := (-7)) hx hb dX10_paste_107 (by decide) ?_
              exact W.iret (v := (-7)) hx hb hr (fun t ht hW => ⟨⟨(-7), _, rfl, Or.inr (Or.inl (⟨by have h90 : Int32.toInt (-7) = -7 := (by decide); have h91 : Int32.toInt 2 = 2 := (by decide); omega, rfl, rfl⟩)), by rw [ht]; exact hP, hD⟩, hS.F ht⟩) hS.2.2 dX10_paste_109
            · skip
              have nc_1016 := nb_nlt (0) (0) c_1016 (bkc (x := 0) (c := 0) (by decide)) (btop a5) (by decide)
              refine lv_iload_n hx hb dX10_paste_72 rfl (lv_at hl 2 rfl) ?_
              refine lv_i2l hx hb dX10_paste_73 rfl ?_
              have kk_1017 : ((a2).toInt64).toInt = (a2).toInt := Int32.toInt_toInt64 _
              refine lv_iload hx hb dX10_paste_74 (lv_at hl 5 rfl) ?_
              refine lv_i2l hx hb dX10_paste_76 rfl ?_
              have kk_1018 : ((a5).toInt64).toInt = (a5).toInt := Int32.toInt_toInt64 _
              refine lv_ladd hx hb dX10_paste_77 ?_
              refine lv_topl (fun v_1019 ev_1019 => ?_)
              have qv_1019 := la_add ev_1019
              refine lv_aload_n hx hb dX10_paste_78 rfl (lv_at hl 0 rfl) ?_
              refine va_get (D := G) (ci := 10) (v := .ref ob_many) (C := RX10) (T := TX10) (N := 41) hx hb hw0 inA_wsX100 hown hK.1 hP 0 rfl rfl 37 (by decide) (hw0 _ m_406) (fun _ h9 => h9) rfl dX10_paste_79 ?_
              refine lv_iload_n hx hb dX10_paste_82 rfl (lv_at hl 1 rfl) ?_
              refine va_iald hx hb hK.1 hP 1 1 rfl rfl (vi (bkc (x := 2) (c := 2) (by decide)) (by decide)) dX10_paste_83 ?_
              refine lv_topi (fun v_1020 ev_1020 => ?_)
              obtain rfl : v_1009 = v_1020 := (ev_1020.trans (ev_1009.symm)).symm
              refine lv_i2l hx hb dX10_paste_84 rfl ?_
              have kk_1021 : ((v_1009).toInt64).toInt = (v_1009).toInt := Int32.toInt_toInt64 _
              refine W.lcmp hx hb dX10_paste_85 ?_
              refine lv_if_gt (tgt := 107) hx hb dX10_paste_86 (by decide) (fun c_1022 => ?_) (fun c_1022 => ?_)
              · skip
                have nc_1022 := jl_gt c_1022
                refine lv_bipush (v := (-7)) hx hb dX10_paste_107 (by decide) ?_
                exact W.iret (v := (-7)) hx hb hr (fun t ht hW => ⟨⟨(-7), _, rfl, Or.inr (Or.inl (⟨by have h90 : Int32.toInt (-7) = -7 := (by decide); have h91 : Int32.toInt 2 = 2 := (by decide); omega, rfl, rfl⟩)), by rw [ht]; exact hP, hD⟩, hS.F ht⟩) hS.2.2 dX10_paste_109
              · skip
                have nc_1022 := jl_ngt c_1022
                refine lv_iload hx hb dX10_paste_89 (lv_at hl 4 rfl) ?_
                refine lv_i2l hx hb dX10_paste_91 rfl ?_
                have kk_1023 : ((a4).toInt64).toInt = (a4).toInt := Int32.toInt_toInt64 _
                refine lv_iload hx hb dX10_paste_92 (lv_at hl 5 rfl) ?_
                refine lv_i2l hx hb dX10_paste_94 rfl ?_
                have kk_1024 : ((a5).toInt64).toInt = (a5).toInt := Int32.toInt_toInt64 _
                refine lv_ladd hx hb dX10_paste_95 ?_
                refine lv_topl (fun v_1025 ev_1025 => ?_)
                have qv_1025 := la_add ev_1025
                refine lv_aload_n hx hb dX10_paste_96 rfl (lv_at hl 0 rfl) ?_
                refine va_get (D := G) (ci := 10) (v := .ref ob_many) (C := RX10) (T := TX10) (N := 41) hx hb hw0 inA_wsX100 hown hK.1 hP 0 rfl rfl 37 (by decide) (hw0 _ m_406) (fun _ h9 => h9) rfl dX10_paste_97 ?_
                refine lv_iload_n hx hb dX10_paste_100 rfl (lv_at hl 3 rfl) ?_
                refine va_iald hx hb hK.1 hP 1 1 rfl rfl (vi (bkc (x := 2) (c := 2) (by decide)) (by decide)) dX10_paste_101 ?_
                refine lv_topi (fun v_1026 ev_1026 => ?_)
                obtain rfl : v_1009 = v_1026 := (ev_1026.trans (ev_1009.symm)).symm
                refine lv_i2l hx hb dX10_paste_102 rfl ?_
                have kk_1027 : ((v_1009).toInt64).toInt = (v_1009).toInt := Int32.toInt_toInt64 _
                refine W.lcmp hx hb dX10_paste_103 ?_
                refine lv_if_le (tgt := 110) hx hb dX10_paste_104 (by decide) (fun c_1028 => ?_) (fun c_1028 => ?_)
                · skip
                  have nc_1028 := jl_le c_1028
                  have h_1029 : (0 : Int) ≤ a2.toInt ∧ a2.toInt ≤ 60 := by omega
                  have h_1030 : (0 : Int) ≤ a4.toInt ∧ a4.toInt ≤ 60 := by omega
                  have h_1031 : (0 : Int) ≤ a5.toInt ∧ a5.toInt ≤ 60 := by omega
                  refine lv_iconst (v := 0) hx hb dX10_paste_110 (by decide) ?_
                  refine lv_istore (lv' := [(6, .int 0), (0, .ref ob), (1, .int 2), (2, .int a2), (3, .int 2), (4, .int a4), (5, .int a5)]) hx hb dX10_paste_111 hl (by decide) rfl (fun ls hl => ?_)
                  refine loopX (fun n H locs ls st => ∃ (v_1137 : Int32) (f_1138 : Nat → Int64), (60 - v_1137.toInt).toNat = n ∧ ((0 : Int) ≤ v_1137.toInt ∧ v_1137.toInt ≤ 60) ∧ st = [] ∧ vPD G A H [(ce_X10 ob ob_thrown ob_world ob_images ob_hasImage ob_tape ob_taped ob_five ob_size ob_at ob_from ob_token ob_value ob_faultKind ob_faultPlace ob_fresh ob_parts ob_houses ob_houseMany ob_worthOf ob_byCall ob_over ob_bestSet ob_bestOver ob_bestWorth ob_row ob_tenDebts ob_tenMany ob_fewestBy ob_covered ob_queue ob_cameBy ob_parent ob_met ob_calls ob_callMany ob_calledOn ob_saved ob_many ob_width ob_numbers ob_moving), (ce_i4 y ob_many fob_many), (ce_i4 y ob_width fob_width), (ce_l240 y ob_numbers fob_numbers), (ce_l60 y ob_moving f_1138)] ∧ va_S A s.heap H locs ∧ lv_has ls 7 [(6, .int v_1137), (0, .ref ob), (1, .int 2), (2, .int a2), (3, .int 2), (4, .int a4), (5, .int a5)]) ?_ (n := (60 - (0 : Int32).toInt).toNat) ⟨0, fob_moving, rfl, (bw (0) (60) (bkc (x := 0) (c := 0) (by decide)) (by decide)), rfl, ⟨hP, hD⟩, hS, lv_sub hl [0, 1, 2, 3, 4, 5, 6] rfl⟩
                  rintro n ih_1145 H locs ls st ⟨v_1137, f_1138, hn_1145, bv_1137, rfl, ⟨hP, hD⟩, hS, hl⟩
                  refine lv_iload hx hb dX10_paste_113 (lv_at hl 0 rfl) ?_
                  refine lv_iload hx hb dX10_paste_115 (lv_at hl 6 rfl) ?_
                  refine lv_icmp_ge (tgt := 147) hx hb dX10_paste_117 (by decide) (fun c_1146 => ?_) (fun c_1146 => ?_)
                  · skip
                    have nc_1146 := nb_le (60) (0) c_1146 h_1031 bv_1137 (by decide)
                    refine lv_iconst (v := 0) hx hb dX10_paste_147 (by decide) ?_
                    refine lv_istore (lv' := [(6, .int 0), (0, .ref ob), (1, .int 2), (2, .int a2), (3, .int 2), (4, .int a4), (5, .int a5)]) hx hb dX10_paste_148 hl (by decide) rfl (fun ls hl => ?_)
                    refine loopX (fun n H locs ls st => ∃ (v_1252 : Int32) (f_1253 : Nat → Int64), (60 - v_1252.toInt).toNat = n ∧ ((0 : Int) ≤ v_1252.toInt ∧ v_1252.toInt ≤ 60) ∧ st = [] ∧ vPD G A H [(ce_X10 ob ob_thrown ob_world ob_images ob_hasImage ob_tape ob_taped ob_five ob_size ob_at ob_from ob_token ob_value ob_faultKind ob_faultPlace ob_fresh ob_parts ob_houses ob_houseMany ob_worthOf ob_byCall ob_over ob_bestSet ob_bestOver ob_bestWorth ob_row ob_tenDebts ob_tenMany ob_fewestBy ob_covered ob_queue ob_cameBy ob_parent ob_met ob_calls ob_callMany ob_calledOn ob_saved ob_many ob_width ob_numbers ob_moving), (ce_i4 y ob_many fob_many), (ce_i4 y ob_width fob_width), (ce_l240 y ob_numbers f_1253), (ce_l60 y ob_moving f_1138)] ∧ va_S A s.heap H locs ∧ lv_has ls 7 [(6, .int v_1252), (0, .ref ob), (3, .int 2), (4, .int a4), (5, .int a5)]) ?_ (n := (60 - (0 : Int32).toInt).toNat) ⟨0, fob_numbers, rfl, (bw (0) (60) (bkc (x := 0) (c := 0) (by decide)) (by decide)), rfl, ⟨hP, hD⟩, hS, lv_sub hl [0, 1, 4, 5, 6] rfl⟩
                    rintro n ih_1260 H locs ls st ⟨v_1252, f_1253, hn_1260, bv_1252, rfl, ⟨hP, hD⟩, hS, hl⟩
                    refine lv_iload hx hb dX10_paste_150 (lv_at hl 0 rfl) ?_
                    refine lv_iload hx hb dX10_paste_152 (lv_at hl 4 rfl) ?_
                    refine lv_icmp_ge (tgt := 185) hx hb dX10_paste_154 (by decide) (fun c_1261 => ?_) (fun c_1261 => ?_)
                    · skip
                      have nc_1261 := nb_le (60) (0) c_1261 nc_1146.1 bv_1252 (by decide)
                      refine lv_iconst (v := 0) hx hb dX10_paste_185 (by decide) ?_
                      exact W.iret (v := 0) hx hb hr (fun t ht hW => ⟨⟨0, _, rfl, Or.inr (Or.inr (⟨f_1253, f_1138, h_1029, h_1030, nc_1261.1, by have h90 : Int32.toInt 0 = 0 := (by decide); have h91 : Int32.toInt 2 = 2 := (by decide); omega, rfl, rfl⟩)), by rw [ht]; exact hP, hD⟩, hS.F ht⟩) hS.2.2 dX10_paste_186
                    · skip
                      have nc_1261 := nb_nle (59) (1) c_1261 bv_1252 nc_1146.1 (by decide)
                      refine lv_aload_n hx hb dX10_paste_157 rfl (lv_at hl 1 rfl) ?_
                      refine va_get (D := G) (ci := 10) (v := .ref ob_numbers) (C := RX10) (T := TX10) (N := 41) hx hb hw0 inA_wsX100 hown hK.1 hP 0 rfl rfl 39 (by decide) (hw0 _ m_435) (fun _ h9 => h9) rfl dX10_paste_158 ?_
                      refine lv_bipush (v := 60) hx hb dX10_paste_161 (by decide) ?_
                      refine lv_iload_n hx hb dX10_paste_163 rfl (lv_at hl 2 rfl) ?_
                      refine lv_imul hx hb dX10_paste_164 ?_
                      refine lv_topi (fun v_1262 ev_1262 => ?_)
                      obtain rfl : 120 = v_1262 := (ev_1262.trans (by decide)).symm
                      refine lv_iload hx hb dX10_paste_165 (lv_at hl 3 rfl) ?_
                      refine lv_iadd hx hb dX10_paste_167 ?_
                      refine lv_topi (fun v_1263 ev_1263 => ?_)
                      have qv_1263 := ba_add ev_1263 (bkc (x := 120) (c := 120) (by decide)) h_1030 (by decide)
                      have bv_1263 : (120 : Int) ≤ v_1263.toInt ∧ v_1263.toInt ≤ 180 := bq_add qv_1263 (bkc (x := 120) (c := 120) (by decide)) h_1030 _ _ (by decide)
                      have qv_1263 : v_1263.toInt = (120) + a4.toInt := qv_1263
                      refine lv_iload hx hb dX10_paste_168 (lv_at hl 0 rfl) ?_
                      refine lv_iadd hx hb dX10_paste_170 ?_
                      refine lv_topi (fun v_1264 ev_1264 => ?_)
                      have qv_1264 := ba_add ev_1264 bv_1263 nc_1261.1 (by decide)
                      have bv_1264 : (120 : Int) ≤ v_1264.toInt ∧ v_1264.toInt ≤ 239 := bq_add qv_1264 bv_1263 nc_1261.1 _ _ (by decide)
                      refine lv_aload_n hx hb dX10_paste_171 rfl (lv_at hl 1 rfl) ?_
                      refine va_get (D := G) (ci := 10) (v := .ref ob_moving) (C := RX10) (T := TX10) (N := 41) hx hb hw0 inA_wsX100 hown hK.1 hP 0 rfl rfl 40 (by decide) (hw0 _ m_529) (fun _ h9 => h9) rfl dX10_paste_172 ?_
                      refine lv_iload hx hb dX10_paste_175 (lv_at hl 0 rfl) ?_
                      refine va_lald hx hb hK.1 hP 4 2 rfl rfl (vi nc_1261.1 (by decide)) dX10_paste_177 ?_
                      refine lv_topl (fun v_1265 ev_1265 => ?_)
                      refine va_last hx hb hK.1 hP hD hS 3 2 rfl rfl (vi bv_1264 (by decide)) dX10_paste_178 (fun H locs hP hD hS => ?_)
                      generalize hf_1266 : (vp_updL f_1253 (v_1264 : Int32).toNatClampNeg v_1265) = f_1266 at hP hD
                      obtain ⟨hP, hD⟩ : vPD G A H [(ce_X10 ob ob_thrown ob_world ob_images ob_hasImage ob_tape ob_taped ob_five ob_size ob_at ob_from ob_token ob_value ob_faultKind ob_faultPlace ob_fresh ob_parts ob_houses ob_houseMany ob_worthOf ob_byCall ob_over ob_bestSet ob_bestOver ob_bestWorth ob_row ob_tenDebts ob_tenMany ob_fewestBy ob_covered ob_queue ob_cameBy ob_parent ob_met ob_calls ob_callMany ob_calledOn ob_saved ob_many ob_width ob_numbers ob_moving), (ce_i4 y ob_many fob_many), (ce_i4 y ob_width fob_width), (ce_l240 y ob_numbers f_1266), (ce_l60 y ob_moving f_1138)] := ⟨hP, hD⟩
                      obtain ⟨v_1267, ev_1267⟩ : ∃ z : Int32, z = v_1252 + 1 := ⟨_, rfl⟩
                      have qv_1267 := ba_add ev_1267 nc_1261.1 (bkc (x := 1) (c := 1) (by decide)) (by decide)
                      have bv_1267 : (1 : Int) ≤ v_1267.toInt ∧ v_1267.toInt ≤ 60 := bq_add qv_1267 nc_1261.1 (bkc (x := 1) (c := 1) (by decide)) _ _ (by decide)
                      have qv_1267 : v_1267.toInt = v_1252.toInt + (1) := qv_1267
                      refine lv_iinc (v := v_1267) (lv' := [(6, .int v_1267), (0, .ref ob), (3, .int 2), (4, .int a4), (5, .int a5)]) hx hb dX10_paste_179 hl (k := 0) rfl (ev_1267.symm) (by decide) rfl (fun ls hl => ?_)
                      refine lv_goto (tgt := 150) hx hb dX10_paste_182 (by decide) ?_
                      exact ih_1260 _ (ml_inc (hi := 60) hn_1260 qv_1267 (by decide) ((bw (0) (60) bv_1267 (by decide))).2) _ _ _ _ ⟨v_1267, f_1266, rfl, (bw (0) (60) bv_1267 (by decide)), rfl, ⟨hP, hD⟩, hS, lv_sub hl [0, 1, 2, 3, 4] rfl⟩
                  · skip
                    have nc_1146 := nb_nle (59) (1) c_1146 bv_1137 h_1031 (by decide)
                    refine lv_aload_n hx hb dX10_paste_120 rfl (lv_at hl 1 rfl) ?_
                    refine va_get (D := G) (ci := 10) (v := .ref ob_moving) (C := RX10) (T := TX10) (N := 41) hx hb hw0 inA_wsX100 hown hK.1 hP 0 rfl rfl 40 (by decide) (hw0 _ m_529) (fun _ h9 => h9) rfl dX10_paste_121 ?_
                    refine lv_iload hx hb dX10_paste_124 (lv_at hl 0 rfl) ?_
                    refine lv_aload_n hx hb dX10_paste_126 rfl (lv_at hl 1 rfl) ?_
                    refine va_get (D := G) (ci := 10) (v := .ref ob_numbers) (C := RX10) (T := TX10) (N := 41) hx hb hw0 inA_wsX100 hown hK.1 hP 0 rfl rfl 39 (by decide) (hw0 _ m_435) (fun _ h9 => h9) rfl dX10_paste_127 ?_
                    refine lv_bipush (v := 60) hx hb dX10_paste_130 (by decide) ?_
                    refine lv_iload_n hx hb dX10_paste_132 rfl (lv_at hl 2 rfl) ?_
                    refine lv_imul hx hb dX10_paste_133 ?_
                    refine lv_topi (fun v_1268 ev_1268 => ?_)
                    obtain rfl : 120 = v_1268 := (ev_1268.trans (by decide)).symm
                    refine lv_iload_n hx hb dX10_paste_134 rfl (lv_at hl 3 rfl) ?_
                    refine lv_iadd hx hb dX10_paste_135 ?_
                    refine lv_topi (fun v_1269 ev_1269 => ?_)
                    have qv_1269 := ba_add ev_1269 (bkc (x := 120) (c := 120) (by decide)) h_1029 (by decide)
                    have bv_1269 : (120 : Int) ≤ v_1269.toInt ∧ v_1269.toInt ≤ 180 := bq_add qv_1269 (bkc (x := 120) (c := 120) (by decide)) h_1029 _ _ (by decide)
                    have qv_1269 : v_1269.toInt = (120) + a2.toInt := qv_1269
                    refine lv_iload hx hb dX10_paste_136 (lv_at hl 0 rfl) ?_
                    refine lv_iadd hx hb dX10_paste_138 ?_
                    refine lv_topi (fun v_1270 ev_1270 => ?_)
                    have qv_1270 := ba_add ev_1270 bv_1269 nc_1146.1 (by decide)
                    have bv_1270 : (120 : Int) ≤ v_1270.toInt ∧ v_1270.toInt ≤ 239 := bq_add qv_1270 bv_1269 nc_1146.1 _ _ (by decide)
                    refine va_lald hx hb hK.1 hP 3 2 rfl rfl (vi bv_1270 (by decide)) dX10_paste_139 ?_
                    refine lv_topl (fun v_1271 ev_1271 => ?_)
                    refine va_last hx hb hK.1 hP hD hS 4 2 rfl rfl (vi nc_1146.1 (by decide)) dX10_paste_140 (fun H locs hP hD hS => ?_)
                    generalize hf_1272 : (vp_updL f_1138 (v_1137 : Int32).toNatClampNeg v_1271) = f_1272 at hP hD
                    obtain ⟨hP, hD⟩ : vPD G A H [(ce_X10 ob ob_thrown ob_world ob_images ob_hasImage ob_tape ob_taped ob_five ob_size ob_at ob_from ob_token ob_value ob_faultKind ob_faultPlace ob_fresh ob_parts ob_houses ob_houseMany ob_worthOf ob_byCall ob_over ob_bestSet ob_bestOver ob_bestWorth ob_row ob_tenDebts ob_tenMany ob_fewestBy ob_covered ob_queue ob_cameBy ob_parent ob_met ob_calls ob_callMany ob_calledOn ob_saved ob_many ob_width ob_numbers ob_moving), (ce_i4 y ob_many fob_many), (ce_i4 y ob_width fob_width), (ce_l240 y ob_numbers fob_numbers), (ce_l60 y ob_moving f_1272)] := ⟨hP, hD⟩
                    obtain ⟨v_1273, ev_1273⟩ : ∃ z : Int32, z = v_1137 + 1 := ⟨_, rfl⟩
                    have qv_1273 := ba_add ev_1273 nc_1146.1 (bkc (x := 1) (c := 1) (by decide)) (by decide)
                    have bv_1273 : (1 : Int) ≤ v_1273.toInt ∧ v_1273.toInt ≤ 60 := bq_add qv_1273 nc_1146.1 (bkc (x := 1) (c := 1) (by decide)) _ _ (by decide)
                    have qv_1273 : v_1273.toInt = v_1137.toInt + (1) := qv_1273
                    refine lv_iinc (v := v_1273) (lv' := [(6, .int v_1273), (0, .ref ob), (1, .int 2), (2, .int a2), (3, .int 2), (4, .int a4), (5, .int a5)]) hx hb dX10_paste_141 hl (k := 0) rfl (ev_1273.symm) (by decide) rfl (fun ls hl => ?_)
                    refine lv_goto (tgt := 113) hx hb dX10_paste_144 (by decide) ?_
                    exact ih_1145 _ (ml_inc (hi := 60) hn_1145 qv_1273 (by decide) ((bw (0) (60) bv_1273 (by decide))).2) _ _ _ _ ⟨v_1273, f_1272, rfl, (bw (0) (60) bv_1273 (by decide)), rfl, ⟨hP, hD⟩, hS, lv_sub hl [0, 1, 2, 3, 4, 5, 6] rfl⟩
                · skip
                  have nc_1028 := jl_nle c_1028
                  refine lv_bipush (v := (-7)) hx hb dX10_paste_107 (by decide) ?_
                  exact W.iret (v := (-7)) hx hb hr (fun t ht hW => ⟨⟨(-7), _, rfl, Or.inr (Or.inl (⟨by have h90 : Int32.toInt (-7) = -7 := (by decide); have h91 : Int32.toInt 2 = 2 := (by decide); omega, rfl, rfl⟩)), by rw [ht]; exact hP, hD⟩, hS.F ht⟩) hS.2.2 dX10_paste_109

set_option maxHeartbeats 4000000 in
set_option maxRecDepth 100000 in
theorem fpasteM23 (l : Launch) (G : va_G) (y : Nat → ClassId) (sz : Nat) (ob : Nat) (a2 : Int32) (a4 : Int32) (a5 : Int32) (ob_thrown : Int32) (ob_world : Nat) (ob_images : Nat) (ob_hasImage : Nat) (ob_tape : Nat) (ob_taped : Int32) (ob_five : Nat) (ob_size : Int32) (ob_at : Int32) (ob_from : Int32) (ob_token : Int32) (ob_value : Int32) (ob_faultKind : Int32) (ob_faultPlace : Int32) (ob_fresh : Nat) (ob_parts : Nat) (ob_houses : Nat) (ob_houseMany : Int32) (ob_worthOf : Nat) (ob_byCall : Nat) (ob_over : Nat) (ob_bestSet : Int32) (ob_bestOver : Int32) (ob_bestWorth : Int32) (ob_row : Nat) (ob_tenDebts : Nat) (ob_tenMany : Int32) (ob_fewestBy : Nat) (ob_covered : Nat) (ob_queue : Nat) (ob_cameBy : Nat) (ob_parent : Nat) (ob_met : Nat) (ob_calls : Nat) (ob_callMany : Int32) (ob_calledOn : Nat) (ob_saved : Nat) (ob_many : Nat) (ob_width : Nat) (ob_numbers : Nat) (ob_moving : Nat) (fob_many : Nat → Int32) (fob_width : Nat → Int32) (fob_numbers : Nat → Int64) (fob_moving : Nat → Int64) (p_ob_taped : (0 : Int) ≤ ob_taped.toInt ∧ ob_taped.toInt ≤ 1400) (p_ob_size : (0 : Int) ≤ ob_size.toInt ∧ ob_size.toInt ≤ 1400) (p_ob_at : (0 : Int) ≤ ob_at.toInt ∧ ob_at.toInt ≤ 1400) (p_ob_from : (0 : Int) ≤ ob_from.toInt ∧ ob_from.toInt ≤ 1400) (p_ob_token : (0 : Int) ≤ ob_token.toInt ∧ ob_token.toInt ≤ 4) (p_ob_value : (0 : Int) ≤ ob_value.toInt ∧ ob_value.toInt ≤ 9999) (p_ob_faultKind : (0 : Int) ≤ ob_faultKind.toInt ∧ ob_faultKind.toInt ≤ 3) (p_ob_houseMany : (0 : Int) ≤ ob_houseMany.toInt ∧ ob_houseMany.toInt ≤ 10) (p_ob_bestSet : (0 : Int) ≤ ob_bestSet.toInt ∧ ob_bestSet.toInt ≤ 1023) (p_ob_bestOver : (-1 : Int) ≤ ob_bestOver.toInt ∧ ob_bestOver.toInt ≤ 180) (p_ob_tenMany : (0 : Int) ≤ ob_tenMany.toInt ∧ ob_tenMany.toInt ≤ 10) (p_ob_callMany : (0 : Int) ≤ ob_callMany.toInt ∧ ob_callMany.toInt ≤ 16) (p_fob_many : ∀ i, (-1 : Int) ≤ (fob_many i).toInt ∧ (fob_many i).toInt ≤ 60) (p_fob_width : ∀ i, (0 : Int) ≤ (fob_width i).toInt ∧ (fob_width i).toInt ≤ 3) : Met l yX10_paste (Cond.code yX10_paste cX10_paste 7 (some .int) :: wAll) ({ frames := 2, cells := 0, slots := 0, locals := 45 }) (va_Pc [.ref ob, .int 2, .int a2, .int 3, .int a4, .int a5] (kp G y sz [(ce_X10 ob ob_thrown ob_world ob_images ob_hasImage ob_tape ob_taped ob_five ob_size ob_at ob_from ob_token ob_value ob_faultKind ob_faultPlace ob_fresh ob_parts ob_houses ob_houseMany ob_worthOf ob_byCall ob_over ob_bestSet ob_bestOver ob_bestWorth ob_row ob_tenDebts ob_tenMany ob_fewestBy ob_covered ob_queue ob_cameBy ob_parent ob_met ob_calls ob_callMany ob_calledOn ob_saved ob_many ob_width ob_numbers ob_moving), (ce_i4 y ob_many fob_many), (ce_i4 y ob_width fob_width), (ce_l240 y ob_numbers fob_numbers), (ce_l60 y ob_moving fob_moving)])) (va_Qi (fun (r : Int32) (w : va_W) => (((fob_many 2).toInt = -1 ∨ (fob_many 3).toInt = -1) ∧ r = (-6) ∧ w = [(ce_X10 ob ob_thrown ob_world ob_images ob_hasImage ob_tape ob_taped ob_five ob_size ob_at ob_from ob_token ob_value ob_faultKind ob_faultPlace ob_fresh ob_parts ob_houses ob_houseMany ob_worthOf ob_byCall ob_over ob_bestSet ob_bestOver ob_bestWorth ob_row ob_tenDebts ob_tenMany ob_fewestBy ob_covered ob_queue ob_cameBy ob_parent ob_met ob_calls ob_callMany ob_calledOn ob_saved ob_many ob_width ob_numbers ob_moving), (ce_i4 y ob_many fob_many), (ce_i4 y ob_width fob_width), (ce_l240 y ob_numbers fob_numbers), (ce_l60 y ob_moving fob_moving)]) ∨ ((¬ (fob_many 2).toInt = -1 ∧ ¬ (fob_many 3).toInt = -1 ∧ (fob_width 2).toInt = (fob_width 3).toInt ∧ ¬ (0 ≤ a2.toInt ∧ 0 ≤ a4.toInt ∧ 0 ≤ a5.toInt ∧ a2.toInt + a5.toInt ≤ (fob_many 2).toInt ∧ a4.toInt + a5.toInt ≤ (fob_many 3).toInt)) ∧ r = (-7) ∧ w = [(ce_X10 ob ob_thrown ob_world ob_images ob_hasImage ob_tape ob_taped ob_five ob_size ob_at ob_from ob_token ob_value ob_faultKind ob_faultPlace ob_fresh ob_parts ob_houses ob_houseMany ob_worthOf ob_byCall ob_over ob_bestSet ob_bestOver ob_bestWorth ob_row ob_tenDebts ob_tenMany ob_fewestBy ob_covered ob_queue ob_cameBy ob_parent ob_met ob_calls ob_callMany ob_calledOn ob_saved ob_many ob_width ob_numbers ob_moving), (ce_i4 y ob_many fob_many), (ce_i4 y ob_width fob_width), (ce_l240 y ob_numbers fob_numbers), (ce_l60 y ob_moving fob_moving)]) ∨ ((¬ (fob_many 2).toInt = -1 ∧ ¬ (fob_many 3).toInt = -1 ∧ ¬ (fob_width 2).toInt = (fob_width 3).toInt) ∧ r = (-8) ∧ w = [(ce_X10 ob ob_thrown ob_world ob_images ob_hasImage ob_tape ob_taped ob_five ob_size ob_at ob_from ob_token ob_value ob_faultKind ob_faultPlace ob_fresh ob_parts ob_houses ob_houseMany ob_worthOf ob_byCall ob_over ob_bestSet ob_bestOver ob_bestWorth ob_row ob_tenDebts ob_tenMany ob_fewestBy ob_covered ob_queue ob_cameBy ob_parent ob_met ob_calls ob_callMany ob_calledOn ob_saved ob_many ob_width ob_numbers ob_moving), (ce_i4 y ob_many fob_many), (ce_i4 y ob_width fob_width), (ce_l240 y ob_numbers fob_numbers), (ce_l60 y ob_moving fob_moving)]) ∨ (∃ (f_579 : Nat → Int64) (f_580 : Nat → Int64), ((0 : Int) ≤ a2.toInt ∧ a2.toInt ≤ 60) ∧ ((0 : Int) ≤ a4.toInt ∧ a4.toInt ≤ 60) ∧ ((0 : Int) ≤ a5.toInt ∧ a5.toInt ≤ 60) ∧ (¬ (fob_many 2).toInt = -1 ∧ ¬ (fob_many 3).toInt = -1 ∧ (fob_width 2).toInt = (fob_width 3).toInt ∧ 0 ≤ a2.toInt ∧ 0 ≤ a4.toInt ∧ 0 ≤ a5.toInt ∧ a2.toInt + a5.toInt ≤ (fob_many 2).toInt ∧ a4.toInt + a5.toInt ≤ (fob_many 3).toInt) ∧ r = 0 ∧ w = [(ce_X10 ob ob_thrown ob_world ob_images ob_hasImage ob_tape ob_taped ob_five ob_size ob_at ob_from ob_token ob_value ob_faultKind ob_faultPlace ob_fresh ob_parts ob_houses ob_houseMany ob_worthOf ob_byCall ob_over ob_bestSet ob_bestOver ob_bestWorth ob_row ob_tenDebts ob_tenMany ob_fewestBy ob_covered ob_queue ob_cameBy ob_parent ob_met ob_calls ob_callMany ob_calledOn ob_saved ob_many ob_width ob_numbers ob_moving), (ce_i4 y ob_many fob_many), (ce_i4 y ob_width fob_width), (ce_l240 y ob_numbers f_579), (ce_l60 y ob_moving f_580)])) (kq G (va_A [(ce_X10 ob ob_thrown ob_world ob_images ob_hasImage ob_tape ob_taped ob_five ob_size ob_at ob_from ob_token ob_value ob_faultKind ob_faultPlace ob_fresh ob_parts ob_houses ob_houseMany ob_worthOf ob_byCall ob_over ob_bestSet ob_bestOver ob_bestWorth ob_row ob_tenDebts ob_tenMany ob_fewestBy ob_covered ob_queue ob_cameBy ob_parent ob_met ob_calls ob_callMany ob_calledOn ob_saved ob_many ob_width ob_numbers ob_moving), (ce_i4 y ob_many fob_many), (ce_i4 y ob_width fob_width), (ce_l240 y ob_numbers fob_numbers), (ce_l60 y ob_moving fob_moving)] sz)) (va_A [(ce_X10 ob ob_thrown ob_world ob_images ob_hasImage ob_tape ob_taped ob_five ob_size ob_at ob_from ob_token ob_value ob_faultKind ob_faultPlace ob_fresh ob_parts ob_houses ob_houseMany ob_worthOf ob_byCall ob_over ob_bestSet ob_bestOver ob_bestWorth ob_row ob_tenDebts ob_tenMany ob_fewestBy ob_covered ob_queue ob_cameBy ob_parent ob_met ob_calls ob_callMany ob_calledOn ob_saved ob_many ob_width ob_numbers ob_moving), (ce_i4 y ob_many fob_many), (ce_i4 y ob_width fob_width), (ce_l240 y ob_numbers fob_numbers), (ce_l60 y ob_moving fob_moving)] sz)) 0 0 (va_A [(ce_X10 ob ob_thrown ob_world ob_images ob_hasImage ob_tape ob_taped ob_five ob_size ob_at ob_from ob_token ob_value ob_faultKind ob_faultPlace ob_fresh ob_parts ob_houses ob_houseMany ob_worthOf ob_byCall ob_over ob_bestSet ob_bestOver ob_bestWorth ob_row ob_tenDebts ob_tenMany ob_fewestBy ob_covered ob_queue ob_cameBy ob_parent ob_met ob_calls ob_callMany ob_calledOn ob_saved ob_many ob_width ob_numbers ob_moving), (ce_i4 y ob_many fob_many), (ce_i4 y ob_width fob_width), (ce_l240 y ob_numbers fob_numbers), (ce_l60 y ob_moving fob_moving)] sz) := by
  refine Met.ofW (cc := cX10_paste) (maxL := 7) (ret := (some .int)) (by decide) rfl ?_
  intro p e s m args below meth c s₁ B hml hv
  obtain ⟨rfl, hsz, hP, hK, hD0⟩ := hv
  have hx := B.exec
  have hb := B.bytes
  have hr := B.returns
  have hw0 : ∀ w ∈ wAll, w.before _ s = true := fun w h => atoms_spec (ws := Cond.code yX10_paste cX10_paste 7 (some .int) :: wAll) B.pre w (List.mem_cons_of_mem _ h)
  have hown : s.vm.findClass RX10 = some m.cls := findClass_of_methodNamed B.named
  subst hsz
  have hD := hD0.self (sz := s.heap.size)
  generalize hAe : va_A [(ce_X10 ob ob_thrown ob_world ob_images ob_hasImage ob_tape ob_taped ob_five ob_size ob_at ob_from ob_token ob_value ob_faultKind ob_faultPlace ob_fresh ob_parts ob_houses ob_houseMany ob_worthOf ob_byCall ob_over ob_bestSet ob_bestOver ob_bestWorth ob_row ob_tenDebts ob_tenMany ob_fewestBy ob_covered ob_queue ob_cameBy ob_parent ob_met ob_calls ob_callMany ob_calledOn ob_saved ob_many ob_width ob_numbers ob_moving), (ce_i4 y ob_many fob_many), (ce_i4 y ob_width fob_width), (ce_l240 y ob_numbers fob_numbers), (ce_l60 y ob_moving fob_moving)] s.heap.size = A at hD ⊢
  have hA : ∀ q : Nat, s.heap.size ≤ q → A q := fun q h => by rw [← hAe]; exact Or.inr h
  have hS : va_S A s.heap s.heap [] := va_S.rf
  have hP : va_P G vwCl [(ce_X10 ob ob_thrown ob_world ob_images ob_hasImage ob_tape ob_taped ob_five ob_size ob_at ob_from ob_token ob_value ob_faultKind ob_faultPlace ob_fresh ob_parts ob_houses ob_houseMany ob_worthOf ob_byCall ob_over ob_bestSet ob_bestOver ob_bestWorth ob_row ob_tenDebts ob_tenMany ob_fewestBy ob_covered ob_queue ob_cameBy ob_parent ob_met ob_calls ob_callMany ob_calledOn ob_saved ob_many ob_width ob_numbers ob_moving), (ce_i4 y ob_many fob_many), (ce_i4 y ob_width fob_width), (ce_l240 y ob_numbers fob_numbers), (ce_l60 y ob_moving fob_moving)] s.heap := hP
  have hl := lv_entry ([.ref ob, .int 2, .int a2, .int 3, .int a4, .int a5]) (n := 7) (Nat.le_of_ble_eq_true rfl)
  rw [lg_entry_eq]
  generalize (lg_sl ([.ref ob, .int 2, .int a2, .int 3, .int a4, .int a5]) ++ List.replicate (7 - (lg_sl ([.ref ob, .int 2, .int a2, .int 3, .int a4, .int a5])).length) Slot.unset).toArray = ls at hl ⊢
  have hl : lv_has ls 7 [(0, .ref ob), (1, .int 2), (2, .int a2), (3, .int 3), (4, .int a4), (5, .int a5)] := hl
  refine lv_iload_n hx hb dX10_paste_0 rfl (lv_at hl 1 rfl) ?_
  refine cSim (As := [.int 2]) (rest := []) ⟨hx, hb, hml, hown, hw0⟩ hA hK hP hD hS [] (fisSlotM l G y _ 2 ) rfl ⟨(callB_of 1 hw0 (gA m_543) rfl rfl rfl (hw0 _ m_41) (hw0 _ m_433) cb_X10_isSlot ⟨Nat.le_of_ble_eq_true rfl, Nat.le_of_ble_eq_true rfl⟩), (hw0 _ m_434)⟩ rfl hl.1 (Nat.le_of_ble_eq_true rfl) dX10_paste_1 ⟨Nat.le_of_ble_eq_true rfl, Nat.le_of_ble_eq_true rfl⟩ (fun r_1001 w_1001 H locs hw_1001 hP hD hS => ?_)
  rcases hw_1001 with ⟨h_1002, rfl, rfl⟩ | ⟨h_1003, h_1004, rfl, rfl⟩
  · skip
    exact False.elim (by have h9 : Int32.toInt 2 = 2 := (by decide); omega)
  · skip
    obtain ⟨hP, hD⟩ : vPD G A H [(ce_X10 ob ob_thrown ob_world ob_images ob_hasImage ob_tape ob_taped ob_five ob_size ob_at ob_from ob_token ob_value ob_faultKind ob_faultPlace ob_fresh ob_parts ob_houses ob_houseMany ob_worthOf ob_byCall ob_over ob_bestSet ob_bestOver ob_bestWorth ob_row ob_tenDebts ob_tenMany ob_fewestBy ob_covered ob_queue ob_cameBy ob_parent ob_met ob_calls ob_callMany ob_calledOn ob_saved ob_many ob_width ob_numbers ob_moving), (ce_i4 y ob_many fob_many), (ce_i4 y ob_width fob_width), (ce_l240 y ob_numbers fob_numbers), (ce_l60 y ob_moving fob_moving)] := ⟨hP, hD⟩
    refine lv_if_eq (tgt := 14) hx hb dX10_paste_4 (by decide) (fun c9 => absurd c9 (by decide)) (fun _ => ?_)
    refine lv_iload_n hx hb dX10_paste_7 rfl (lv_at hl 3 rfl) ?_
    refine cSim (As := [.int 3]) (rest := []) ⟨hx, hb, hml, hown, hw0⟩ hA hK hP hD hS [] (fisSlotM l G y _ 3 ) rfl ⟨(callB_of 1 hw0 (gA m_543) rfl rfl rfl (hw0 _ m_41) (hw0 _ m_433) cb_X10_isSlot ⟨Nat.le_of_ble_eq_true rfl, Nat.le_of_ble_eq_true rfl⟩), (hw0 _ m_434)⟩ rfl hl.1 (Nat.le_of_ble_eq_true rfl) dX10_paste_8 ⟨Nat.le_of_ble_eq_true rfl, Nat.le_of_ble_eq_true rfl⟩ (fun r_1005 w_1005 H locs hw_1005 hP hD hS => ?_)
    rcases hw_1005 with ⟨h_1006, rfl, rfl⟩ | ⟨h_1007, h_1008, rfl, rfl⟩
    · skip
      exact False.elim (by have h9 : Int32.toInt 3 = 3 := (by decide); omega)
    · skip
      obtain ⟨hP, hD⟩ : vPD G A H [(ce_X10 ob ob_thrown ob_world ob_images ob_hasImage ob_tape ob_taped ob_five ob_size ob_at ob_from ob_token ob_value ob_faultKind ob_faultPlace ob_fresh ob_parts ob_houses ob_houseMany ob_worthOf ob_byCall ob_over ob_bestSet ob_bestOver ob_bestWorth ob_row ob_tenDebts ob_tenMany ob_fewestBy ob_covered ob_queue ob_cameBy ob_parent ob_met ob_calls ob_callMany ob_calledOn ob_saved ob_many ob_width ob_numbers ob_moving), (ce_i4 y ob_many fob_many), (ce_i4 y ob_width fob_width), (ce_l240 y ob_numbers fob_numbers), (ce_l60 y ob_moving fob_moving)] := ⟨hP, hD⟩
      refine lv_if_ne (tgt := 17) hx hb dX10_paste_11 (by decide) (fun _ => ?_) (fun c9 => absurd c9 (by decide))
      refine lv_aload_n hx hb dX10_paste_17 rfl (lv_at hl 0 rfl) ?_
      refine va_get (D := G) (ci := 10) (v := .ref ob_many) (C := RX10) (T := TX10) (N := 41) hx hb hw0 inA_wsX100 hown hK.1 hP 0 rfl rfl 37 (by decide) (hw0 _ m_406) (fun _ h9 => h9) rfl dX10_paste_18 ?_
      refine lv_iload_n hx hb dX10_paste_21 rfl (lv_at hl 1 rfl) ?_
      refine va_iald hx hb hK.1 hP 1 1 rfl rfl (vi (bkc (x := 2) (c := 2) (by decide)) (by decide)) dX10_paste_22 ?_
      refine lv_topi (fun v_1009 ev_1009 => ?_)
      have bv_1009 : (-1 : Int) ≤ v_1009.toInt ∧ v_1009.toInt ≤ 60 := rd_b ev_1009 p_fob_many
      have yv_1009 : v_1009.toInt = (fob_many 2).toInt := congrArg Int32.toInt ev_1009
      refine lv_iconst (v := (-1)) hx hb dX10_paste_23 (by decide) ?_
      refine lv_icmp_eq (tgt := 37) hx hb dX10_paste_24 (by decide) (fun c_1010 => ?_) (fun c_1010 => ?_)
      · skip
        have nc_1010 := nb_eq (-1) (-1) c_1010 bv_1009 (bkc (x := (-1)) (c := -1) (by decide)) (by decide)
        refine lv_bipush (v := (-6)) hx hb dX10_paste_37 (by decide) ?_
        exact W.iret (v := (-6)) hx hb hr (fun t ht hW => ⟨⟨(-6), _, rfl, Or.inl (⟨by have h90 : Int32.toInt (-6) = -6 := (by decide); have h91 : Int32.toInt 2 = 2 := (by decide); have h92 : Int32.toInt 3 = 3 := (by decide); omega, rfl, rfl⟩), by rw [ht]; exact hP, hD⟩, hS.F ht⟩) hS.2.2 dX10_paste_39
      · skip
        have nc_1010 := nb_ne (0) (60) c_1010 bv_1009 (k := -1) (by decide) (by decide)
        refine lv_aload_n hx hb dX10_paste_27 rfl (lv_at hl 0 rfl) ?_
        refine va_get (D := G) (ci := 10) (v := .ref ob_many) (C := RX10) (T := TX10) (N := 41) hx hb hw0 inA_wsX100 hown hK.1 hP 0 rfl rfl 37 (by decide) (hw0 _ m_406) (fun _ h9 => h9) rfl dX10_paste_28 ?_
        refine lv_iload_n hx hb dX10_paste_31 rfl (lv_at hl 3 rfl) ?_
        refine va_iald hx hb hK.1 hP 1 1 rfl rfl (vi (bkc (x := 3) (c := 3) (by decide)) (by decide)) dX10_paste_32 ?_
        refine lv_topi (fun v_1011 ev_1011 => ?_)
        have bv_1011 : (-1 : Int) ≤ v_1011.toInt ∧ v_1011.toInt ≤ 60 := rd_b ev_1011 p_fob_many
        have yv_1011 : v_1011.toInt = (fob_many 3).toInt := congrArg Int32.toInt ev_1011
        refine lv_iconst (v := (-1)) hx hb dX10_paste_33 (by decide) ?_
        refine lv_icmp_ne (tgt := 40) hx hb dX10_paste_34 (by decide) (fun c_1012 => ?_) (fun c_1012 => ?_)
        · skip
          have nc_1012 := nb_ne (0) (60) c_1012 bv_1011 (k := -1) (by decide) (by decide)
          refine lv_aload_n hx hb dX10_paste_40 rfl (lv_at hl 0 rfl) ?_
          refine va_get (D := G) (ci := 10) (v := .ref ob_width) (C := RX10) (T := TX10) (N := 41) hx hb hw0 inA_wsX100 hown hK.1 hP 0 rfl rfl 38 (by decide) (hw0 _ m_527) (fun _ h9 => h9) rfl dX10_paste_41 ?_
          refine lv_iload_n hx hb dX10_paste_44 rfl (lv_at hl 1 rfl) ?_
          refine va_iald hx hb hK.1 hP 2 1 rfl rfl (vi (bkc (x := 2) (c := 2) (by decide)) (by decide)) dX10_paste_45 ?_
          refine lv_topi (fun v_1013 ev_1013 => ?_)
          have bv_1013 : (0 : Int) ≤ v_1013.toInt ∧ v_1013.toInt ≤ 3 := rd_b ev_1013 p_fob_width
          have yv_1013 : v_1013.toInt = (fob_width 2).toInt := congrArg Int32.toInt ev_1013
          refine lv_aload_n hx hb dX10_paste_46 rfl (lv_at hl 0 rfl) ?_
          refine va_get (D := G) (ci := 10) (v := .ref ob_width) (C := RX10) (T := TX10) (N := 41) hx hb hw0 inA_wsX100 hown hK.1 hP 0 rfl rfl 38 (by decide) (hw0 _ m_527) (fun _ h9 => h9) rfl dX10_paste_47 ?_
          refine lv_iload_n hx hb dX10_paste_50 rfl (lv_at hl 3 rfl) ?_
          refine va_iald hx hb hK.1 hP 2 1 rfl rfl (vi (bkc (x := 3) (c := 3) (by decide)) (by decide)) dX10_paste_51 ?_
          refine lv_topi (fun v_1014 ev_1014 => ?_)
          have bv_1014 : (0 : Int) ≤ v_1014.toInt ∧ v_1014.toInt ≤ 3 := rd_b ev_1014 p_fob_width
          have yv_1014 : v_1014.toInt = (fob_width 3).toInt := congrArg Int32.toInt ev_1014
          refine lv_icmp_eq (tgt := 58) hx hb dX10_paste_52 (by decide) (fun c_1015 => ?_) (fun c_1015 => ?_)
          · skip
            have nc_1015 := nb_eq (0) (3) c_1015 bv_1013 bv_1014 (by decide)
            refine lv_iload_n hx hb dX10_paste_58 rfl (lv_at hl 2 rfl) ?_
            refine lv_if_lt (tgt := 107) hx hb dX10_paste_59 (by decide) (fun c_1016 => ?_) (fun c_1016 => ?_)
            · skip
              have nc_1016 := nb_lt (-1) (0) c_1016 (btop a2) (bkc (x := 0) (c := 0) (by decide)) (by decide)
              refine lv_bipush (v := (-7)) hx hb dX10_paste_107 (by decide) ?_
              exact W.iret (v := (-7)) hx hb hr (fun t ht hW => ⟨⟨(-7), _, rfl, Or.inr (Or.inl (⟨by have h90 : Int32.toInt (-7) = -7 := (by decide); have h91 : Int32.toInt 2 = 2 := (by decide); have h92 : Int32.toInt 3 = 3 := (by decide); omega, rfl, rfl⟩)), by rw [ht]; exact hP, hD⟩, hS.F ht⟩) hS.2.2 dX10_paste_109
            · skip
              have nc_1016 := nb_nlt (0) (0) c_1016 (bkc (x := 0) (c := 0) (by decide)) (btop a2) (by decide)
              refine lv_iload hx hb dX10_paste_62 (lv_at hl 4 rfl) ?_
              refine lv_if_lt (tgt := 107) hx hb dX10_paste_64 (by decide) (fun c_1017 => ?_) (fun c_1017 => ?_)
              · skip
                have nc_1017 := nb_lt (-1) (0) c_1017 (btop a4) (bkc (x := 0) (c := 0) (by decide)) (by decide)
                refine lv_bipush (v := (-7)) hx hb dX10_paste_107 (by decide) ?_
                exact W.iret (v := (-7)) hx hb hr (fun t ht hW => ⟨⟨(-7), _, rfl, Or.inr (Or.inl (⟨by have h90 : Int32.toInt (-7) = -7 := (by decide); have h91 : Int32.toInt 2 = 2 := (by decide); have h92 : Int32.toInt 3 = 3 := (by decide); omega, rfl, rfl⟩)), by rw [ht]; exact hP, hD⟩, hS.F ht⟩) hS.2.2 dX10_paste_109
              · skip
                have nc_1017 := nb_nlt (0) (0) c_1017 (bkc (x := 0) (c := 0) (by decide)) (btop a4) (by decide)
                refine lv_iload hx hb dX10_paste_67 (lv_at hl 5 rfl) ?_
                refine lv_if_lt (tgt := 107) hx hb dX10_paste_69 (by decide) (fun c_1018 => ?_) (fun c_1018 => ?_)
                · skip
                  have nc_1018 := nb_lt (-1) (0) c_1018 (btop a5) (bkc (x := 0) (c := 0) (by decide)) (by decide)
                  refine lv_bipush (v := (-7)) hx hb dX10_paste_107 (by decide) ?_
                  exact W.iret (v := (-7)) hx hb hr (fun t ht hW => ⟨⟨(-7), _, rfl, Or.inr (Or.inl (⟨by have h90 : Int32.toInt (-7) = -7 := (by decide); have h91 : Int32.toInt 2 = 2 := (by decide); have h92 : Int32.toInt 3 = 3 := (by decide); omega, rfl, rfl⟩)), by rw [ht]; exact hP, hD⟩, hS.F ht⟩) hS.2.2 dX10_paste_109
                · skip
                  have nc_1018 := nb_nlt (0) (0) c_1018 (bkc (x := 0) (c := 0) (by decide)) (btop a5) (by decide)
                  refine lv_iload_n hx hb dX10_paste_72 rfl (lv_at hl 2 rfl) ?_
                  refine lv_i2l hx hb dX10_paste_73 rfl ?_
                  have kk_1019 : ((a2).toInt64).toInt = (a2).toInt := Int32.toInt_toInt64 _
                  refine lv_iload hx hb dX10_paste_74 (lv_at hl 5 rfl) ?_
                  refine lv_i2l hx hb dX10_paste_76 rfl ?_
                  have kk_1020 : ((a5).toInt64).toInt = (a5).toInt := Int32.toInt_toInt64 _
                  refine lv_ladd hx hb dX10_paste_77 ?_
                  refine lv_topl (fun v_1021 ev_1021 => ?_)
                  have qv_1021 := la_add ev_1021
                  refine lv_aload_n hx hb dX10_paste_78 rfl (lv_at hl 0 rfl) ?_
                  refine va_get (D := G) (ci := 10) (v := .ref ob_many) (C := RX10) (T := TX10) (N := 41) hx hb hw0 inA_wsX100 hown hK.1 hP 0 rfl rfl 37 (by decide) (hw0 _ m_406) (fun _ h9 => h9) rfl dX10_paste_79 ?_
                  refine lv_iload_n hx hb dX10_paste_82 rfl (lv_at hl 1 rfl) ?_
                  refine va_iald hx hb hK.1 hP 1 1 rfl rfl (vi (bkc (x := 2) (c := 2) (by decide)) (by decide)) dX10_paste_83 ?_
                  refine lv_topi (fun v_1022 ev_1022 => ?_)
                  obtain rfl : v_1009 = v_1022 := (ev_1022.trans (ev_1009.symm)).symm
                  refine lv_i2l hx hb dX10_paste_84 rfl ?_
                  have kk_1023 : ((v_1009).toInt64).toInt = (v_1009).toInt := Int32.toInt_toInt64 _
                  refine W.lcmp hx hb dX10_paste_85 ?_
                  refine lv_if_gt (tgt := 107) hx hb dX10_paste_86 (by decide) (fun c_1024 => ?_) (fun c_1024 => ?_)
                  · skip
                    have nc_1024 := jl_gt c_1024
                    refine lv_bipush (v := (-7)) hx hb dX10_paste_107 (by decide) ?_
                    exact W.iret (v := (-7)) hx hb hr (fun t ht hW => ⟨⟨(-7), _, rfl, Or.inr (Or.inl (⟨by have h90 : Int32.toInt (-7) = -7 := (by decide); have h91 : Int32.toInt 2 = 2 := (by decide); have h92 : Int32.toInt 3 = 3 := (by decide); omega, rfl, rfl⟩)), by rw [ht]; exact hP, hD⟩, hS.F ht⟩) hS.2.2 dX10_paste_109
                  · skip
                    have nc_1024 := jl_ngt c_1024
                    refine lv_iload hx hb dX10_paste_89 (lv_at hl 4 rfl) ?_
                    refine lv_i2l hx hb dX10_paste_91 rfl ?_
                    have kk_1025 : ((a4).toInt64).toInt = (a4).toInt := Int32.toInt_toInt64 _
                    refine lv_iload hx hb dX10_paste_92 (lv_at hl 5 rfl) ?_
                    refine lv_i2l hx hb dX10_paste_94 rfl ?_
                    have kk_1026 : ((a5).toInt64).toInt = (a5).toInt := Int32.toInt_toInt64 _
                    refine lv_ladd hx hb dX10_paste_95 ?_
                    refine lv_topl (fun v_1027 ev_1027 => ?_)
                    have qv_1027 := la_add ev_1027
                    refine lv_aload_n hx hb dX10_paste_96 rfl (lv_at hl 0 rfl) ?_
                    refine va_get (D := G) (ci := 10) (v := .ref ob_many) (C := RX10) (T := TX10) (N := 41) hx hb hw0 inA_wsX100 hown hK.1 hP 0 rfl rfl 37 (by decide) (hw0 _ m_406) (fun _ h9 => h9) rfl dX10_paste_97 ?_
                    refine lv_iload_n hx hb dX10_paste_100 rfl (lv_at hl 3 rfl) ?_
                    refine va_iald hx hb hK.1 hP 1 1 rfl rfl (vi (bkc (x := 3) (c := 3) (by decide)) (by decide)) dX10_paste_101 ?_
                    refine lv_topi (fun v_1028 ev_1028 => ?_)
                    obtain rfl : v_1011 = v_1028 := (ev_1028.trans (ev_1011.symm)).symm
                    refine lv_i2l hx hb dX10_paste_102 rfl ?_
                    have kk_1029 : ((v_1011).toInt64).toInt = (v_1011).toInt := Int32.toInt_toInt64 _
                    refine W.lcmp hx hb dX10_paste_103 ?_
                    refine lv_if_le (tgt := 110) hx hb dX10_paste_104 (by decide) (fun c_1030 => ?_) (fun c_1030 => ?_)
                    · skip
                      have nc_1030 := jl_le c_1030
                      have h_1031 : (0 : Int) ≤ a2.toInt ∧ a2.toInt ≤ 60 := by omega
                      have h_1032 : (0 : Int) ≤ a4.toInt ∧ a4.toInt ≤ 60 := by omega
                      have h_1033 : (0 : Int) ≤ a5.toInt ∧ a5.toInt ≤ 60 := by omega
                      refine lv_iconst (v := 0) hx hb dX10_paste_110 (by decide) ?_
                      refine lv_istore (lv' := [(6, .int 0), (0, .ref ob), (1, .int 2), (2, .int a2), (3, .int 3), (4, .int a4), (5, .int a5)]) hx hb dX10_paste_111 hl (by decide) rfl (fun ls hl => ?_)
                      refine loopX (fun n H locs ls st => ∃ (v_1139 : Int32) (f_1140 : Nat → Int64), (60 - v_1139.toInt).toNat = n ∧ ((0 : Int) ≤ v_1139.toInt ∧ v_1139.toInt ≤ 60) ∧ st = [] ∧ vPD G A H [(ce_X10 ob ob_thrown ob_world ob_images ob_hasImage ob_tape ob_taped ob_five ob_size ob_at ob_from ob_token ob_value ob_faultKind ob_faultPlace ob_fresh ob_parts ob_houses ob_houseMany ob_worthOf ob_byCall ob_over ob_bestSet ob_bestOver ob_bestWorth ob_row ob_tenDebts ob_tenMany ob_fewestBy ob_covered ob_queue ob_cameBy ob_parent ob_met ob_calls ob_callMany ob_calledOn ob_saved ob_many ob_width ob_numbers ob_moving), (ce_i4 y ob_many fob_many), (ce_i4 y ob_width fob_width), (ce_l240 y ob_numbers fob_numbers), (ce_l60 y ob_moving f_1140)] ∧ va_S A s.heap H locs ∧ lv_has ls 7 [(6, .int v_1139), (0, .ref ob), (1, .int 2), (2, .int a2), (3, .int 3), (4, .int a4), (5, .int a5)]) ?_ (n := (60 - (0 : Int32).toInt).toNat) ⟨0, fob_moving, rfl, (bw (0) (60) (bkc (x := 0) (c := 0) (by decide)) (by decide)), rfl, ⟨hP, hD⟩, hS, lv_sub hl [0, 1, 2, 3, 4, 5, 6] rfl⟩
                      rintro n ih_1147 H locs ls st ⟨v_1139, f_1140, hn_1147, bv_1139, rfl, ⟨hP, hD⟩, hS, hl⟩
                      refine lv_iload hx hb dX10_paste_113 (lv_at hl 0 rfl) ?_
                      refine lv_iload hx hb dX10_paste_115 (lv_at hl 6 rfl) ?_
                      refine lv_icmp_ge (tgt := 147) hx hb dX10_paste_117 (by decide) (fun c_1148 => ?_) (fun c_1148 => ?_)
                      · skip
                        have nc_1148 := nb_le (60) (0) c_1148 h_1033 bv_1139 (by decide)
                        refine lv_iconst (v := 0) hx hb dX10_paste_147 (by decide) ?_
                        refine lv_istore (lv' := [(6, .int 0), (0, .ref ob), (1, .int 2), (2, .int a2), (3, .int 3), (4, .int a4), (5, .int a5)]) hx hb dX10_paste_148 hl (by decide) rfl (fun ls hl => ?_)
                        refine loopX (fun n H locs ls st => ∃ (v_1266 : Int32) (f_1267 : Nat → Int64), (60 - v_1266.toInt).toNat = n ∧ ((0 : Int) ≤ v_1266.toInt ∧ v_1266.toInt ≤ 60) ∧ st = [] ∧ vPD G A H [(ce_X10 ob ob_thrown ob_world ob_images ob_hasImage ob_tape ob_taped ob_five ob_size ob_at ob_from ob_token ob_value ob_faultKind ob_faultPlace ob_fresh ob_parts ob_houses ob_houseMany ob_worthOf ob_byCall ob_over ob_bestSet ob_bestOver ob_bestWorth ob_row ob_tenDebts ob_tenMany ob_fewestBy ob_covered ob_queue ob_cameBy ob_parent ob_met ob_calls ob_callMany ob_calledOn ob_saved ob_many ob_width ob_numbers ob_moving), (ce_i4 y ob_many fob_many), (ce_i4 y ob_width fob_width), (ce_l240 y ob_numbers f_1267), (ce_l60 y ob_moving f_1140)] ∧ va_S A s.heap H locs ∧ lv_has ls 7 [(6, .int v_1266), (0, .ref ob), (3, .int 3), (4, .int a4), (5, .int a5)]) ?_ (n := (60 - (0 : Int32).toInt).toNat) ⟨0, fob_numbers, rfl, (bw (0) (60) (bkc (x := 0) (c := 0) (by decide)) (by decide)), rfl, ⟨hP, hD⟩, hS, lv_sub hl [0, 1, 4, 5, 6] rfl⟩
                        rintro n ih_1275 H locs ls st ⟨v_1266, f_1267, hn_1275, bv_1266, rfl, ⟨hP, hD⟩, hS, hl⟩
                        refine lv_iload hx hb dX10_paste_150 (lv_at hl 0 rfl) ?_
                        refine lv_iload hx hb dX10_paste_152 (lv_at hl 4 rfl) ?_
                        refine lv_icmp_ge (tgt := 185) hx hb dX10_paste_154 (by decide) (fun c_1276 => ?_) (fun c_1276 => ?_)
                        · skip
                          have nc_1276 := nb_le (60) (0) c_1276 nc_1148.1 bv_1266 (by decide)
                          refine lv_iconst (v := 0) hx hb dX10_paste_185 (by decide) ?_
                          exact W.iret (v := 0) hx hb hr (fun t ht hW => ⟨⟨0, _, rfl, Or.inr (Or.inr (Or.inr (⟨f_1267, f_1140, h_1031, h_1032, nc_1276.1, by have h90 : Int32.toInt 0 = 0 := (by decide); have h91 : Int32.toInt 3 = 3 := (by decide); omega, rfl, rfl⟩))), by rw [ht]; exact hP, hD⟩, hS.F ht⟩) hS.2.2 dX10_paste_186
                        · skip
                          have nc_1276 := nb_nle (59) (1) c_1276 bv_1266 nc_1148.1 (by decide)
                          refine lv_aload_n hx hb dX10_paste_157 rfl (lv_at hl 1 rfl) ?_
                          refine va_get (D := G) (ci := 10) (v := .ref ob_numbers) (C := RX10) (T := TX10) (N := 41) hx hb hw0 inA_wsX100 hown hK.1 hP 0 rfl rfl 39 (by decide) (hw0 _ m_435) (fun _ h9 => h9) rfl dX10_paste_158 ?_
                          refine lv_bipush (v := 60) hx hb dX10_paste_161 (by decide) ?_
                          refine lv_iload_n hx hb dX10_paste_163 rfl (lv_at hl 2 rfl) ?_
                          refine lv_imul hx hb dX10_paste_164 ?_
                          refine lv_topi (fun v_1277 ev_1277 => ?_)
                          obtain rfl : 180 = v_1277 := (ev_1277.trans (by decide)).symm
                          refine lv_iload hx hb dX10_paste_165 (lv_at hl 3 rfl) ?_
                          refine lv_iadd hx hb dX10_paste_167 ?_
                          refine lv_topi (fun v_1278 ev_1278 => ?_)
                          have qv_1278 := ba_add ev_1278 (bkc (x := 180) (c := 180) (by decide)) h_1032 (by decide)
                          have bv_1278 : (180 : Int) ≤ v_1278.toInt ∧ v_1278.toInt ≤ 240 := bq_add qv_1278 (bkc (x := 180) (c := 180) (by decide)) h_1032 _ _ (by decide)
                          have qv_1278 : v_1278.toInt = (180) + a4.toInt := qv_1278
                          refine lv_iload hx hb dX10_paste_168 (lv_at hl 0 rfl) ?_
                          refine lv_iadd hx hb dX10_paste_170 ?_
                          refine lv_topi (fun v_1279 ev_1279 => ?_)
                          have qv_1279 := ba_add ev_1279 bv_1278 nc_1276.1 (by decide)
                          have bv_1279 : (180 : Int) ≤ v_1279.toInt ∧ v_1279.toInt ≤ 299 := bq_add qv_1279 bv_1278 nc_1276.1 _ _ (by decide)
                          have h_1280 : (0 : Int) ≤ v_1279.toInt ∧ v_1279.toInt ≤ 239 := by omega
                          refine lv_aload_n hx hb dX10_paste_171 rfl (lv_at hl 1 rfl) ?_
                          refine va_get (D := G) (ci := 10) (v := .ref ob_moving) (C := RX10) (T := TX10) (N := 41) hx hb hw0 inA_wsX100 hown hK.1 hP 0 rfl rfl 40 (by decide) (hw0 _ m_529) (fun _ h9 => h9) rfl dX10_paste_172 ?_
                          refine lv_iload hx hb dX10_paste_175 (lv_at hl 0 rfl) ?_
                          refine va_lald hx hb hK.1 hP 4 2 rfl rfl (vi nc_1276.1 (by decide)) dX10_paste_177 ?_
                          refine lv_topl (fun v_1281 ev_1281 => ?_)
                          refine va_last hx hb hK.1 hP hD hS 3 2 rfl rfl (vi h_1280 (by decide)) dX10_paste_178 (fun H locs hP hD hS => ?_)
                          generalize hf_1282 : (vp_updL f_1267 (v_1279 : Int32).toNatClampNeg v_1281) = f_1282 at hP hD
                          obtain ⟨hP, hD⟩ : vPD G A H [(ce_X10 ob ob_thrown ob_world ob_images ob_hasImage ob_tape ob_taped ob_five ob_size ob_at ob_from ob_token ob_value ob_faultKind ob_faultPlace ob_fresh ob_parts ob_houses ob_houseMany ob_worthOf ob_byCall ob_over ob_bestSet ob_bestOver ob_bestWorth ob_row ob_tenDebts ob_tenMany ob_fewestBy ob_covered ob_queue ob_cameBy ob_parent ob_met ob_calls ob_callMany ob_calledOn ob_saved ob_many ob_width ob_numbers ob_moving), (ce_i4 y ob_many fob_many), (ce_i4 y ob_width fob_width), (ce_l240 y ob_numbers f_1282), (ce_l60 y ob_moving f_1140)] := ⟨hP, hD⟩
                          obtain ⟨v_1283, ev_1283⟩ : ∃ z : Int32, z = v_1266 + 1 := ⟨_, rfl⟩
                          have qv_1283 := ba_add ev_1283 nc_1276.1 (bkc (x := 1) (c := 1) (by decide)) (by decide)
                          have bv_1283 : (1 : Int) ≤ v_1283.toInt ∧ v_1283.toInt ≤ 60 := bq_add qv_1283 nc_1276.1 (bkc (x := 1) (c := 1) (by decide)) _ _ (by decide)
                          have qv_1283 : v_1283.toInt = v_1266.toInt + (1) := qv_1283
                          refine lv_iinc (v := v_1283) (lv' := [(6, .int v_1283), (0, .ref ob), (3, .int 3), (4, .int a4), (5, .int a5)]) hx hb dX10_paste_179 hl (k := 0) rfl (ev_1283.symm) (by decide) rfl (fun ls hl => ?_)
                          refine lv_goto (tgt := 150) hx hb dX10_paste_182 (by decide) ?_
                          exact ih_1275 _ (ml_inc (hi := 60) hn_1275 qv_1283 (by decide) ((bw (0) (60) bv_1283 (by decide))).2) _ _ _ _ ⟨v_1283, f_1282, rfl, (bw (0) (60) bv_1283 (by decide)), rfl, ⟨hP, hD⟩, hS, lv_sub hl [0, 1, 2, 3, 4] rfl⟩
                      · skip
                        have nc_1148 := nb_nle (59) (1) c_1148 bv_1139 h_1033 (by decide)
                        refine lv_aload_n hx hb dX10_paste_120 rfl (lv_at hl 1 rfl) ?_
                        refine va_get (D := G) (ci := 10) (v := .ref ob_moving) (C := RX10) (T := TX10) (N := 41) hx hb hw0 inA_wsX100 hown hK.1 hP 0 rfl rfl 40 (by decide) (hw0 _ m_529) (fun _ h9 => h9) rfl dX10_paste_121 ?_
                        refine lv_iload hx hb dX10_paste_124 (lv_at hl 0 rfl) ?_
                        refine lv_aload_n hx hb dX10_paste_126 rfl (lv_at hl 1 rfl) ?_
                        refine va_get (D := G) (ci := 10) (v := .ref ob_numbers) (C := RX10) (T := TX10) (N := 41) hx hb hw0 inA_wsX100 hown hK.1 hP 0 rfl rfl 39 (by decide) (hw0 _ m_435) (fun _ h9 => h9) rfl dX10_paste_127 ?_
                        refine lv_bipush (v := 60) hx hb dX10_paste_130 (by decide) ?_
                        refine lv_iload_n hx hb dX10_paste_132 rfl (lv_at hl 2 rfl) ?_
                        refine lv_imul hx hb dX10_paste_133 ?_
                        refine lv_topi (fun v_1284 ev_1284 => ?_)
                        obtain rfl : 120 = v_1284 := (ev_1284.trans (by decide)).symm
                        refine lv_iload_n hx hb dX10_paste_134 rfl (lv_at hl 3 rfl) ?_
                        refine lv_iadd hx hb dX10_paste_135 ?_
                        refine lv_topi (fun v_1285 ev_1285 => ?_)
                        have qv_1285 := ba_add ev_1285 (bkc (x := 120) (c := 120) (by decide)) h_1031 (by decide)
                        have bv_1285 : (120 : Int) ≤ v_1285.toInt ∧ v_1285.toInt ≤ 180 := bq_add qv_1285 (bkc (x := 120) (c := 120) (by decide)) h_1031 _ _ (by decide)
                        have qv_1285 : v_1285.toInt = (120) + a2.toInt := qv_1285
                        refine lv_iload hx hb dX10_paste_136 (lv_at hl 0 rfl) ?_
                        refine lv_iadd hx hb dX10_paste_138 ?_
                        refine lv_topi (fun v_1286 ev_1286 => ?_)
                        have qv_1286 := ba_add ev_1286 bv_1285 nc_1148.1 (by decide)
                        have bv_1286 : (120 : Int) ≤ v_1286.toInt ∧ v_1286.toInt ≤ 239 := bq_add qv_1286 bv_1285 nc_1148.1 _ _ (by decide)
                        refine va_lald hx hb hK.1 hP 3 2 rfl rfl (vi bv_1286 (by decide)) dX10_paste_139 ?_
                        refine lv_topl (fun v_1287 ev_1287 => ?_)
                        refine va_last hx hb hK.1 hP hD hS 4 2 rfl rfl (vi nc_1148.1 (by decide)) dX10_paste_140 (fun H locs hP hD hS => ?_)
                        generalize hf_1288 : (vp_updL f_1140 (v_1139 : Int32).toNatClampNeg v_1287) = f_1288 at hP hD
                        obtain ⟨hP, hD⟩ : vPD G A H [(ce_X10 ob ob_thrown ob_world ob_images ob_hasImage ob_tape ob_taped ob_five ob_size ob_at ob_from ob_token ob_value ob_faultKind ob_faultPlace ob_fresh ob_parts ob_houses ob_houseMany ob_worthOf ob_byCall ob_over ob_bestSet ob_bestOver ob_bestWorth ob_row ob_tenDebts ob_tenMany ob_fewestBy ob_covered ob_queue ob_cameBy ob_parent ob_met ob_calls ob_callMany ob_calledOn ob_saved ob_many ob_width ob_numbers ob_moving), (ce_i4 y ob_many fob_many), (ce_i4 y ob_width fob_width), (ce_l240 y ob_numbers fob_numbers), (ce_l60 y ob_moving f_1288)] := ⟨hP, hD⟩
                        obtain ⟨v_1289, ev_1289⟩ : ∃ z : Int32, z = v_1139 + 1 := ⟨_, rfl⟩
                        have qv_1289 := ba_add ev_1289 nc_1148.1 (bkc (x := 1) (c := 1) (by decide)) (by decide)
                        have bv_1289 : (1 : Int) ≤ v_1289.toInt ∧ v_1289.toInt ≤ 60 := bq_add qv_1289 nc_1148.1 (bkc (x := 1) (c := 1) (by decide)) _ _ (by decide)
                        have qv_1289 : v_1289.toInt = v_1139.toInt + (1) := qv_1289
                        refine lv_iinc (v := v_1289) (lv' := [(6, .int v_1289), (0, .ref ob), (1, .int 2), (2, .int a2), (3, .int 3), (4, .int a4), (5, .int a5)]) hx hb dX10_paste_141 hl (k := 0) rfl (ev_1289.symm) (by decide) rfl (fun ls hl => ?_)
                        refine lv_goto (tgt := 113) hx hb dX10_paste_144 (by decide) ?_
                        exact ih_1147 _ (ml_inc (hi := 60) hn_1147 qv_1289 (by decide) ((bw (0) (60) bv_1289 (by decide))).2) _ _ _ _ ⟨v_1289, f_1288, rfl, (bw (0) (60) bv_1289 (by decide)), rfl, ⟨hP, hD⟩, hS, lv_sub hl [0, 1, 2, 3, 4, 5, 6] rfl⟩
                    · skip
                      have nc_1030 := jl_nle c_1030
                      refine lv_bipush (v := (-7)) hx hb dX10_paste_107 (by decide) ?_
                      exact W.iret (v := (-7)) hx hb hr (fun t ht hW => ⟨⟨(-7), _, rfl, Or.inr (Or.inl (⟨by have h90 : Int32.toInt (-7) = -7 := (by decide); have h91 : Int32.toInt 2 = 2 := (by decide); have h92 : Int32.toInt 3 = 3 := (by decide); omega, rfl, rfl⟩)), by rw [ht]; exact hP, hD⟩, hS.F ht⟩) hS.2.2 dX10_paste_109
          · skip
            have nc_1015 : v_1013.toInt ≠ v_1014.toInt := fun h9 => c_1015 (Int32.toInt_inj.mp h9)
            refine lv_bipush (v := (-8)) hx hb dX10_paste_55 (by decide) ?_
            exact W.iret (v := (-8)) hx hb hr (fun t ht hW => ⟨⟨(-8), _, rfl, Or.inr (Or.inr (Or.inl (⟨by have h90 : Int32.toInt (-8) = -8 := (by decide); have h91 : Int32.toInt 2 = 2 := (by decide); have h92 : Int32.toInt 3 = 3 := (by decide); omega, rfl, rfl⟩))), by rw [ht]; exact hP, hD⟩, hS.F ht⟩) hS.2.2 dX10_paste_57
        · skip
          have nc_1012 := nb_eq (-1) (-1) c_1012 bv_1011 (bkc (x := (-1)) (c := -1) (by decide)) (by decide)
          refine lv_bipush (v := (-6)) hx hb dX10_paste_37 (by decide) ?_
          exact W.iret (v := (-6)) hx hb hr (fun t ht hW => ⟨⟨(-6), _, rfl, Or.inl (⟨by have h90 : Int32.toInt (-6) = -6 := (by decide); have h91 : Int32.toInt 2 = 2 := (by decide); have h92 : Int32.toInt 3 = 3 := (by decide); omega, rfl, rfl⟩), by rw [ht]; exact hP, hD⟩, hS.F ht⟩) hS.2.2 dX10_paste_39

set_option maxHeartbeats 4000000 in
set_option maxRecDepth 100000 in
theorem fpasteM30 (l : Launch) (G : va_G) (y : Nat → ClassId) (sz : Nat) (ob : Nat) (a2 : Int32) (a4 : Int32) (a5 : Int32) (ob_thrown : Int32) (ob_world : Nat) (ob_images : Nat) (ob_hasImage : Nat) (ob_tape : Nat) (ob_taped : Int32) (ob_five : Nat) (ob_size : Int32) (ob_at : Int32) (ob_from : Int32) (ob_token : Int32) (ob_value : Int32) (ob_faultKind : Int32) (ob_faultPlace : Int32) (ob_fresh : Nat) (ob_parts : Nat) (ob_houses : Nat) (ob_houseMany : Int32) (ob_worthOf : Nat) (ob_byCall : Nat) (ob_over : Nat) (ob_bestSet : Int32) (ob_bestOver : Int32) (ob_bestWorth : Int32) (ob_row : Nat) (ob_tenDebts : Nat) (ob_tenMany : Int32) (ob_fewestBy : Nat) (ob_covered : Nat) (ob_queue : Nat) (ob_cameBy : Nat) (ob_parent : Nat) (ob_met : Nat) (ob_calls : Nat) (ob_callMany : Int32) (ob_calledOn : Nat) (ob_saved : Nat) (ob_many : Nat) (ob_width : Nat) (ob_numbers : Nat) (ob_moving : Nat) (fob_many : Nat → Int32) (fob_width : Nat → Int32) (fob_numbers : Nat → Int64) (fob_moving : Nat → Int64) (p_ob_taped : (0 : Int) ≤ ob_taped.toInt ∧ ob_taped.toInt ≤ 1400) (p_ob_size : (0 : Int) ≤ ob_size.toInt ∧ ob_size.toInt ≤ 1400) (p_ob_at : (0 : Int) ≤ ob_at.toInt ∧ ob_at.toInt ≤ 1400) (p_ob_from : (0 : Int) ≤ ob_from.toInt ∧ ob_from.toInt ≤ 1400) (p_ob_token : (0 : Int) ≤ ob_token.toInt ∧ ob_token.toInt ≤ 4) (p_ob_value : (0 : Int) ≤ ob_value.toInt ∧ ob_value.toInt ≤ 9999) (p_ob_faultKind : (0 : Int) ≤ ob_faultKind.toInt ∧ ob_faultKind.toInt ≤ 3) (p_ob_houseMany : (0 : Int) ≤ ob_houseMany.toInt ∧ ob_houseMany.toInt ≤ 10) (p_ob_bestSet : (0 : Int) ≤ ob_bestSet.toInt ∧ ob_bestSet.toInt ≤ 1023) (p_ob_bestOver : (-1 : Int) ≤ ob_bestOver.toInt ∧ ob_bestOver.toInt ≤ 180) (p_ob_tenMany : (0 : Int) ≤ ob_tenMany.toInt ∧ ob_tenMany.toInt ≤ 10) (p_ob_callMany : (0 : Int) ≤ ob_callMany.toInt ∧ ob_callMany.toInt ≤ 16) (p_fob_many : ∀ i, (-1 : Int) ≤ (fob_many i).toInt ∧ (fob_many i).toInt ≤ 60) (p_fob_width : ∀ i, (0 : Int) ≤ (fob_width i).toInt ∧ (fob_width i).toInt ≤ 3) : Met l yX10_paste (Cond.code yX10_paste cX10_paste 7 (some .int) :: wAll) ({ frames := 2, cells := 0, slots := 0, locals := 45 }) (va_Pc [.ref ob, .int 3, .int a2, .int 0, .int a4, .int a5] (kp G y sz [(ce_X10 ob ob_thrown ob_world ob_images ob_hasImage ob_tape ob_taped ob_five ob_size ob_at ob_from ob_token ob_value ob_faultKind ob_faultPlace ob_fresh ob_parts ob_houses ob_houseMany ob_worthOf ob_byCall ob_over ob_bestSet ob_bestOver ob_bestWorth ob_row ob_tenDebts ob_tenMany ob_fewestBy ob_covered ob_queue ob_cameBy ob_parent ob_met ob_calls ob_callMany ob_calledOn ob_saved ob_many ob_width ob_numbers ob_moving), (ce_i4 y ob_many fob_many), (ce_i4 y ob_width fob_width), (ce_l240 y ob_numbers fob_numbers), (ce_l60 y ob_moving fob_moving)])) (va_Qi (fun (r : Int32) (w : va_W) => (((fob_many 3).toInt = -1 ∨ (fob_many 0).toInt = -1) ∧ r = (-6) ∧ w = [(ce_X10 ob ob_thrown ob_world ob_images ob_hasImage ob_tape ob_taped ob_five ob_size ob_at ob_from ob_token ob_value ob_faultKind ob_faultPlace ob_fresh ob_parts ob_houses ob_houseMany ob_worthOf ob_byCall ob_over ob_bestSet ob_bestOver ob_bestWorth ob_row ob_tenDebts ob_tenMany ob_fewestBy ob_covered ob_queue ob_cameBy ob_parent ob_met ob_calls ob_callMany ob_calledOn ob_saved ob_many ob_width ob_numbers ob_moving), (ce_i4 y ob_many fob_many), (ce_i4 y ob_width fob_width), (ce_l240 y ob_numbers fob_numbers), (ce_l60 y ob_moving fob_moving)]) ∨ ((¬ (fob_many 3).toInt = -1 ∧ ¬ (fob_many 0).toInt = -1 ∧ (fob_width 3).toInt = (fob_width 0).toInt ∧ ¬ (0 ≤ a2.toInt ∧ 0 ≤ a4.toInt ∧ 0 ≤ a5.toInt ∧ a2.toInt + a5.toInt ≤ (fob_many 3).toInt ∧ a4.toInt + a5.toInt ≤ (fob_many 0).toInt)) ∧ r = (-7) ∧ w = [(ce_X10 ob ob_thrown ob_world ob_images ob_hasImage ob_tape ob_taped ob_five ob_size ob_at ob_from ob_token ob_value ob_faultKind ob_faultPlace ob_fresh ob_parts ob_houses ob_houseMany ob_worthOf ob_byCall ob_over ob_bestSet ob_bestOver ob_bestWorth ob_row ob_tenDebts ob_tenMany ob_fewestBy ob_covered ob_queue ob_cameBy ob_parent ob_met ob_calls ob_callMany ob_calledOn ob_saved ob_many ob_width ob_numbers ob_moving), (ce_i4 y ob_many fob_many), (ce_i4 y ob_width fob_width), (ce_l240 y ob_numbers fob_numbers), (ce_l60 y ob_moving fob_moving)]) ∨ ((¬ (fob_many 3).toInt = -1 ∧ ¬ (fob_many 0).toInt = -1 ∧ ¬ (fob_width 3).toInt = (fob_width 0).toInt) ∧ r = (-8) ∧ w = [(ce_X10 ob ob_thrown ob_world ob_images ob_hasImage ob_tape ob_taped ob_five ob_size ob_at ob_from ob_token ob_value ob_faultKind ob_faultPlace ob_fresh ob_parts ob_houses ob_houseMany ob_worthOf ob_byCall ob_over ob_bestSet ob_bestOver ob_bestWorth ob_row ob_tenDebts ob_tenMany ob_fewestBy ob_covered ob_queue ob_cameBy ob_parent ob_met ob_calls ob_callMany ob_calledOn ob_saved ob_many ob_width ob_numbers ob_moving), (ce_i4 y ob_many fob_many), (ce_i4 y ob_width fob_width), (ce_l240 y ob_numbers fob_numbers), (ce_l60 y ob_moving fob_moving)]) ∨ (∃ (f_579 : Nat → Int64) (f_580 : Nat → Int64), ((0 : Int) ≤ a2.toInt ∧ a2.toInt ≤ 60) ∧ ((0 : Int) ≤ a4.toInt ∧ a4.toInt ≤ 60) ∧ ((0 : Int) ≤ a5.toInt ∧ a5.toInt ≤ 60) ∧ (¬ (fob_many 3).toInt = -1 ∧ ¬ (fob_many 0).toInt = -1 ∧ (fob_width 3).toInt = (fob_width 0).toInt ∧ 0 ≤ a2.toInt ∧ 0 ≤ a4.toInt ∧ 0 ≤ a5.toInt ∧ a2.toInt + a5.toInt ≤ (fob_many 3).toInt ∧ a4.toInt + a5.toInt ≤ (fob_many 0).toInt) ∧ r = 0 ∧ w = [(ce_X10 ob ob_thrown ob_world ob_images ob_hasImage ob_tape ob_taped ob_five ob_size ob_at ob_from ob_token ob_value ob_faultKind ob_faultPlace ob_fresh ob_parts ob_houses ob_houseMany ob_worthOf ob_byCall ob_over ob_bestSet ob_bestOver ob_bestWorth ob_row ob_tenDebts ob_tenMany ob_fewestBy ob_covered ob_queue ob_cameBy ob_parent ob_met ob_calls ob_callMany ob_calledOn ob_saved ob_many ob_width ob_numbers ob_moving), (ce_i4 y ob_many fob_many), (ce_i4 y ob_width fob_width), (ce_l240 y ob_numbers f_579), (ce_l60 y ob_moving f_580)])) (kq G (va_A [(ce_X10 ob ob_thrown ob_world ob_images ob_hasImage ob_tape ob_taped ob_five ob_size ob_at ob_from ob_token ob_value ob_faultKind ob_faultPlace ob_fresh ob_parts ob_houses ob_houseMany ob_worthOf ob_byCall ob_over ob_bestSet ob_bestOver ob_bestWorth ob_row ob_tenDebts ob_tenMany ob_fewestBy ob_covered ob_queue ob_cameBy ob_parent ob_met ob_calls ob_callMany ob_calledOn ob_saved ob_many ob_width ob_numbers ob_moving), (ce_i4 y ob_many fob_many), (ce_i4 y ob_width fob_width), (ce_l240 y ob_numbers fob_numbers), (ce_l60 y ob_moving fob_moving)] sz)) (va_A [(ce_X10 ob ob_thrown ob_world ob_images ob_hasImage ob_tape ob_taped ob_five ob_size ob_at ob_from ob_token ob_value ob_faultKind ob_faultPlace ob_fresh ob_parts ob_houses ob_houseMany ob_worthOf ob_byCall ob_over ob_bestSet ob_bestOver ob_bestWorth ob_row ob_tenDebts ob_tenMany ob_fewestBy ob_covered ob_queue ob_cameBy ob_parent ob_met ob_calls ob_callMany ob_calledOn ob_saved ob_many ob_width ob_numbers ob_moving), (ce_i4 y ob_many fob_many), (ce_i4 y ob_width fob_width), (ce_l240 y ob_numbers fob_numbers), (ce_l60 y ob_moving fob_moving)] sz)) 0 0 (va_A [(ce_X10 ob ob_thrown ob_world ob_images ob_hasImage ob_tape ob_taped ob_five ob_size ob_at ob_from ob_token ob_value ob_faultKind ob_faultPlace ob_fresh ob_parts ob_houses ob_houseMany ob_worthOf ob_byCall ob_over ob_bestSet ob_bestOver ob_bestWorth ob_row ob_tenDebts ob_tenMany ob_fewestBy ob_covered ob_queue ob_cameBy ob_parent ob_met ob_calls ob_callMany ob_calledOn ob_saved ob_many ob_width ob_numbers ob_moving), (ce_i4 y ob_many fob_many), (ce_i4 y ob_width fob_width), (ce_l240 y ob_numbers fob_numbers), (ce_l60 y ob_moving fob_moving)] sz) := by
  refine Met.ofW (cc := cX10_paste) (maxL := 7) (ret := (some .int)) (by decide) rfl ?_
  intro p e s m args below meth c s₁ B hml hv
  obtain ⟨rfl, hsz, hP, hK, hD0⟩ := hv
  have hx := B.exec
  have hb := B.bytes
  have hr := B.returns
  have hw0 : ∀ w ∈ wAll, w.before _ s = true := fun w h => atoms_spec (ws := Cond.code yX10_paste cX10_paste 7 (some .int) :: wAll) B.pre w (List.mem_cons_of_mem _ h)
  have hown : s.vm.findClass RX10 = some m.cls := findClass_of_methodNamed B.named
  subst hsz
  have hD := hD0.self (sz := s.heap.size)
  generalize hAe : va_A [(ce_X10 ob ob_thrown ob_world ob_images ob_hasImage ob_tape ob_taped ob_five ob_size ob_at ob_from ob_token ob_value ob_faultKind ob_faultPlace ob_fresh ob_parts ob_houses ob_houseMany ob_worthOf ob_byCall ob_over ob_bestSet ob_bestOver ob_bestWorth ob_row ob_tenDebts ob_tenMany ob_fewestBy ob_covered ob_queue ob_cameBy ob_parent ob_met ob_calls ob_callMany ob_calledOn ob_saved ob_many ob_width ob_numbers ob_moving), (ce_i4 y ob_many fob_many), (ce_i4 y ob_width fob_width), (ce_l240 y ob_numbers fob_numbers), (ce_l60 y ob_moving fob_moving)] s.heap.size = A at hD ⊢
  have hA : ∀ q : Nat, s.heap.size ≤ q → A q := fun q h => by rw [← hAe]; exact Or.inr h
  have hS : va_S A s.heap s.heap [] := va_S.rf
  have hP : va_P G vwCl [(ce_X10 ob ob_thrown ob_world ob_images ob_hasImage ob_tape ob_taped ob_five ob_size ob_at ob_from ob_token ob_value ob_faultKind ob_faultPlace ob_fresh ob_parts ob_houses ob_houseMany ob_worthOf ob_byCall ob_over ob_bestSet ob_bestOver ob_bestWorth ob_row ob_tenDebts ob_tenMany ob_fewestBy ob_covered ob_queue ob_cameBy ob_parent ob_met ob_calls ob_callMany ob_calledOn ob_saved ob_many ob_width ob_numbers ob_moving), (ce_i4 y ob_many fob_many), (ce_i4 y ob_width fob_width), (ce_l240 y ob_numbers fob_numbers), (ce_l60 y ob_moving fob_moving)] s.heap := hP
  have hl := lv_entry ([.ref ob, .int 3, .int a2, .int 0, .int a4, .int a5]) (n := 7) (Nat.le_of_ble_eq_true rfl)
  rw [lg_entry_eq]
  generalize (lg_sl ([.ref ob, .int 3, .int a2, .int 0, .int a4, .int a5]) ++ List.replicate (7 - (lg_sl ([.ref ob, .int 3, .int a2, .int 0, .int a4, .int a5])).length) Slot.unset).toArray = ls at hl ⊢
  have hl : lv_has ls 7 [(0, .ref ob), (1, .int 3), (2, .int a2), (3, .int 0), (4, .int a4), (5, .int a5)] := hl
  refine lv_iload_n hx hb dX10_paste_0 rfl (lv_at hl 1 rfl) ?_
  refine cSim (As := [.int 3]) (rest := []) ⟨hx, hb, hml, hown, hw0⟩ hA hK hP hD hS [] (fisSlotM l G y _ 3 ) rfl ⟨(callB_of 1 hw0 (gA m_543) rfl rfl rfl (hw0 _ m_41) (hw0 _ m_433) cb_X10_isSlot ⟨Nat.le_of_ble_eq_true rfl, Nat.le_of_ble_eq_true rfl⟩), (hw0 _ m_434)⟩ rfl hl.1 (Nat.le_of_ble_eq_true rfl) dX10_paste_1 ⟨Nat.le_of_ble_eq_true rfl, Nat.le_of_ble_eq_true rfl⟩ (fun r_1001 w_1001 H locs hw_1001 hP hD hS => ?_)
  rcases hw_1001 with ⟨h_1002, rfl, rfl⟩ | ⟨h_1003, h_1004, rfl, rfl⟩
  · skip
    exact False.elim (by have h9 : Int32.toInt 3 = 3 := (by decide); omega)
  · skip
    obtain ⟨hP, hD⟩ : vPD G A H [(ce_X10 ob ob_thrown ob_world ob_images ob_hasImage ob_tape ob_taped ob_five ob_size ob_at ob_from ob_token ob_value ob_faultKind ob_faultPlace ob_fresh ob_parts ob_houses ob_houseMany ob_worthOf ob_byCall ob_over ob_bestSet ob_bestOver ob_bestWorth ob_row ob_tenDebts ob_tenMany ob_fewestBy ob_covered ob_queue ob_cameBy ob_parent ob_met ob_calls ob_callMany ob_calledOn ob_saved ob_many ob_width ob_numbers ob_moving), (ce_i4 y ob_many fob_many), (ce_i4 y ob_width fob_width), (ce_l240 y ob_numbers fob_numbers), (ce_l60 y ob_moving fob_moving)] := ⟨hP, hD⟩
    refine lv_if_eq (tgt := 14) hx hb dX10_paste_4 (by decide) (fun c9 => absurd c9 (by decide)) (fun _ => ?_)
    refine lv_iload_n hx hb dX10_paste_7 rfl (lv_at hl 3 rfl) ?_
    refine cSim (As := [.int 0]) (rest := []) ⟨hx, hb, hml, hown, hw0⟩ hA hK hP hD hS [] (fisSlotM l G y _ 0 ) rfl ⟨(callB_of 1 hw0 (gA m_543) rfl rfl rfl (hw0 _ m_41) (hw0 _ m_433) cb_X10_isSlot ⟨Nat.le_of_ble_eq_true rfl, Nat.le_of_ble_eq_true rfl⟩), (hw0 _ m_434)⟩ rfl hl.1 (Nat.le_of_ble_eq_true rfl) dX10_paste_8 ⟨Nat.le_of_ble_eq_true rfl, Nat.le_of_ble_eq_true rfl⟩ (fun r_1005 w_1005 H locs hw_1005 hP hD hS => ?_)
    rcases hw_1005 with ⟨h_1006, rfl, rfl⟩ | ⟨h_1007, h_1008, rfl, rfl⟩
    · skip
      exact False.elim (by have h9 : Int32.toInt 0 = 0 := (by decide); omega)
    · skip
      obtain ⟨hP, hD⟩ : vPD G A H [(ce_X10 ob ob_thrown ob_world ob_images ob_hasImage ob_tape ob_taped ob_five ob_size ob_at ob_from ob_token ob_value ob_faultKind ob_faultPlace ob_fresh ob_parts ob_houses ob_houseMany ob_worthOf ob_byCall ob_over ob_bestSet ob_bestOver ob_bestWorth ob_row ob_tenDebts ob_tenMany ob_fewestBy ob_covered ob_queue ob_cameBy ob_parent ob_met ob_calls ob_callMany ob_calledOn ob_saved ob_many ob_width ob_numbers ob_moving), (ce_i4 y ob_many fob_many), (ce_i4 y ob_width fob_width), (ce_l240 y ob_numbers fob_numbers), (ce_l60 y ob_moving fob_moving)] := ⟨hP, hD⟩
      refine lv_if_ne (tgt := 17) hx hb dX10_paste_11 (by decide) (fun _ => ?_) (fun c9 => absurd c9 (by decide))
      refine lv_aload_n hx hb dX10_paste_17 rfl (lv_at hl 0 rfl) ?_
      refine va_get (D := G) (ci := 10) (v := .ref ob_many) (C := RX10) (T := TX10) (N := 41) hx hb hw0 inA_wsX100 hown hK.1 hP 0 rfl rfl 37 (by decide) (hw0 _ m_406) (fun _ h9 => h9) rfl dX10_paste_18 ?_
      refine lv_iload_n hx hb dX10_paste_21 rfl (lv_at hl 1 rfl) ?_
      refine va_iald hx hb hK.1 hP 1 1 rfl rfl (vi (bkc (x := 3) (c := 3) (by decide)) (by decide)) dX10_paste_22 ?_
      refine lv_topi (fun v_1009 ev_1009 => ?_)
      have bv_1009 : (-1 : Int) ≤ v_1009.toInt ∧ v_1009.toInt ≤ 60 := rd_b ev_1009 p_fob_many
      have yv_1009 : v_1009.toInt = (fob_many 3).toInt := congrArg Int32.toInt ev_1009
      refine lv_iconst (v := (-1)) hx hb dX10_paste_23 (by decide) ?_
      refine lv_icmp_eq (tgt := 37) hx hb dX10_paste_24 (by decide) (fun c_1010 => ?_) (fun c_1010 => ?_)
      · skip
        have nc_1010 := nb_eq (-1) (-1) c_1010 bv_1009 (bkc (x := (-1)) (c := -1) (by decide)) (by decide)
        refine lv_bipush (v := (-6)) hx hb dX10_paste_37 (by decide) ?_
        exact W.iret (v := (-6)) hx hb hr (fun t ht hW => ⟨⟨(-6), _, rfl, Or.inl (⟨by have h90 : Int32.toInt (-6) = -6 := (by decide); have h91 : Int32.toInt 0 = 0 := (by decide); have h92 : Int32.toInt 3 = 3 := (by decide); omega, rfl, rfl⟩), by rw [ht]; exact hP, hD⟩, hS.F ht⟩) hS.2.2 dX10_paste_39
      · skip
        have nc_1010 := nb_ne (0) (60) c_1010 bv_1009 (k := -1) (by decide) (by decide)
        refine lv_aload_n hx hb dX10_paste_27 rfl (lv_at hl 0 rfl) ?_
        refine va_get (D := G) (ci := 10) (v := .ref ob_many) (C := RX10) (T := TX10) (N := 41) hx hb hw0 inA_wsX100 hown hK.1 hP 0 rfl rfl 37 (by decide) (hw0 _ m_406) (fun _ h9 => h9) rfl dX10_paste_28 ?_
        refine lv_iload_n hx hb dX10_paste_31 rfl (lv_at hl 3 rfl) ?_
        refine va_iald hx hb hK.1 hP 1 1 rfl rfl (vi (bkc (x := 0) (c := 0) (by decide)) (by decide)) dX10_paste_32 ?_
        refine lv_topi (fun v_1011 ev_1011 => ?_)
        have bv_1011 : (-1 : Int) ≤ v_1011.toInt ∧ v_1011.toInt ≤ 60 := rd_b ev_1011 p_fob_many
        have yv_1011 : v_1011.toInt = (fob_many 0).toInt := congrArg Int32.toInt ev_1011
        refine lv_iconst (v := (-1)) hx hb dX10_paste_33 (by decide) ?_
        refine lv_icmp_ne (tgt := 40) hx hb dX10_paste_34 (by decide) (fun c_1012 => ?_) (fun c_1012 => ?_)
        · skip
          have nc_1012 := nb_ne (0) (60) c_1012 bv_1011 (k := -1) (by decide) (by decide)
          refine lv_aload_n hx hb dX10_paste_40 rfl (lv_at hl 0 rfl) ?_
          refine va_get (D := G) (ci := 10) (v := .ref ob_width) (C := RX10) (T := TX10) (N := 41) hx hb hw0 inA_wsX100 hown hK.1 hP 0 rfl rfl 38 (by decide) (hw0 _ m_527) (fun _ h9 => h9) rfl dX10_paste_41 ?_
          refine lv_iload_n hx hb dX10_paste_44 rfl (lv_at hl 1 rfl) ?_
          refine va_iald hx hb hK.1 hP 2 1 rfl rfl (vi (bkc (x := 3) (c := 3) (by decide)) (by decide)) dX10_paste_45 ?_
          refine lv_topi (fun v_1013 ev_1013 => ?_)
          have bv_1013 : (0 : Int) ≤ v_1013.toInt ∧ v_1013.toInt ≤ 3 := rd_b ev_1013 p_fob_width
          have yv_1013 : v_1013.toInt = (fob_width 3).toInt := congrArg Int32.toInt ev_1013
          refine lv_aload_n hx hb dX10_paste_46 rfl (lv_at hl 0 rfl) ?_
          refine va_get (D := G) (ci := 10) (v := .ref ob_width) (C := RX10) (T := TX10) (N := 41) hx hb hw0 inA_wsX100 hown hK.1 hP 0 rfl rfl 38 (by decide) (hw0 _ m_527) (fun _ h9 => h9) rfl dX10_paste_47 ?_
          refine lv_iload_n hx hb dX10_paste_50 rfl (lv_at hl 3 rfl) ?_
          refine va_iald hx hb hK.1 hP 2 1 rfl rfl (vi (bkc (x := 0) (c := 0) (by decide)) (by decide)) dX10_paste_51 ?_
          refine lv_topi (fun v_1014 ev_1014 => ?_)
          have bv_1014 : (0 : Int) ≤ v_1014.toInt ∧ v_1014.toInt ≤ 3 := rd_b ev_1014 p_fob_width
          have yv_1014 : v_1014.toInt = (fob_width 0).toInt := congrArg Int32.toInt ev_1014
          refine lv_icmp_eq (tgt := 58) hx hb dX10_paste_52 (by decide) (fun c_1015 => ?_) (fun c_1015 => ?_)
          · skip
            have nc_1015 := nb_eq (0) (3) c_1015 bv_1013 bv_1014 (by decide)
            refine lv_iload_n hx hb dX10_paste_58 rfl (lv_at hl 2 rfl) ?_
            refine lv_if_lt (tgt := 107) hx hb dX10_paste_59 (by decide) (fun c_1016 => ?_) (fun c_1016 => ?_)
            · skip
              have nc_1016 := nb_lt (-1) (0) c_1016 (btop a2) (bkc (x := 0) (c := 0) (by decide)) (by decide)
              refine lv_bipush (v := (-7)) hx hb dX10_paste_107 (by decide) ?_
              exact W.iret (v := (-7)) hx hb hr (fun t ht hW => ⟨⟨(-7), _, rfl, Or.inr (Or.inl (⟨by have h90 : Int32.toInt (-7) = -7 := (by decide); have h91 : Int32.toInt 0 = 0 := (by decide); have h92 : Int32.toInt 3 = 3 := (by decide); omega, rfl, rfl⟩)), by rw [ht]; exact hP, hD⟩, hS.F ht⟩) hS.2.2 dX10_paste_109
            · skip
              have nc_1016 := nb_nlt (0) (0) c_1016 (bkc (x := 0) (c := 0) (by decide)) (btop a2) (by decide)
              refine lv_iload hx hb dX10_paste_62 (lv_at hl 4 rfl) ?_
              refine lv_if_lt (tgt := 107) hx hb dX10_paste_64 (by decide) (fun c_1017 => ?_) (fun c_1017 => ?_)
              · skip
                have nc_1017 := nb_lt (-1) (0) c_1017 (btop a4) (bkc (x := 0) (c := 0) (by decide)) (by decide)
                refine lv_bipush (v := (-7)) hx hb dX10_paste_107 (by decide) ?_
                exact W.iret (v := (-7)) hx hb hr (fun t ht hW => ⟨⟨(-7), _, rfl, Or.inr (Or.inl (⟨by have h90 : Int32.toInt (-7) = -7 := (by decide); have h91 : Int32.toInt 0 = 0 := (by decide); have h92 : Int32.toInt 3 = 3 := (by decide); omega, rfl, rfl⟩)), by rw [ht]; exact hP, hD⟩, hS.F ht⟩) hS.2.2 dX10_paste_109
              · skip
                have nc_1017 := nb_nlt (0) (0) c_1017 (bkc (x := 0) (c := 0) (by decide)) (btop a4) (by decide)
                refine lv_iload hx hb dX10_paste_67 (lv_at hl 5 rfl) ?_
                refine lv_if_lt (tgt := 107) hx hb dX10_paste_69 (by decide) (fun c_1018 => ?_) (fun c_1018 => ?_)
                · skip
                  have nc_1018 := nb_lt (-1) (0) c_1018 (btop a5) (bkc (x := 0) (c := 0) (by decide)) (by decide)
                  refine lv_bipush (v := (-7)) hx hb dX10_paste_107 (by decide) ?_
                  exact W.iret (v := (-7)) hx hb hr (fun t ht hW => ⟨⟨(-7), _, rfl, Or.inr (Or.inl (⟨by have h90 : Int32.toInt (-7) = -7 := (by decide); have h91 : Int32.toInt 0 = 0 := (by decide); have h92 : Int32.toInt 3 = 3 := (by decide); omega, rfl, rfl⟩)), by rw [ht]; exact hP, hD⟩, hS.F ht⟩) hS.2.2 dX10_paste_109
                · skip
                  have nc_1018 := nb_nlt (0) (0) c_1018 (bkc (x := 0) (c := 0) (by decide)) (btop a5) (by decide)
                  refine lv_iload_n hx hb dX10_paste_72 rfl (lv_at hl 2 rfl) ?_
                  refine lv_i2l hx hb dX10_paste_73 rfl ?_
                  have kk_1019 : ((a2).toInt64).toInt = (a2).toInt := Int32.toInt_toInt64 _
                  refine lv_iload hx hb dX10_paste_74 (lv_at hl 5 rfl) ?_
                  refine lv_i2l hx hb dX10_paste_76 rfl ?_
                  have kk_1020 : ((a5).toInt64).toInt = (a5).toInt := Int32.toInt_toInt64 _
                  refine lv_ladd hx hb dX10_paste_77 ?_
                  refine lv_topl (fun v_1021 ev_1021 => ?_)
                  have qv_1021 := la_add ev_1021
                  refine lv_aload_n hx hb dX10_paste_78 rfl (lv_at hl 0 rfl) ?_
                  refine va_get (D := G) (ci := 10) (v := .ref ob_many) (C := RX10) (T := TX10) (N := 41) hx hb hw0 inA_wsX100 hown hK.1 hP 0 rfl rfl 37 (by decide) (hw0 _ m_406) (fun _ h9 => h9) rfl dX10_paste_79 ?_
                  refine lv_iload_n hx hb dX10_paste_82 rfl (lv_at hl 1 rfl) ?_
                  refine va_iald hx hb hK.1 hP 1 1 rfl rfl (vi (bkc (x := 3) (c := 3) (by decide)) (by decide)) dX10_paste_83 ?_
                  refine lv_topi (fun v_1022 ev_1022 => ?_)
                  obtain rfl : v_1009 = v_1022 := (ev_1022.trans (ev_1009.symm)).symm
                  refine lv_i2l hx hb dX10_paste_84 rfl ?_
                  have kk_1023 : ((v_1009).toInt64).toInt = (v_1009).toInt := Int32.toInt_toInt64 _
                  refine W.lcmp hx hb dX10_paste_85 ?_
                  refine lv_if_gt (tgt := 107) hx hb dX10_paste_86 (by decide) (fun c_1024 => ?_) (fun c_1024 => ?_)
                  · skip
                    have nc_1024 := jl_gt c_1024
                    refine lv_bipush (v := (-7)) hx hb dX10_paste_107 (by decide) ?_
                    exact W.iret (v := (-7)) hx hb hr (fun t ht hW => ⟨⟨(-7), _, rfl, Or.inr (Or.inl (⟨by have h90 : Int32.toInt (-7) = -7 := (by decide); have h91 : Int32.toInt 0 = 0 := (by decide); have h92 : Int32.toInt 3 = 3 := (by decide); omega, rfl, rfl⟩)), by rw [ht]; exact hP, hD⟩, hS.F ht⟩) hS.2.2 dX10_paste_109
                  · skip
                    have nc_1024 := jl_ngt c_1024
                    refine lv_iload hx hb dX10_paste_89 (lv_at hl 4 rfl) ?_
                    refine lv_i2l hx hb dX10_paste_91 rfl ?_
                    have kk_1025 : ((a4).toInt64).toInt = (a4).toInt := Int32.toInt_toInt64 _
                    refine lv_iload hx hb dX10_paste_92 (lv_at hl 5 rfl) ?_
                    refine lv_i2l hx hb dX10_paste_94 rfl ?_
                    have kk_1026 : ((a5).toInt64).toInt = (a5).toInt := Int32.toInt_toInt64 _
                    refine lv_ladd hx hb dX10_paste_95 ?_
                    refine lv_topl (fun v_1027 ev_1027 => ?_)
                    have qv_1027 := la_add ev_1027
                    refine lv_aload_n hx hb dX10_paste_96 rfl (lv_at hl 0 rfl) ?_
                    refine va_get (D := G) (ci := 10) (v := .ref ob_many) (C := RX10) (T := TX10) (N := 41) hx hb hw0 inA_wsX100 hown hK.1 hP 0 rfl rfl 37 (by decide) (hw0 _ m_406) (fun _ h9 => h9) rfl dX10_paste_97 ?_
                    refine lv_iload_n hx hb dX10_paste_100 rfl (lv_at hl 3 rfl) ?_
                    refine va_iald hx hb hK.1 hP 1 1 rfl rfl (vi (bkc (x := 0) (c := 0) (by decide)) (by decide)) dX10_paste_101 ?_
                    refine lv_topi (fun v_1028 ev_1028 => ?_)
                    obtain rfl : v_1011 = v_1028 := (ev_1028.trans (ev_1011.symm)).symm
                    refine lv_i2l hx hb dX10_paste_102 rfl ?_
                    have kk_1029 : ((v_1011).toInt64).toInt = (v_1011).toInt := Int32.toInt_toInt64 _
                    refine W.lcmp hx hb dX10_paste_103 ?_
                    refine lv_if_le (tgt := 110) hx hb dX10_paste_104 (by decide) (fun c_1030 => ?_) (fun c_1030 => ?_)
                    · skip
                      have nc_1030 := jl_le c_1030
                      have h_1031 : (0 : Int) ≤ a2.toInt ∧ a2.toInt ≤ 60 := by omega
                      have h_1032 : (0 : Int) ≤ a4.toInt ∧ a4.toInt ≤ 60 := by omega
                      have h_1033 : (0 : Int) ≤ a5.toInt ∧ a5.toInt ≤ 60 := by omega
                      refine lv_iconst (v := 0) hx hb dX10_paste_110 (by decide) ?_
                      refine lv_istore (lv' := [(6, .int 0), (0, .ref ob), (1, .int 3), (2, .int a2), (3, .int 0), (4, .int a4), (5, .int a5)]) hx hb dX10_paste_111 hl (by decide) rfl (fun ls hl => ?_)
                      refine loopX (fun n H locs ls st => ∃ (v_1151 : Int32) (f_1152 : Nat → Int64), (60 - v_1151.toInt).toNat = n ∧ ((0 : Int) ≤ v_1151.toInt ∧ v_1151.toInt ≤ 60) ∧ st = [] ∧ vPD G A H [(ce_X10 ob ob_thrown ob_world ob_images ob_hasImage ob_tape ob_taped ob_five ob_size ob_at ob_from ob_token ob_value ob_faultKind ob_faultPlace ob_fresh ob_parts ob_houses ob_houseMany ob_worthOf ob_byCall ob_over ob_bestSet ob_bestOver ob_bestWorth ob_row ob_tenDebts ob_tenMany ob_fewestBy ob_covered ob_queue ob_cameBy ob_parent ob_met ob_calls ob_callMany ob_calledOn ob_saved ob_many ob_width ob_numbers ob_moving), (ce_i4 y ob_many fob_many), (ce_i4 y ob_width fob_width), (ce_l240 y ob_numbers fob_numbers), (ce_l60 y ob_moving f_1152)] ∧ va_S A s.heap H locs ∧ lv_has ls 7 [(6, .int v_1151), (0, .ref ob), (1, .int 3), (2, .int a2), (3, .int 0), (4, .int a4), (5, .int a5)]) ?_ (n := (60 - (0 : Int32).toInt).toNat) ⟨0, fob_moving, rfl, (bw (0) (60) (bkc (x := 0) (c := 0) (by decide)) (by decide)), rfl, ⟨hP, hD⟩, hS, lv_sub hl [0, 1, 2, 3, 4, 5, 6] rfl⟩
                      rintro n ih_1160 H locs ls st ⟨v_1151, f_1152, hn_1160, bv_1151, rfl, ⟨hP, hD⟩, hS, hl⟩
                      refine lv_iload hx hb dX10_paste_113 (lv_at hl 0 rfl) ?_
                      refine lv_iload hx hb dX10_paste_115 (lv_at hl 6 rfl) ?_
                      refine lv_icmp_ge (tgt := 147) hx hb dX10_paste_117 (by decide) (fun c_1161 => ?_) (fun c_1161 => ?_)
                      · skip
                        have nc_1161 := nb_le (60) (0) c_1161 h_1033 bv_1151 (by decide)
                        refine lv_iconst (v := 0) hx hb dX10_paste_147 (by decide) ?_
                        refine lv_istore (lv' := [(6, .int 0), (0, .ref ob), (1, .int 3), (2, .int a2), (3, .int 0), (4, .int a4), (5, .int a5)]) hx hb dX10_paste_148 hl (by decide) rfl (fun ls hl => ?_)
                        refine loopX (fun n H locs ls st => ∃ (v_1267 : Int32) (f_1268 : Nat → Int64), (60 - v_1267.toInt).toNat = n ∧ ((0 : Int) ≤ v_1267.toInt ∧ v_1267.toInt ≤ 60) ∧ st = [] ∧ vPD G A H [(ce_X10 ob ob_thrown ob_world ob_images ob_hasImage ob_tape ob_taped ob_five ob_size ob_at ob_from ob_token ob_value ob_faultKind ob_faultPlace ob_fresh ob_parts ob_houses ob_houseMany ob_worthOf ob_byCall ob_over ob_bestSet ob_bestOver ob_bestWorth ob_row ob_tenDebts ob_tenMany ob_fewestBy ob_covered ob_queue ob_cameBy ob_parent ob_met ob_calls ob_callMany ob_calledOn ob_saved ob_many ob_width ob_numbers ob_moving), (ce_i4 y ob_many fob_many), (ce_i4 y ob_width fob_width), (ce_l240 y ob_numbers f_1268), (ce_l60 y ob_moving f_1152)] ∧ va_S A s.heap H locs ∧ lv_has ls 7 [(6, .int v_1267), (0, .ref ob), (3, .int 0), (4, .int a4), (5, .int a5)]) ?_ (n := (60 - (0 : Int32).toInt).toNat) ⟨0, fob_numbers, rfl, (bw (0) (60) (bkc (x := 0) (c := 0) (by decide)) (by decide)), rfl, ⟨hP, hD⟩, hS, lv_sub hl [0, 1, 4, 5, 6] rfl⟩
                        rintro n ih_1275 H locs ls st ⟨v_1267, f_1268, hn_1275, bv_1267, rfl, ⟨hP, hD⟩, hS, hl⟩
                        refine lv_iload hx hb dX10_paste_150 (lv_at hl 0 rfl) ?_
                        refine lv_iload hx hb dX10_paste_152 (lv_at hl 4 rfl) ?_
                        refine lv_icmp_ge (tgt := 185) hx hb dX10_paste_154 (by decide) (fun c_1276 => ?_) (fun c_1276 => ?_)
                        · skip
                          have nc_1276 := nb_le (60) (0) c_1276 nc_1161.1 bv_1267 (by decide)
                          refine lv_iconst (v := 0) hx hb dX10_paste_185 (by decide) ?_
                          exact W.iret (v := 0) hx hb hr (fun t ht hW => ⟨⟨0, _, rfl, Or.inr (Or.inr (Or.inr (⟨f_1268, f_1152, h_1031, h_1032, nc_1276.1, by have h90 : Int32.toInt 0 = 0 := (by decide); omega, rfl, rfl⟩))), by rw [ht]; exact hP, hD⟩, hS.F ht⟩) hS.2.2 dX10_paste_186
                        · skip
                          have nc_1276 := nb_nle (59) (1) c_1276 bv_1267 nc_1161.1 (by decide)
                          refine lv_aload_n hx hb dX10_paste_157 rfl (lv_at hl 1 rfl) ?_
                          refine va_get (D := G) (ci := 10) (v := .ref ob_numbers) (C := RX10) (T := TX10) (N := 41) hx hb hw0 inA_wsX100 hown hK.1 hP 0 rfl rfl 39 (by decide) (hw0 _ m_435) (fun _ h9 => h9) rfl dX10_paste_158 ?_
                          refine lv_bipush (v := 60) hx hb dX10_paste_161 (by decide) ?_
                          refine lv_iload_n hx hb dX10_paste_163 rfl (lv_at hl 2 rfl) ?_
                          refine lv_imul hx hb dX10_paste_164 ?_
                          refine lv_topi (fun v_1277 ev_1277 => ?_)
                          obtain rfl : 0 = v_1277 := (ev_1277.trans (by decide)).symm
                          refine lv_iload hx hb dX10_paste_165 (lv_at hl 3 rfl) ?_
                          refine lv_iadd hx hb dX10_paste_167 ?_
                          refine lv_topi (fun v_1278 ev_1278 => ?_)
                          have qv_1278 := ba_add ev_1278 (bkc (x := 0) (c := 0) (by decide)) h_1032 (by decide)
                          have bv_1278 : (0 : Int) ≤ v_1278.toInt ∧ v_1278.toInt ≤ 60 := bq_add qv_1278 (bkc (x := 0) (c := 0) (by decide)) h_1032 _ _ (by decide)
                          have qv_1278 : v_1278.toInt = (0) + a4.toInt := qv_1278
                          refine lv_iload hx hb dX10_paste_168 (lv_at hl 0 rfl) ?_
                          refine lv_iadd hx hb dX10_paste_170 ?_
                          refine lv_topi (fun v_1279 ev_1279 => ?_)
                          have qv_1279 := ba_add ev_1279 bv_1278 nc_1276.1 (by decide)
                          have bv_1279 : (0 : Int) ≤ v_1279.toInt ∧ v_1279.toInt ≤ 119 := bq_add qv_1279 bv_1278 nc_1276.1 _ _ (by decide)
                          refine lv_aload_n hx hb dX10_paste_171 rfl (lv_at hl 1 rfl) ?_
                          refine va_get (D := G) (ci := 10) (v := .ref ob_moving) (C := RX10) (T := TX10) (N := 41) hx hb hw0 inA_wsX100 hown hK.1 hP 0 rfl rfl 40 (by decide) (hw0 _ m_529) (fun _ h9 => h9) rfl dX10_paste_172 ?_
                          refine lv_iload hx hb dX10_paste_175 (lv_at hl 0 rfl) ?_
                          refine va_lald hx hb hK.1 hP 4 2 rfl rfl (vi nc_1276.1 (by decide)) dX10_paste_177 ?_
                          refine lv_topl (fun v_1280 ev_1280 => ?_)
                          refine va_last hx hb hK.1 hP hD hS 3 2 rfl rfl (vi bv_1279 (by decide)) dX10_paste_178 (fun H locs hP hD hS => ?_)
                          generalize hf_1281 : (vp_updL f_1268 (v_1279 : Int32).toNatClampNeg v_1280) = f_1281 at hP hD
                          obtain ⟨hP, hD⟩ : vPD G A H [(ce_X10 ob ob_thrown ob_world ob_images ob_hasImage ob_tape ob_taped ob_five ob_size ob_at ob_from ob_token ob_value ob_faultKind ob_faultPlace ob_fresh ob_parts ob_houses ob_houseMany ob_worthOf ob_byCall ob_over ob_bestSet ob_bestOver ob_bestWorth ob_row ob_tenDebts ob_tenMany ob_fewestBy ob_covered ob_queue ob_cameBy ob_parent ob_met ob_calls ob_callMany ob_calledOn ob_saved ob_many ob_width ob_numbers ob_moving), (ce_i4 y ob_many fob_many), (ce_i4 y ob_width fob_width), (ce_l240 y ob_numbers f_1281), (ce_l60 y ob_moving f_1152)] := ⟨hP, hD⟩
                          obtain ⟨v_1282, ev_1282⟩ : ∃ z : Int32, z = v_1267 + 1 := ⟨_, rfl⟩
                          have qv_1282 := ba_add ev_1282 nc_1276.1 (bkc (x := 1) (c := 1) (by decide)) (by decide)
                          have bv_1282 : (1 : Int) ≤ v_1282.toInt ∧ v_1282.toInt ≤ 60 := bq_add qv_1282 nc_1276.1 (bkc (x := 1) (c := 1) (by decide)) _ _ (by decide)
                          have qv_1282 : v_1282.toInt = v_1267.toInt + (1) := qv_1282
                          refine lv_iinc (v := v_1282) (lv' := [(6, .int v_1282), (0, .ref ob), (3, .int 0), (4, .int a4), (5, .int a5)]) hx hb dX10_paste_179 hl (k := 0) rfl (ev_1282.symm) (by decide) rfl (fun ls hl => ?_)
                          refine lv_goto (tgt := 150) hx hb dX10_paste_182 (by decide) ?_
                          exact ih_1275 _ (ml_inc (hi := 60) hn_1275 qv_1282 (by decide) ((bw (0) (60) bv_1282 (by decide))).2) _ _ _ _ ⟨v_1282, f_1281, rfl, (bw (0) (60) bv_1282 (by decide)), rfl, ⟨hP, hD⟩, hS, lv_sub hl [0, 1, 2, 3, 4] rfl⟩
                      · skip
                        have nc_1161 := nb_nle (59) (1) c_1161 bv_1151 h_1033 (by decide)
                        refine lv_aload_n hx hb dX10_paste_120 rfl (lv_at hl 1 rfl) ?_
                        refine va_get (D := G) (ci := 10) (v := .ref ob_moving) (C := RX10) (T := TX10) (N := 41) hx hb hw0 inA_wsX100 hown hK.1 hP 0 rfl rfl 40 (by decide) (hw0 _ m_529) (fun _ h9 => h9) rfl dX10_paste_121 ?_
                        refine lv_iload hx hb dX10_paste_124 (lv_at hl 0 rfl) ?_
                        refine lv_aload_n hx hb dX10_paste_126 rfl (lv_at hl 1 rfl) ?_
                        refine va_get (D := G) (ci := 10) (v := .ref ob_numbers) (C := RX10) (T := TX10) (N := 41) hx hb hw0 inA_wsX100 hown hK.1 hP 0 rfl rfl 39 (by decide) (hw0 _ m_435) (fun _ h9 => h9) rfl dX10_paste_127 ?_
                        refine lv_bipush (v := 60) hx hb dX10_paste_130 (by decide) ?_
                        refine lv_iload_n hx hb dX10_paste_132 rfl (lv_at hl 2 rfl) ?_
                        refine lv_imul hx hb dX10_paste_133 ?_
                        refine lv_topi (fun v_1283 ev_1283 => ?_)
                        obtain rfl : 180 = v_1283 := (ev_1283.trans (by decide)).symm
                        refine lv_iload_n hx hb dX10_paste_134 rfl (lv_at hl 3 rfl) ?_
                        refine lv_iadd hx hb dX10_paste_135 ?_
                        refine lv_topi (fun v_1284 ev_1284 => ?_)
                        have qv_1284 := ba_add ev_1284 (bkc (x := 180) (c := 180) (by decide)) h_1031 (by decide)
                        have bv_1284 : (180 : Int) ≤ v_1284.toInt ∧ v_1284.toInt ≤ 240 := bq_add qv_1284 (bkc (x := 180) (c := 180) (by decide)) h_1031 _ _ (by decide)
                        have qv_1284 : v_1284.toInt = (180) + a2.toInt := qv_1284
                        refine lv_iload hx hb dX10_paste_136 (lv_at hl 0 rfl) ?_
                        refine lv_iadd hx hb dX10_paste_138 ?_
                        refine lv_topi (fun v_1285 ev_1285 => ?_)
                        have qv_1285 := ba_add ev_1285 bv_1284 nc_1161.1 (by decide)
                        have bv_1285 : (180 : Int) ≤ v_1285.toInt ∧ v_1285.toInt ≤ 299 := bq_add qv_1285 bv_1284 nc_1161.1 _ _ (by decide)
                        have h_1286 : (0 : Int) ≤ v_1285.toInt ∧ v_1285.toInt ≤ 239 := by omega
                        refine va_lald hx hb hK.1 hP 3 2 rfl rfl (vi h_1286 (by decide)) dX10_paste_139 ?_
                        refine lv_topl (fun v_1287 ev_1287 => ?_)
                        refine va_last hx hb hK.1 hP hD hS 4 2 rfl rfl (vi nc_1161.1 (by decide)) dX10_paste_140 (fun H locs hP hD hS => ?_)
                        generalize hf_1288 : (vp_updL f_1152 (v_1151 : Int32).toNatClampNeg v_1287) = f_1288 at hP hD
                        obtain ⟨hP, hD⟩ : vPD G A H [(ce_X10 ob ob_thrown ob_world ob_images ob_hasImage ob_tape ob_taped ob_five ob_size ob_at ob_from ob_token ob_value ob_faultKind ob_faultPlace ob_fresh ob_parts ob_houses ob_houseMany ob_worthOf ob_byCall ob_over ob_bestSet ob_bestOver ob_bestWorth ob_row ob_tenDebts ob_tenMany ob_fewestBy ob_covered ob_queue ob_cameBy ob_parent ob_met ob_calls ob_callMany ob_calledOn ob_saved ob_many ob_width ob_numbers ob_moving), (ce_i4 y ob_many fob_many), (ce_i4 y ob_width fob_width), (ce_l240 y ob_numbers fob_numbers), (ce_l60 y ob_moving f_1288)] := ⟨hP, hD⟩
                        obtain ⟨v_1289, ev_1289⟩ : ∃ z : Int32, z = v_1151 + 1 := ⟨_, rfl⟩
                        have qv_1289 := ba_add ev_1289 nc_1161.1 (bkc (x := 1) (c := 1) (by decide)) (by decide)
                        have bv_1289 : (1 : Int) ≤ v_1289.toInt ∧ v_1289.toInt ≤ 60 := bq_add qv_1289 nc_1161.1 (bkc (x := 1) (c := 1) (by decide)) _ _ (by decide)
                        have qv_1289 : v_1289.toInt = v_1151.toInt + (1) := qv_1289
                        refine lv_iinc (v := v_1289) (lv' := [(6, .int v_1289), (0, .ref ob), (1, .int 3), (2, .int a2), (3, .int 0), (4, .int a4), (5, .int a5)]) hx hb dX10_paste_141 hl (k := 0) rfl (ev_1289.symm) (by decide) rfl (fun ls hl => ?_)
                        refine lv_goto (tgt := 113) hx hb dX10_paste_144 (by decide) ?_
                        exact ih_1160 _ (ml_inc (hi := 60) hn_1160 qv_1289 (by decide) ((bw (0) (60) bv_1289 (by decide))).2) _ _ _ _ ⟨v_1289, f_1288, rfl, (bw (0) (60) bv_1289 (by decide)), rfl, ⟨hP, hD⟩, hS, lv_sub hl [0, 1, 2, 3, 4, 5, 6] rfl⟩
                    · skip
                      have nc_1030 := jl_nle c_1030
                      refine lv_bipush (v := (-7)) hx hb dX10_paste_107 (by decide) ?_
                      exact W.iret (v := (-7)) hx hb hr (fun t ht hW => ⟨⟨(-7), _, rfl, Or.inr (Or.inl (⟨by have h90 : Int32.toInt (-7) = -7 := (by decide); have h91 : Int32.toInt 0 = 0 := (by decide); have h92 : Int32.toInt 3 = 3 := (by decide); omega, rfl, rfl⟩)), by rw [ht]; exact hP, hD⟩, hS.F ht⟩) hS.2.2 dX10_paste_109
          · skip
            have nc_1015 : v_1013.toInt ≠ v_1014.toInt := fun h9 => c_1015 (Int32.toInt_inj.mp h9)
            refine lv_bipush (v := (-8)) hx hb dX10_paste_55 (by decide) ?_
            exact W.iret (v := (-8)) hx hb hr (fun t ht hW => ⟨⟨(-8), _, rfl, Or.inr (Or.inr (Or.inl (⟨by have h90 : Int32.toInt (-8) = -8 := (by decide); have h91 : Int32.toInt 0 = 0 := (by decide); have h92 : Int32.toInt 3 = 3 := (by decide); omega, rfl, rfl⟩))), by rw [ht]; exact hP, hD⟩, hS.F ht⟩) hS.2.2 dX10_paste_57
        · skip
          have nc_1012 := nb_eq (-1) (-1) c_1012 bv_1011 (bkc (x := (-1)) (c := -1) (by decide)) (by decide)
          refine lv_bipush (v := (-6)) hx hb dX10_paste_37 (by decide) ?_
          exact W.iret (v := (-6)) hx hb hr (fun t ht hW => ⟨⟨(-6), _, rfl, Or.inl (⟨by have h90 : Int32.toInt (-6) = -6 := (by decide); have h91 : Int32.toInt 0 = 0 := (by decide); have h92 : Int32.toInt 3 = 3 := (by decide); omega, rfl, rfl⟩), by rw [ht]; exact hP, hD⟩, hS.F ht⟩) hS.2.2 dX10_paste_39

set_option maxHeartbeats 4000000 in
set_option maxRecDepth 100000 in
theorem fpasteM31 (l : Launch) (G : va_G) (y : Nat → ClassId) (sz : Nat) (ob : Nat) (a2 : Int32) (a4 : Int32) (a5 : Int32) (ob_thrown : Int32) (ob_world : Nat) (ob_images : Nat) (ob_hasImage : Nat) (ob_tape : Nat) (ob_taped : Int32) (ob_five : Nat) (ob_size : Int32) (ob_at : Int32) (ob_from : Int32) (ob_token : Int32) (ob_value : Int32) (ob_faultKind : Int32) (ob_faultPlace : Int32) (ob_fresh : Nat) (ob_parts : Nat) (ob_houses : Nat) (ob_houseMany : Int32) (ob_worthOf : Nat) (ob_byCall : Nat) (ob_over : Nat) (ob_bestSet : Int32) (ob_bestOver : Int32) (ob_bestWorth : Int32) (ob_row : Nat) (ob_tenDebts : Nat) (ob_tenMany : Int32) (ob_fewestBy : Nat) (ob_covered : Nat) (ob_queue : Nat) (ob_cameBy : Nat) (ob_parent : Nat) (ob_met : Nat) (ob_calls : Nat) (ob_callMany : Int32) (ob_calledOn : Nat) (ob_saved : Nat) (ob_many : Nat) (ob_width : Nat) (ob_numbers : Nat) (ob_moving : Nat) (fob_many : Nat → Int32) (fob_width : Nat → Int32) (fob_numbers : Nat → Int64) (fob_moving : Nat → Int64) (p_ob_taped : (0 : Int) ≤ ob_taped.toInt ∧ ob_taped.toInt ≤ 1400) (p_ob_size : (0 : Int) ≤ ob_size.toInt ∧ ob_size.toInt ≤ 1400) (p_ob_at : (0 : Int) ≤ ob_at.toInt ∧ ob_at.toInt ≤ 1400) (p_ob_from : (0 : Int) ≤ ob_from.toInt ∧ ob_from.toInt ≤ 1400) (p_ob_token : (0 : Int) ≤ ob_token.toInt ∧ ob_token.toInt ≤ 4) (p_ob_value : (0 : Int) ≤ ob_value.toInt ∧ ob_value.toInt ≤ 9999) (p_ob_faultKind : (0 : Int) ≤ ob_faultKind.toInt ∧ ob_faultKind.toInt ≤ 3) (p_ob_houseMany : (0 : Int) ≤ ob_houseMany.toInt ∧ ob_houseMany.toInt ≤ 10) (p_ob_bestSet : (0 : Int) ≤ ob_bestSet.toInt ∧ ob_bestSet.toInt ≤ 1023) (p_ob_bestOver : (-1 : Int) ≤ ob_bestOver.toInt ∧ ob_bestOver.toInt ≤ 180) (p_ob_tenMany : (0 : Int) ≤ ob_tenMany.toInt ∧ ob_tenMany.toInt ≤ 10) (p_ob_callMany : (0 : Int) ≤ ob_callMany.toInt ∧ ob_callMany.toInt ≤ 16) (p_fob_many : ∀ i, (-1 : Int) ≤ (fob_many i).toInt ∧ (fob_many i).toInt ≤ 60) (p_fob_width : ∀ i, (0 : Int) ≤ (fob_width i).toInt ∧ (fob_width i).toInt ≤ 3) : Met l yX10_paste (Cond.code yX10_paste cX10_paste 7 (some .int) :: wAll) ({ frames := 2, cells := 0, slots := 0, locals := 45 }) (va_Pc [.ref ob, .int 3, .int a2, .int 1, .int a4, .int a5] (kp G y sz [(ce_X10 ob ob_thrown ob_world ob_images ob_hasImage ob_tape ob_taped ob_five ob_size ob_at ob_from ob_token ob_value ob_faultKind ob_faultPlace ob_fresh ob_parts ob_houses ob_houseMany ob_worthOf ob_byCall ob_over ob_bestSet ob_bestOver ob_bestWorth ob_row ob_tenDebts ob_tenMany ob_fewestBy ob_covered ob_queue ob_cameBy ob_parent ob_met ob_calls ob_callMany ob_calledOn ob_saved ob_many ob_width ob_numbers ob_moving), (ce_i4 y ob_many fob_many), (ce_i4 y ob_width fob_width), (ce_l240 y ob_numbers fob_numbers), (ce_l60 y ob_moving fob_moving)])) (va_Qi (fun (r : Int32) (w : va_W) => (((fob_many 3).toInt = -1 ∨ (fob_many 1).toInt = -1) ∧ r = (-6) ∧ w = [(ce_X10 ob ob_thrown ob_world ob_images ob_hasImage ob_tape ob_taped ob_five ob_size ob_at ob_from ob_token ob_value ob_faultKind ob_faultPlace ob_fresh ob_parts ob_houses ob_houseMany ob_worthOf ob_byCall ob_over ob_bestSet ob_bestOver ob_bestWorth ob_row ob_tenDebts ob_tenMany ob_fewestBy ob_covered ob_queue ob_cameBy ob_parent ob_met ob_calls ob_callMany ob_calledOn ob_saved ob_many ob_width ob_numbers ob_moving), (ce_i4 y ob_many fob_many), (ce_i4 y ob_width fob_width), (ce_l240 y ob_numbers fob_numbers), (ce_l60 y ob_moving fob_moving)]) ∨ ((¬ (fob_many 3).toInt = -1 ∧ ¬ (fob_many 1).toInt = -1 ∧ (fob_width 3).toInt = (fob_width 1).toInt ∧ ¬ (0 ≤ a2.toInt ∧ 0 ≤ a4.toInt ∧ 0 ≤ a5.toInt ∧ a2.toInt + a5.toInt ≤ (fob_many 3).toInt ∧ a4.toInt + a5.toInt ≤ (fob_many 1).toInt)) ∧ r = (-7) ∧ w = [(ce_X10 ob ob_thrown ob_world ob_images ob_hasImage ob_tape ob_taped ob_five ob_size ob_at ob_from ob_token ob_value ob_faultKind ob_faultPlace ob_fresh ob_parts ob_houses ob_houseMany ob_worthOf ob_byCall ob_over ob_bestSet ob_bestOver ob_bestWorth ob_row ob_tenDebts ob_tenMany ob_fewestBy ob_covered ob_queue ob_cameBy ob_parent ob_met ob_calls ob_callMany ob_calledOn ob_saved ob_many ob_width ob_numbers ob_moving), (ce_i4 y ob_many fob_many), (ce_i4 y ob_width fob_width), (ce_l240 y ob_numbers fob_numbers), (ce_l60 y ob_moving fob_moving)]) ∨ ((¬ (fob_many 3).toInt = -1 ∧ ¬ (fob_many 1).toInt = -1 ∧ ¬ (fob_width 3).toInt = (fob_width 1).toInt) ∧ r = (-8) ∧ w = [(ce_X10 ob ob_thrown ob_world ob_images ob_hasImage ob_tape ob_taped ob_five ob_size ob_at ob_from ob_token ob_value ob_faultKind ob_faultPlace ob_fresh ob_parts ob_houses ob_houseMany ob_worthOf ob_byCall ob_over ob_bestSet ob_bestOver ob_bestWorth ob_row ob_tenDebts ob_tenMany ob_fewestBy ob_covered ob_queue ob_cameBy ob_parent ob_met ob_calls ob_callMany ob_calledOn ob_saved ob_many ob_width ob_numbers ob_moving), (ce_i4 y ob_many fob_many), (ce_i4 y ob_width fob_width), (ce_l240 y ob_numbers fob_numbers), (ce_l60 y ob_moving fob_moving)]) ∨ (∃ (f_579 : Nat → Int64) (f_580 : Nat → Int64), ((0 : Int) ≤ a2.toInt ∧ a2.toInt ≤ 60) ∧ ((0 : Int) ≤ a4.toInt ∧ a4.toInt ≤ 60) ∧ ((0 : Int) ≤ a5.toInt ∧ a5.toInt ≤ 60) ∧ (¬ (fob_many 3).toInt = -1 ∧ ¬ (fob_many 1).toInt = -1 ∧ (fob_width 3).toInt = (fob_width 1).toInt ∧ 0 ≤ a2.toInt ∧ 0 ≤ a4.toInt ∧ 0 ≤ a5.toInt ∧ a2.toInt + a5.toInt ≤ (fob_many 3).toInt ∧ a4.toInt + a5.toInt ≤ (fob_many 1).toInt) ∧ r = 0 ∧ w = [(ce_X10 ob ob_thrown ob_world ob_images ob_hasImage ob_tape ob_taped ob_five ob_size ob_at ob_from ob_token ob_value ob_faultKind ob_faultPlace ob_fresh ob_parts ob_houses ob_houseMany ob_worthOf ob_byCall ob_over ob_bestSet ob_bestOver ob_bestWorth ob_row ob_tenDebts ob_tenMany ob_fewestBy ob_covered ob_queue ob_cameBy ob_parent ob_met ob_calls ob_callMany ob_calledOn ob_saved ob_many ob_width ob_numbers ob_moving), (ce_i4 y ob_many fob_many), (ce_i4 y ob_width fob_width), (ce_l240 y ob_numbers f_579), (ce_l60 y ob_moving f_580)])) (kq G (va_A [(ce_X10 ob ob_thrown ob_world ob_images ob_hasImage ob_tape ob_taped ob_five ob_size ob_at ob_from ob_token ob_value ob_faultKind ob_faultPlace ob_fresh ob_parts ob_houses ob_houseMany ob_worthOf ob_byCall ob_over ob_bestSet ob_bestOver ob_bestWorth ob_row ob_tenDebts ob_tenMany ob_fewestBy ob_covered ob_queue ob_cameBy ob_parent ob_met ob_calls ob_callMany ob_calledOn ob_saved ob_many ob_width ob_numbers ob_moving), (ce_i4 y ob_many fob_many), (ce_i4 y ob_width fob_width), (ce_l240 y ob_numbers fob_numbers), (ce_l60 y ob_moving fob_moving)] sz)) (va_A [(ce_X10 ob ob_thrown ob_world ob_images ob_hasImage ob_tape ob_taped ob_five ob_size ob_at ob_from ob_token ob_value ob_faultKind ob_faultPlace ob_fresh ob_parts ob_houses ob_houseMany ob_worthOf ob_byCall ob_over ob_bestSet ob_bestOver ob_bestWorth ob_row ob_tenDebts ob_tenMany ob_fewestBy ob_covered ob_queue ob_cameBy ob_parent ob_met ob_calls ob_callMany ob_calledOn ob_saved ob_many ob_width ob_numbers ob_moving), (ce_i4 y ob_many fob_many), (ce_i4 y ob_width fob_width), (ce_l240 y ob_numbers fob_numbers), (ce_l60 y ob_moving fob_moving)] sz)) 0 0 (va_A [(ce_X10 ob ob_thrown ob_world ob_images ob_hasImage ob_tape ob_taped ob_five ob_size ob_at ob_from ob_token ob_value ob_faultKind ob_faultPlace ob_fresh ob_parts ob_houses ob_houseMany ob_worthOf ob_byCall ob_over ob_bestSet ob_bestOver ob_bestWorth ob_row ob_tenDebts ob_tenMany ob_fewestBy ob_covered ob_queue ob_cameBy ob_parent ob_met ob_calls ob_callMany ob_calledOn ob_saved ob_many ob_width ob_numbers ob_moving), (ce_i4 y ob_many fob_many), (ce_i4 y ob_width fob_width), (ce_l240 y ob_numbers fob_numbers), (ce_l60 y ob_moving fob_moving)] sz) := by
  refine Met.ofW (cc := cX10_paste) (maxL := 7) (ret := (some .int)) (by decide) rfl ?_
  intro p e s m args below meth c s₁ B hml hv
  obtain ⟨rfl, hsz, hP, hK, hD0⟩ := hv
  have hx := B.exec
  have hb := B.bytes
  have hr := B.returns
  have hw0 : ∀ w ∈ wAll, w.before _ s = true := fun w h => atoms_spec (ws := Cond.code yX10_paste cX10_paste 7 (some .int) :: wAll) B.pre w (List.mem_cons_of_mem _ h)
  have hown : s.vm.findClass RX10 = some m.cls := findClass_of_methodNamed B.named
  subst hsz
  have hD := hD0.self (sz := s.heap.size)
  generalize hAe : va_A [(ce_X10 ob ob_thrown ob_world ob_images ob_hasImage ob_tape ob_taped ob_five ob_size ob_at ob_from ob_token ob_value ob_faultKind ob_faultPlace ob_fresh ob_parts ob_houses ob_houseMany ob_worthOf ob_byCall ob_over ob_bestSet ob_bestOver ob_bestWorth ob_row ob_tenDebts ob_tenMany ob_fewestBy ob_covered ob_queue ob_cameBy ob_parent ob_met ob_calls ob_callMany ob_calledOn ob_saved ob_many ob_width ob_numbers ob_moving), (ce_i4 y ob_many fob_many), (ce_i4 y ob_width fob_width), (ce_l240 y ob_numbers fob_numbers), (ce_l60 y ob_moving fob_moving)] s.heap.size = A at hD ⊢
  have hA : ∀ q : Nat, s.heap.size ≤ q → A q := fun q h => by rw [← hAe]; exact Or.inr h
  have hS : va_S A s.heap s.heap [] := va_S.rf
  have hP : va_P G vwCl [(ce_X10 ob ob_thrown ob_world ob_images ob_hasImage ob_tape ob_taped ob_five ob_size ob_at ob_from ob_token ob_value ob_faultKind ob_faultPlace ob_fresh ob_parts ob_houses ob_houseMany ob_worthOf ob_byCall ob_over ob_bestSet ob_bestOver ob_bestWorth ob_row ob_tenDebts ob_tenMany ob_fewestBy ob_covered ob_queue ob_cameBy ob_parent ob_met ob_calls ob_callMany ob_calledOn ob_saved ob_many ob_width ob_numbers ob_moving), (ce_i4 y ob_many fob_many), (ce_i4 y ob_width fob_width), (ce_l240 y ob_numbers fob_numbers), (ce_l60 y ob_moving fob_moving)] s.heap := hP
  have hl := lv_entry ([.ref ob, .int 3, .int a2, .int 1, .int a4, .int a5]) (n := 7) (Nat.le_of_ble_eq_true rfl)
  rw [lg_entry_eq]
  generalize (lg_sl ([.ref ob, .int 3, .int a2, .int 1, .int a4, .int a5]) ++ List.replicate (7 - (lg_sl ([.ref ob, .int 3, .int a2, .int 1, .int a4, .int a5])).length) Slot.unset).toArray = ls at hl ⊢
  have hl : lv_has ls 7 [(0, .ref ob), (1, .int 3), (2, .int a2), (3, .int 1), (4, .int a4), (5, .int a5)] := hl
  refine lv_iload_n hx hb dX10_paste_0 rfl (lv_at hl 1 rfl) ?_
  refine cSim (As := [.int 3]) (rest := []) ⟨hx, hb, hml, hown, hw0⟩ hA hK hP hD hS [] (fisSlotM l G y _ 3 ) rfl ⟨(callB_of 1 hw0 (gA m_543) rfl rfl rfl (hw0 _ m_41) (hw0 _ m_433) cb_X10_isSlot ⟨Nat.le_of_ble_eq_true rfl, Nat.le_of_ble_eq_true rfl⟩), (hw0 _ m_434)⟩ rfl hl.1 (Nat.le_of_ble_eq_true rfl) dX10_paste_1 ⟨Nat.le_of_ble_eq_true rfl, Nat.le_of_ble_eq_true rfl⟩ (fun r_1001 w_1001 H locs hw_1001 hP hD hS => ?_)
  rcases hw_1001 with ⟨h_1002, rfl, rfl⟩ | ⟨h_1003, h_1004, rfl, rfl⟩
  · skip
    exact False.elim (by have h9 : Int32.toInt 3 = 3 := (by decide); omega)
  · skip
    obtain ⟨hP, hD⟩ : vPD G A H [(ce_X10 ob ob_thrown ob_world ob_images ob_hasImage ob_tape ob_taped ob_five ob_size ob_at ob_from ob_token ob_value ob_faultKind ob_faultPlace ob_fresh ob_parts ob_houses ob_houseMany ob_worthOf ob_byCall ob_over ob_bestSet ob_bestOver ob_bestWorth ob_row ob_tenDebts ob_tenMany ob_fewestBy ob_covered ob_queue ob_cameBy ob_parent ob_met ob_calls ob_callMany ob_calledOn ob_saved ob_many ob_width ob_numbers ob_moving), (ce_i4 y ob_many fob_many), (ce_i4 y ob_width fob_width), (ce_l240 y ob_numbers fob_numbers), (ce_l60 y ob_moving fob_moving)] := ⟨hP, hD⟩
    refine lv_if_eq (tgt := 14) hx hb dX10_paste_4 (by decide) (fun c9 => absurd c9 (by decide)) (fun _ => ?_)
    refine lv_iload_n hx hb dX10_paste_7 rfl (lv_at hl 3 rfl) ?_
    refine cSim (As := [.int 1]) (rest := []) ⟨hx, hb, hml, hown, hw0⟩ hA hK hP hD hS [] (fisSlotM l G y _ 1 ) rfl ⟨(callB_of 1 hw0 (gA m_543) rfl rfl rfl (hw0 _ m_41) (hw0 _ m_433) cb_X10_isSlot ⟨Nat.le_of_ble_eq_true rfl, Nat.le_of_ble_eq_true rfl⟩), (hw0 _ m_434)⟩ rfl hl.1 (Nat.le_of_ble_eq_true rfl) dX10_paste_8 ⟨Nat.le_of_ble_eq_true rfl, Nat.le_of_ble_eq_true rfl⟩ (fun r_1005 w_1005 H locs hw_1005 hP hD hS => ?_)
    rcases hw_1005 with ⟨h_1006, rfl, rfl⟩ | ⟨h_1007, h_1008, rfl, rfl⟩
    · skip
      exact False.elim (by have h9 : Int32.toInt 1 = 1 := (by decide); omega)
    · skip
      obtain ⟨hP, hD⟩ : vPD G A H [(ce_X10 ob ob_thrown ob_world ob_images ob_hasImage ob_tape ob_taped ob_five ob_size ob_at ob_from ob_token ob_value ob_faultKind ob_faultPlace ob_fresh ob_parts ob_houses ob_houseMany ob_worthOf ob_byCall ob_over ob_bestSet ob_bestOver ob_bestWorth ob_row ob_tenDebts ob_tenMany ob_fewestBy ob_covered ob_queue ob_cameBy ob_parent ob_met ob_calls ob_callMany ob_calledOn ob_saved ob_many ob_width ob_numbers ob_moving), (ce_i4 y ob_many fob_many), (ce_i4 y ob_width fob_width), (ce_l240 y ob_numbers fob_numbers), (ce_l60 y ob_moving fob_moving)] := ⟨hP, hD⟩
      refine lv_if_ne (tgt := 17) hx hb dX10_paste_11 (by decide) (fun _ => ?_) (fun c9 => absurd c9 (by decide))
      refine lv_aload_n hx hb dX10_paste_17 rfl (lv_at hl 0 rfl) ?_
      refine va_get (D := G) (ci := 10) (v := .ref ob_many) (C := RX10) (T := TX10) (N := 41) hx hb hw0 inA_wsX100 hown hK.1 hP 0 rfl rfl 37 (by decide) (hw0 _ m_406) (fun _ h9 => h9) rfl dX10_paste_18 ?_
      refine lv_iload_n hx hb dX10_paste_21 rfl (lv_at hl 1 rfl) ?_
      refine va_iald hx hb hK.1 hP 1 1 rfl rfl (vi (bkc (x := 3) (c := 3) (by decide)) (by decide)) dX10_paste_22 ?_
      refine lv_topi (fun v_1009 ev_1009 => ?_)
      have bv_1009 : (-1 : Int) ≤ v_1009.toInt ∧ v_1009.toInt ≤ 60 := rd_b ev_1009 p_fob_many
      have yv_1009 : v_1009.toInt = (fob_many 3).toInt := congrArg Int32.toInt ev_1009
      refine lv_iconst (v := (-1)) hx hb dX10_paste_23 (by decide) ?_
      refine lv_icmp_eq (tgt := 37) hx hb dX10_paste_24 (by decide) (fun c_1010 => ?_) (fun c_1010 => ?_)
      · skip
        have nc_1010 := nb_eq (-1) (-1) c_1010 bv_1009 (bkc (x := (-1)) (c := -1) (by decide)) (by decide)
        refine lv_bipush (v := (-6)) hx hb dX10_paste_37 (by decide) ?_
        exact W.iret (v := (-6)) hx hb hr (fun t ht hW => ⟨⟨(-6), _, rfl, Or.inl (⟨by have h90 : Int32.toInt (-6) = -6 := (by decide); have h91 : Int32.toInt 1 = 1 := (by decide); have h92 : Int32.toInt 3 = 3 := (by decide); omega, rfl, rfl⟩), by rw [ht]; exact hP, hD⟩, hS.F ht⟩) hS.2.2 dX10_paste_39
      · skip
        have nc_1010 := nb_ne (0) (60) c_1010 bv_1009 (k := -1) (by decide) (by decide)
        refine lv_aload_n hx hb dX10_paste_27 rfl (lv_at hl 0 rfl) ?_
        refine va_get (D := G) (ci := 10) (v := .ref ob_many) (C := RX10) (T := TX10) (N := 41) hx hb hw0 inA_wsX100 hown hK.1 hP 0 rfl rfl 37 (by decide) (hw0 _ m_406) (fun _ h9 => h9) rfl dX10_paste_28 ?_
        refine lv_iload_n hx hb dX10_paste_31 rfl (lv_at hl 3 rfl) ?_
        refine va_iald hx hb hK.1 hP 1 1 rfl rfl (vi (bkc (x := 1) (c := 1) (by decide)) (by decide)) dX10_paste_32 ?_
        refine lv_topi (fun v_1011 ev_1011 => ?_)
        have bv_1011 : (-1 : Int) ≤ v_1011.toInt ∧ v_1011.toInt ≤ 60 := rd_b ev_1011 p_fob_many
        have yv_1011 : v_1011.toInt = (fob_many 1).toInt := congrArg Int32.toInt ev_1011
        refine lv_iconst (v := (-1)) hx hb dX10_paste_33 (by decide) ?_
        refine lv_icmp_ne (tgt := 40) hx hb dX10_paste_34 (by decide) (fun c_1012 => ?_) (fun c_1012 => ?_)
        · skip
          have nc_1012 := nb_ne (0) (60) c_1012 bv_1011 (k := -1) (by decide) (by decide)
          refine lv_aload_n hx hb dX10_paste_40 rfl (lv_at hl 0 rfl) ?_
          refine va_get (D := G) (ci := 10) (v := .ref ob_width) (C := RX10) (T := TX10) (N := 41) hx hb hw0 inA_wsX100 hown hK.1 hP 0 rfl rfl 38 (by decide) (hw0 _ m_527) (fun _ h9 => h9) rfl dX10_paste_41 ?_
          refine lv_iload_n hx hb dX10_paste_44 rfl (lv_at hl 1 rfl) ?_
          refine va_iald hx hb hK.1 hP 2 1 rfl rfl (vi (bkc (x := 3) (c := 3) (by decide)) (by decide)) dX10_paste_45 ?_
          refine lv_topi (fun v_1013 ev_1013 => ?_)
          have bv_1013 : (0 : Int) ≤ v_1013.toInt ∧ v_1013.toInt ≤ 3 := rd_b ev_1013 p_fob_width
          have yv_1013 : v_1013.toInt = (fob_width 3).toInt := congrArg Int32.toInt ev_1013
          refine lv_aload_n hx hb dX10_paste_46 rfl (lv_at hl 0 rfl) ?_
          refine va_get (D := G) (ci := 10) (v := .ref ob_width) (C := RX10) (T := TX10) (N := 41) hx hb hw0 inA_wsX100 hown hK.1 hP 0 rfl rfl 38 (by decide) (hw0 _ m_527) (fun _ h9 => h9) rfl dX10_paste_47 ?_
          refine lv_iload_n hx hb dX10_paste_50 rfl (lv_at hl 3 rfl) ?_
          refine va_iald hx hb hK.1 hP 2 1 rfl rfl (vi (bkc (x := 1) (c := 1) (by decide)) (by decide)) dX10_paste_51 ?_
          refine lv_topi (fun v_1014 ev_1014 => ?_)
          have bv_1014 : (0 : Int) ≤ v_1014.toInt ∧ v_1014.toInt ≤ 3 := rd_b ev_1014 p_fob_width
          have yv_1014 : v_1014.toInt = (fob_width 1).toInt := congrArg Int32.toInt ev_1014
          refine lv_icmp_eq (tgt := 58) hx hb dX10_paste_52 (by decide) (fun c_1015 => ?_) (fun c_1015 => ?_)
          · skip
            have nc_1015 := nb_eq (0) (3) c_1015 bv_1013 bv_1014 (by decide)
            refine lv_iload_n hx hb dX10_paste_58 rfl (lv_at hl 2 rfl) ?_
            refine lv_if_lt (tgt := 107) hx hb dX10_paste_59 (by decide) (fun c_1016 => ?_) (fun c_1016 => ?_)
            · skip
              have nc_1016 := nb_lt (-1) (0) c_1016 (btop a2) (bkc (x := 0) (c := 0) (by decide)) (by decide)
              refine lv_bipush (v := (-7)) hx hb dX10_paste_107 (by decide) ?_
              exact W.iret (v := (-7)) hx hb hr (fun t ht hW => ⟨⟨(-7), _, rfl, Or.inr (Or.inl (⟨by have h90 : Int32.toInt (-7) = -7 := (by decide); have h91 : Int32.toInt 1 = 1 := (by decide); have h92 : Int32.toInt 3 = 3 := (by decide); omega, rfl, rfl⟩)), by rw [ht]; exact hP, hD⟩, hS.F ht⟩) hS.2.2 dX10_paste_109
            · skip
              have nc_1016 := nb_nlt (0) (0) c_1016 (bkc (x := 0) (c := 0) (by decide)) (btop a2) (by decide)
              refine lv_iload hx hb dX10_paste_62 (lv_at hl 4 rfl) ?_
              refine lv_if_lt (tgt := 107) hx hb dX10_paste_64 (by decide) (fun c_1017 => ?_) (fun c_1017 => ?_)
              · skip
                have nc_1017 := nb_lt (-1) (0) c_1017 (btop a4) (bkc (x := 0) (c := 0) (by decide)) (by decide)
                refine lv_bipush (v := (-7)) hx hb dX10_paste_107 (by decide) ?_
                exact W.iret (v := (-7)) hx hb hr (fun t ht hW => ⟨⟨(-7), _, rfl, Or.inr (Or.inl (⟨by have h90 : Int32.toInt (-7) = -7 := (by decide); have h91 : Int32.toInt 1 = 1 := (by decide); have h92 : Int32.toInt 3 = 3 := (by decide); omega, rfl, rfl⟩)), by rw [ht]; exact hP, hD⟩, hS.F ht⟩) hS.2.2 dX10_paste_109
              · skip
                have nc_1017 := nb_nlt (0) (0) c_1017 (bkc (x := 0) (c := 0) (by decide)) (btop a4) (by decide)
                refine lv_iload hx hb dX10_paste_67 (lv_at hl 5 rfl) ?_
                refine lv_if_lt (tgt := 107) hx hb dX10_paste_69 (by decide) (fun c_1018 => ?_) (fun c_1018 => ?_)
                · skip
                  have nc_1018 := nb_lt (-1) (0) c_1018 (btop a5) (bkc (x := 0) (c := 0) (by decide)) (by decide)
                  refine lv_bipush (v := (-7)) hx hb dX10_paste_107 (by decide) ?_
                  exact W.iret (v := (-7)) hx hb hr (fun t ht hW => ⟨⟨(-7), _, rfl, Or.inr (Or.inl (⟨by have h90 : Int32.toInt (-7) = -7 := (by decide); have h91 : Int32.toInt 1 = 1 := (by decide); have h92 : Int32.toInt 3 = 3 := (by decide); omega, rfl, rfl⟩)), by rw [ht]; exact hP, hD⟩, hS.F ht⟩) hS.2.2 dX10_paste_109
                · skip
                  have nc_1018 := nb_nlt (0) (0) c_1018 (bkc (x := 0) (c := 0) (by decide)) (btop a5) (by decide)
                  refine lv_iload_n hx hb dX10_paste_72 rfl (lv_at hl 2 rfl) ?_
                  refine lv_i2l hx hb dX10_paste_73 rfl ?_
                  have kk_1019 : ((a2).toInt64).toInt = (a2).toInt := Int32.toInt_toInt64 _
                  refine lv_iload hx hb dX10_paste_74 (lv_at hl 5 rfl) ?_
                  refine lv_i2l hx hb dX10_paste_76 rfl ?_
                  have kk_1020 : ((a5).toInt64).toInt = (a5).toInt := Int32.toInt_toInt64 _
                  refine lv_ladd hx hb dX10_paste_77 ?_
                  refine lv_topl (fun v_1021 ev_1021 => ?_)
                  have qv_1021 := la_add ev_1021
                  refine lv_aload_n hx hb dX10_paste_78 rfl (lv_at hl 0 rfl) ?_
                  refine va_get (D := G) (ci := 10) (v := .ref ob_many) (C := RX10) (T := TX10) (N := 41) hx hb hw0 inA_wsX100 hown hK.1 hP 0 rfl rfl 37 (by decide) (hw0 _ m_406) (fun _ h9 => h9) rfl dX10_paste_79 ?_
                  refine lv_iload_n hx hb dX10_paste_82 rfl (lv_at hl 1 rfl) ?_
                  refine va_iald hx hb hK.1 hP 1 1 rfl rfl (vi (bkc (x := 3) (c := 3) (by decide)) (by decide)) dX10_paste_83 ?_
                  refine lv_topi (fun v_1022 ev_1022 => ?_)
                  obtain rfl : v_1009 = v_1022 := (ev_1022.trans (ev_1009.symm)).symm
                  refine lv_i2l hx hb dX10_paste_84 rfl ?_
                  have kk_1023 : ((v_1009).toInt64).toInt = (v_1009).toInt := Int32.toInt_toInt64 _
                  refine W.lcmp hx hb dX10_paste_85 ?_
                  refine lv_if_gt (tgt := 107) hx hb dX10_paste_86 (by decide) (fun c_1024 => ?_) (fun c_1024 => ?_)
                  · skip
                    have nc_1024 := jl_gt c_1024
                    refine lv_bipush (v := (-7)) hx hb dX10_paste_107 (by decide) ?_
                    exact W.iret (v := (-7)) hx hb hr (fun t ht hW => ⟨⟨(-7), _, rfl, Or.inr (Or.inl (⟨by have h90 : Int32.toInt (-7) = -7 := (by decide); have h91 : Int32.toInt 1 = 1 := (by decide); have h92 : Int32.toInt 3 = 3 := (by decide); omega, rfl, rfl⟩)), by rw [ht]; exact hP, hD⟩, hS.F ht⟩) hS.2.2 dX10_paste_109
                  · skip
                    have nc_1024 := jl_ngt c_1024
                    refine lv_iload hx hb dX10_paste_89 (lv_at hl 4 rfl) ?_
                    refine lv_i2l hx hb dX10_paste_91 rfl ?_
                    have kk_1025 : ((a4).toInt64).toInt = (a4).toInt := Int32.toInt_toInt64 _
                    refine lv_iload hx hb dX10_paste_92 (lv_at hl 5 rfl) ?_
                    refine lv_i2l hx hb dX10_paste_94 rfl ?_
                    have kk_1026 : ((a5).toInt64).toInt = (a5).toInt := Int32.toInt_toInt64 _
                    refine lv_ladd hx hb dX10_paste_95 ?_
                    refine lv_topl (fun v_1027 ev_1027 => ?_)
                    have qv_1027 := la_add ev_1027
                    refine lv_aload_n hx hb dX10_paste_96 rfl (lv_at hl 0 rfl) ?_
                    refine va_get (D := G) (ci := 10) (v := .ref ob_many) (C := RX10) (T := TX10) (N := 41) hx hb hw0 inA_wsX100 hown hK.1 hP 0 rfl rfl 37 (by decide) (hw0 _ m_406) (fun _ h9 => h9) rfl dX10_paste_97 ?_
                    refine lv_iload_n hx hb dX10_paste_100 rfl (lv_at hl 3 rfl) ?_
                    refine va_iald hx hb hK.1 hP 1 1 rfl rfl (vi (bkc (x := 1) (c := 1) (by decide)) (by decide)) dX10_paste_101 ?_
                    refine lv_topi (fun v_1028 ev_1028 => ?_)
                    obtain rfl : v_1011 = v_1028 := (ev_1028.trans (ev_1011.symm)).symm
                    refine lv_i2l hx hb dX10_paste_102 rfl ?_
                    have kk_1029 : ((v_1011).toInt64).toInt = (v_1011).toInt := Int32.toInt_toInt64 _
                    refine W.lcmp hx hb dX10_paste_103 ?_
                    refine lv_if_le (tgt := 110) hx hb dX10_paste_104 (by decide) (fun c_1030 => ?_) (fun c_1030 => ?_)
                    · skip
                      have nc_1030 := jl_le c_1030
                      have h_1031 : (0 : Int) ≤ a2.toInt ∧ a2.toInt ≤ 60 := by omega
                      have h_1032 : (0 : Int) ≤ a4.toInt ∧ a4.toInt ≤ 60 := by omega
                      have h_1033 : (0 : Int) ≤ a5.toInt ∧ a5.toInt ≤ 60 := by omega
                      refine lv_iconst (v := 0) hx hb dX10_paste_110 (by decide) ?_
                      refine lv_istore (lv' := [(6, .int 0), (0, .ref ob), (1, .int 3), (2, .int a2), (3, .int 1), (4, .int a4), (5, .int a5)]) hx hb dX10_paste_111 hl (by decide) rfl (fun ls hl => ?_)
                      refine loopX (fun n H locs ls st => ∃ (v_1151 : Int32) (f_1152 : Nat → Int64), (60 - v_1151.toInt).toNat = n ∧ ((0 : Int) ≤ v_1151.toInt ∧ v_1151.toInt ≤ 60) ∧ st = [] ∧ vPD G A H [(ce_X10 ob ob_thrown ob_world ob_images ob_hasImage ob_tape ob_taped ob_five ob_size ob_at ob_from ob_token ob_value ob_faultKind ob_faultPlace ob_fresh ob_parts ob_houses ob_houseMany ob_worthOf ob_byCall ob_over ob_bestSet ob_bestOver ob_bestWorth ob_row ob_tenDebts ob_tenMany ob_fewestBy ob_covered ob_queue ob_cameBy ob_parent ob_met ob_calls ob_callMany ob_calledOn ob_saved ob_many ob_width ob_numbers ob_moving), (ce_i4 y ob_many fob_many), (ce_i4 y ob_width fob_width), (ce_l240 y ob_numbers fob_numbers), (ce_l60 y ob_moving f_1152)] ∧ va_S A s.heap H locs ∧ lv_has ls 7 [(6, .int v_1151), (0, .ref ob), (1, .int 3), (2, .int a2), (3, .int 1), (4, .int a4), (5, .int a5)]) ?_ (n := (60 - (0 : Int32).toInt).toNat) ⟨0, fob_moving, rfl, (bw (0) (60) (bkc (x := 0) (c := 0) (by decide)) (by decide)), rfl, ⟨hP, hD⟩, hS, lv_sub hl [0, 1, 2, 3, 4, 5, 6] rfl⟩
                      rintro n ih_1160 H locs ls st ⟨v_1151, f_1152, hn_1160, bv_1151, rfl, ⟨hP, hD⟩, hS, hl⟩
                      refine lv_iload hx hb dX10_paste_113 (lv_at hl 0 rfl) ?_
                      refine lv_iload hx hb dX10_paste_115 (lv_at hl 6 rfl) ?_
                      refine lv_icmp_ge (tgt := 147) hx hb dX10_paste_117 (by decide) (fun c_1161 => ?_) (fun c_1161 => ?_)
                      · skip
                        have nc_1161 := nb_le (60) (0) c_1161 h_1033 bv_1151 (by decide)
                        refine lv_iconst (v := 0) hx hb dX10_paste_147 (by decide) ?_
                        refine lv_istore (lv' := [(6, .int 0), (0, .ref ob), (1, .int 3), (2, .int a2), (3, .int 1), (4, .int a4), (5, .int a5)]) hx hb dX10_paste_148 hl (by decide) rfl (fun ls hl => ?_)
                        refine loopX (fun n H locs ls st => ∃ (v_1267 : Int32) (f_1268 : Nat → Int64), (60 - v_1267.toInt).toNat = n ∧ ((0 : Int) ≤ v_1267.toInt ∧ v_1267.toInt ≤ 60) ∧ st = [] ∧ vPD G A H [(ce_X10 ob ob_thrown ob_world ob_images ob_hasImage ob_tape ob_taped ob_five ob_size ob_at ob_from ob_token ob_value ob_faultKind ob_faultPlace ob_fresh ob_parts ob_houses ob_houseMany ob_worthOf ob_byCall ob_over ob_bestSet ob_bestOver ob_bestWorth ob_row ob_tenDebts ob_tenMany ob_fewestBy ob_covered ob_queue ob_cameBy ob_parent ob_met ob_calls ob_callMany ob_calledOn ob_saved ob_many ob_width ob_numbers ob_moving), (ce_i4 y ob_many fob_many), (ce_i4 y ob_width fob_width), (ce_l240 y ob_numbers f_1268), (ce_l60 y ob_moving f_1152)] ∧ va_S A s.heap H locs ∧ lv_has ls 7 [(6, .int v_1267), (0, .ref ob), (3, .int 1), (4, .int a4), (5, .int a5)]) ?_ (n := (60 - (0 : Int32).toInt).toNat) ⟨0, fob_numbers, rfl, (bw (0) (60) (bkc (x := 0) (c := 0) (by decide)) (by decide)), rfl, ⟨hP, hD⟩, hS, lv_sub hl [0, 1, 4, 5, 6] rfl⟩
                        rintro n ih_1275 H locs ls st ⟨v_1267, f_1268, hn_1275, bv_1267, rfl, ⟨hP, hD⟩, hS, hl⟩
                        refine lv_iload hx hb dX10_paste_150 (lv_at hl 0 rfl) ?_
                        refine lv_iload hx hb dX10_paste_152 (lv_at hl 4 rfl) ?_
                        refine lv_icmp_ge (tgt := 185) hx hb dX10_paste_154 (by decide) (fun c_1276 => ?_) (fun c_1276 => ?_)
                        · skip
                          have nc_1276 := nb_le (60) (0) c_1276 nc_1161.1 bv_1267 (by decide)
                          refine lv_iconst (v := 0) hx hb dX10_paste_185 (by decide) ?_
                          exact W.iret (v := 0) hx hb hr (fun t ht hW => ⟨⟨0, _, rfl, Or.inr (Or.inr (Or.inr (⟨f_1268, f_1152, h_1031, h_1032, nc_1276.1, by have h90 : Int32.toInt 0 = 0 := (by decide); have h91 : Int32.toInt 1 = 1 := (by decide); omega, rfl, rfl⟩))), by rw [ht]; exact hP, hD⟩, hS.F ht⟩) hS.2.2 dX10_paste_186
                        · skip
                          have nc_1276 := nb_nle (59) (1) c_1276 bv_1267 nc_1161.1 (by decide)
                          refine lv_aload_n hx hb dX10_paste_157 rfl (lv_at hl 1 rfl) ?_
                          refine va_get (D := G) (ci := 10) (v := .ref ob_numbers) (C := RX10) (T := TX10) (N := 41) hx hb hw0 inA_wsX100 hown hK.1 hP 0 rfl rfl 39 (by decide) (hw0 _ m_435) (fun _ h9 => h9) rfl dX10_paste_158 ?_
                          refine lv_bipush (v := 60) hx hb dX10_paste_161 (by decide) ?_
                          refine lv_iload_n hx hb dX10_paste_163 rfl (lv_at hl 2 rfl) ?_
                          refine lv_imul hx hb dX10_paste_164 ?_
                          refine lv_topi (fun v_1277 ev_1277 => ?_)
                          obtain rfl : 60 = v_1277 := (ev_1277.trans (by decide)).symm
                          refine lv_iload hx hb dX10_paste_165 (lv_at hl 3 rfl) ?_
                          refine lv_iadd hx hb dX10_paste_167 ?_
                          refine lv_topi (fun v_1278 ev_1278 => ?_)
                          have qv_1278 := ba_add ev_1278 (bkc (x := 60) (c := 60) (by decide)) h_1032 (by decide)
                          have bv_1278 : (60 : Int) ≤ v_1278.toInt ∧ v_1278.toInt ≤ 120 := bq_add qv_1278 (bkc (x := 60) (c := 60) (by decide)) h_1032 _ _ (by decide)
                          have qv_1278 : v_1278.toInt = (60) + a4.toInt := qv_1278
                          refine lv_iload hx hb dX10_paste_168 (lv_at hl 0 rfl) ?_
                          refine lv_iadd hx hb dX10_paste_170 ?_
                          refine lv_topi (fun v_1279 ev_1279 => ?_)
                          have qv_1279 := ba_add ev_1279 bv_1278 nc_1276.1 (by decide)
                          have bv_1279 : (60 : Int) ≤ v_1279.toInt ∧ v_1279.toInt ≤ 179 := bq_add qv_1279 bv_1278 nc_1276.1 _ _ (by decide)
                          refine lv_aload_n hx hb dX10_paste_171 rfl (lv_at hl 1 rfl) ?_
                          refine va_get (D := G) (ci := 10) (v := .ref ob_moving) (C := RX10) (T := TX10) (N := 41) hx hb hw0 inA_wsX100 hown hK.1 hP 0 rfl rfl 40 (by decide) (hw0 _ m_529) (fun _ h9 => h9) rfl dX10_paste_172 ?_
                          refine lv_iload hx hb dX10_paste_175 (lv_at hl 0 rfl) ?_
                          refine va_lald hx hb hK.1 hP 4 2 rfl rfl (vi nc_1276.1 (by decide)) dX10_paste_177 ?_
                          refine lv_topl (fun v_1280 ev_1280 => ?_)
                          refine va_last hx hb hK.1 hP hD hS 3 2 rfl rfl (vi bv_1279 (by decide)) dX10_paste_178 (fun H locs hP hD hS => ?_)
                          generalize hf_1281 : (vp_updL f_1268 (v_1279 : Int32).toNatClampNeg v_1280) = f_1281 at hP hD
                          obtain ⟨hP, hD⟩ : vPD G A H [(ce_X10 ob ob_thrown ob_world ob_images ob_hasImage ob_tape ob_taped ob_five ob_size ob_at ob_from ob_token ob_value ob_faultKind ob_faultPlace ob_fresh ob_parts ob_houses ob_houseMany ob_worthOf ob_byCall ob_over ob_bestSet ob_bestOver ob_bestWorth ob_row ob_tenDebts ob_tenMany ob_fewestBy ob_covered ob_queue ob_cameBy ob_parent ob_met ob_calls ob_callMany ob_calledOn ob_saved ob_many ob_width ob_numbers ob_moving), (ce_i4 y ob_many fob_many), (ce_i4 y ob_width fob_width), (ce_l240 y ob_numbers f_1281), (ce_l60 y ob_moving f_1152)] := ⟨hP, hD⟩
                          obtain ⟨v_1282, ev_1282⟩ : ∃ z : Int32, z = v_1267 + 1 := ⟨_, rfl⟩
                          have qv_1282 := ba_add ev_1282 nc_1276.1 (bkc (x := 1) (c := 1) (by decide)) (by decide)
                          have bv_1282 : (1 : Int) ≤ v_1282.toInt ∧ v_1282.toInt ≤ 60 := bq_add qv_1282 nc_1276.1 (bkc (x := 1) (c := 1) (by decide)) _ _ (by decide)
                          have qv_1282 : v_1282.toInt = v_1267.toInt + (1) := qv_1282
                          refine lv_iinc (v := v_1282) (lv' := [(6, .int v_1282), (0, .ref ob), (3, .int 1), (4, .int a4), (5, .int a5)]) hx hb dX10_paste_179 hl (k := 0) rfl (ev_1282.symm) (by decide) rfl (fun ls hl => ?_)
                          refine lv_goto (tgt := 150) hx hb dX10_paste_182 (by decide) ?_
                          exact ih_1275 _ (ml_inc (hi := 60) hn_1275 qv_1282 (by decide) ((bw (0) (60) bv_1282 (by decide))).2) _ _ _ _ ⟨v_1282, f_1281, rfl, (bw (0) (60) bv_1282 (by decide)), rfl, ⟨hP, hD⟩, hS, lv_sub hl [0, 1, 2, 3, 4] rfl⟩
                      · skip
                        have nc_1161 := nb_nle (59) (1) c_1161 bv_1151 h_1033 (by decide)
                        refine lv_aload_n hx hb dX10_paste_120 rfl (lv_at hl 1 rfl) ?_
                        refine va_get (D := G) (ci := 10) (v := .ref ob_moving) (C := RX10) (T := TX10) (N := 41) hx hb hw0 inA_wsX100 hown hK.1 hP 0 rfl rfl 40 (by decide) (hw0 _ m_529) (fun _ h9 => h9) rfl dX10_paste_121 ?_
                        refine lv_iload hx hb dX10_paste_124 (lv_at hl 0 rfl) ?_
                        refine lv_aload_n hx hb dX10_paste_126 rfl (lv_at hl 1 rfl) ?_
                        refine va_get (D := G) (ci := 10) (v := .ref ob_numbers) (C := RX10) (T := TX10) (N := 41) hx hb hw0 inA_wsX100 hown hK.1 hP 0 rfl rfl 39 (by decide) (hw0 _ m_435) (fun _ h9 => h9) rfl dX10_paste_127 ?_
                        refine lv_bipush (v := 60) hx hb dX10_paste_130 (by decide) ?_
                        refine lv_iload_n hx hb dX10_paste_132 rfl (lv_at hl 2 rfl) ?_
                        refine lv_imul hx hb dX10_paste_133 ?_
                        refine lv_topi (fun v_1283 ev_1283 => ?_)
                        obtain rfl : 180 = v_1283 := (ev_1283.trans (by decide)).symm
                        refine lv_iload_n hx hb dX10_paste_134 rfl (lv_at hl 3 rfl) ?_
                        refine lv_iadd hx hb dX10_paste_135 ?_
                        refine lv_topi (fun v_1284 ev_1284 => ?_)
                        have qv_1284 := ba_add ev_1284 (bkc (x := 180) (c := 180) (by decide)) h_1031 (by decide)
                        have bv_1284 : (180 : Int) ≤ v_1284.toInt ∧ v_1284.toInt ≤ 240 := bq_add qv_1284 (bkc (x := 180) (c := 180) (by decide)) h_1031 _ _ (by decide)
                        have qv_1284 : v_1284.toInt = (180) + a2.toInt := qv_1284
                        refine lv_iload hx hb dX10_paste_136 (lv_at hl 0 rfl) ?_
                        refine lv_iadd hx hb dX10_paste_138 ?_
                        refine lv_topi (fun v_1285 ev_1285 => ?_)
                        have qv_1285 := ba_add ev_1285 bv_1284 nc_1161.1 (by decide)
                        have bv_1285 : (180 : Int) ≤ v_1285.toInt ∧ v_1285.toInt ≤ 299 := bq_add qv_1285 bv_1284 nc_1161.1 _ _ (by decide)
                        have h_1286 : (0 : Int) ≤ v_1285.toInt ∧ v_1285.toInt ≤ 239 := by omega
                        refine va_lald hx hb hK.1 hP 3 2 rfl rfl (vi h_1286 (by decide)) dX10_paste_139 ?_
                        refine lv_topl (fun v_1287 ev_1287 => ?_)
                        refine va_last hx hb hK.1 hP hD hS 4 2 rfl rfl (vi nc_1161.1 (by decide)) dX10_paste_140 (fun H locs hP hD hS => ?_)
                        generalize hf_1288 : (vp_updL f_1152 (v_1151 : Int32).toNatClampNeg v_1287) = f_1288 at hP hD
                        obtain ⟨hP, hD⟩ : vPD G A H [(ce_X10 ob ob_thrown ob_world ob_images ob_hasImage ob_tape ob_taped ob_five ob_size ob_at ob_from ob_token ob_value ob_faultKind ob_faultPlace ob_fresh ob_parts ob_houses ob_houseMany ob_worthOf ob_byCall ob_over ob_bestSet ob_bestOver ob_bestWorth ob_row ob_tenDebts ob_tenMany ob_fewestBy ob_covered ob_queue ob_cameBy ob_parent ob_met ob_calls ob_callMany ob_calledOn ob_saved ob_many ob_width ob_numbers ob_moving), (ce_i4 y ob_many fob_many), (ce_i4 y ob_width fob_width), (ce_l240 y ob_numbers fob_numbers), (ce_l60 y ob_moving f_1288)] := ⟨hP, hD⟩
                        obtain ⟨v_1289, ev_1289⟩ : ∃ z : Int32, z = v_1151 + 1 := ⟨_, rfl⟩
                        have qv_1289 := ba_add ev_1289 nc_1161.1 (bkc (x := 1) (c := 1) (by decide)) (by decide)
                        have bv_1289 : (1 : Int) ≤ v_1289.toInt ∧ v_1289.toInt ≤ 60 := bq_add qv_1289 nc_1161.1 (bkc (x := 1) (c := 1) (by decide)) _ _ (by decide)
                        have qv_1289 : v_1289.toInt = v_1151.toInt + (1) := qv_1289
                        refine lv_iinc (v := v_1289) (lv' := [(6, .int v_1289), (0, .ref ob), (1, .int 3), (2, .int a2), (3, .int 1), (4, .int a4), (5, .int a5)]) hx hb dX10_paste_141 hl (k := 0) rfl (ev_1289.symm) (by decide) rfl (fun ls hl => ?_)
                        refine lv_goto (tgt := 113) hx hb dX10_paste_144 (by decide) ?_
                        exact ih_1160 _ (ml_inc (hi := 60) hn_1160 qv_1289 (by decide) ((bw (0) (60) bv_1289 (by decide))).2) _ _ _ _ ⟨v_1289, f_1288, rfl, (bw (0) (60) bv_1289 (by decide)), rfl, ⟨hP, hD⟩, hS, lv_sub hl [0, 1, 2, 3, 4, 5, 6] rfl⟩
                    · skip
                      have nc_1030 := jl_nle c_1030
                      refine lv_bipush (v := (-7)) hx hb dX10_paste_107 (by decide) ?_
                      exact W.iret (v := (-7)) hx hb hr (fun t ht hW => ⟨⟨(-7), _, rfl, Or.inr (Or.inl (⟨by have h90 : Int32.toInt (-7) = -7 := (by decide); have h91 : Int32.toInt 1 = 1 := (by decide); have h92 : Int32.toInt 3 = 3 := (by decide); omega, rfl, rfl⟩)), by rw [ht]; exact hP, hD⟩, hS.F ht⟩) hS.2.2 dX10_paste_109
          · skip
            have nc_1015 : v_1013.toInt ≠ v_1014.toInt := fun h9 => c_1015 (Int32.toInt_inj.mp h9)
            refine lv_bipush (v := (-8)) hx hb dX10_paste_55 (by decide) ?_
            exact W.iret (v := (-8)) hx hb hr (fun t ht hW => ⟨⟨(-8), _, rfl, Or.inr (Or.inr (Or.inl (⟨by have h90 : Int32.toInt (-8) = -8 := (by decide); have h91 : Int32.toInt 1 = 1 := (by decide); have h92 : Int32.toInt 3 = 3 := (by decide); omega, rfl, rfl⟩))), by rw [ht]; exact hP, hD⟩, hS.F ht⟩) hS.2.2 dX10_paste_57
        · skip
          have nc_1012 := nb_eq (-1) (-1) c_1012 bv_1011 (bkc (x := (-1)) (c := -1) (by decide)) (by decide)
          refine lv_bipush (v := (-6)) hx hb dX10_paste_37 (by decide) ?_
          exact W.iret (v := (-6)) hx hb hr (fun t ht hW => ⟨⟨(-6), _, rfl, Or.inl (⟨by have h90 : Int32.toInt (-6) = -6 := (by decide); have h91 : Int32.toInt 1 = 1 := (by decide); have h92 : Int32.toInt 3 = 3 := (by decide); omega, rfl, rfl⟩), by rw [ht]; exact hP, hD⟩, hS.F ht⟩) hS.2.2 dX10_paste_39

set_option maxHeartbeats 4000000 in
set_option maxRecDepth 100000 in
theorem fpasteM32 (l : Launch) (G : va_G) (y : Nat → ClassId) (sz : Nat) (ob : Nat) (a2 : Int32) (a4 : Int32) (a5 : Int32) (ob_thrown : Int32) (ob_world : Nat) (ob_images : Nat) (ob_hasImage : Nat) (ob_tape : Nat) (ob_taped : Int32) (ob_five : Nat) (ob_size : Int32) (ob_at : Int32) (ob_from : Int32) (ob_token : Int32) (ob_value : Int32) (ob_faultKind : Int32) (ob_faultPlace : Int32) (ob_fresh : Nat) (ob_parts : Nat) (ob_houses : Nat) (ob_houseMany : Int32) (ob_worthOf : Nat) (ob_byCall : Nat) (ob_over : Nat) (ob_bestSet : Int32) (ob_bestOver : Int32) (ob_bestWorth : Int32) (ob_row : Nat) (ob_tenDebts : Nat) (ob_tenMany : Int32) (ob_fewestBy : Nat) (ob_covered : Nat) (ob_queue : Nat) (ob_cameBy : Nat) (ob_parent : Nat) (ob_met : Nat) (ob_calls : Nat) (ob_callMany : Int32) (ob_calledOn : Nat) (ob_saved : Nat) (ob_many : Nat) (ob_width : Nat) (ob_numbers : Nat) (ob_moving : Nat) (fob_many : Nat → Int32) (fob_width : Nat → Int32) (fob_numbers : Nat → Int64) (fob_moving : Nat → Int64) (p_ob_taped : (0 : Int) ≤ ob_taped.toInt ∧ ob_taped.toInt ≤ 1400) (p_ob_size : (0 : Int) ≤ ob_size.toInt ∧ ob_size.toInt ≤ 1400) (p_ob_at : (0 : Int) ≤ ob_at.toInt ∧ ob_at.toInt ≤ 1400) (p_ob_from : (0 : Int) ≤ ob_from.toInt ∧ ob_from.toInt ≤ 1400) (p_ob_token : (0 : Int) ≤ ob_token.toInt ∧ ob_token.toInt ≤ 4) (p_ob_value : (0 : Int) ≤ ob_value.toInt ∧ ob_value.toInt ≤ 9999) (p_ob_faultKind : (0 : Int) ≤ ob_faultKind.toInt ∧ ob_faultKind.toInt ≤ 3) (p_ob_houseMany : (0 : Int) ≤ ob_houseMany.toInt ∧ ob_houseMany.toInt ≤ 10) (p_ob_bestSet : (0 : Int) ≤ ob_bestSet.toInt ∧ ob_bestSet.toInt ≤ 1023) (p_ob_bestOver : (-1 : Int) ≤ ob_bestOver.toInt ∧ ob_bestOver.toInt ≤ 180) (p_ob_tenMany : (0 : Int) ≤ ob_tenMany.toInt ∧ ob_tenMany.toInt ≤ 10) (p_ob_callMany : (0 : Int) ≤ ob_callMany.toInt ∧ ob_callMany.toInt ≤ 16) (p_fob_many : ∀ i, (-1 : Int) ≤ (fob_many i).toInt ∧ (fob_many i).toInt ≤ 60) (p_fob_width : ∀ i, (0 : Int) ≤ (fob_width i).toInt ∧ (fob_width i).toInt ≤ 3) : Met l yX10_paste (Cond.code yX10_paste cX10_paste 7 (some .int) :: wAll) ({ frames := 2, cells := 0, slots := 0, locals := 45 }) (va_Pc [.ref ob, .int 3, .int a2, .int 2, .int a4, .int a5] (kp G y sz [(ce_X10 ob ob_thrown ob_world ob_images ob_hasImage ob_tape ob_taped ob_five ob_size ob_at ob_from ob_token ob_value ob_faultKind ob_faultPlace ob_fresh ob_parts ob_houses ob_houseMany ob_worthOf ob_byCall ob_over ob_bestSet ob_bestOver ob_bestWorth ob_row ob_tenDebts ob_tenMany ob_fewestBy ob_covered ob_queue ob_cameBy ob_parent ob_met ob_calls ob_callMany ob_calledOn ob_saved ob_many ob_width ob_numbers ob_moving), (ce_i4 y ob_many fob_many), (ce_i4 y ob_width fob_width), (ce_l240 y ob_numbers fob_numbers), (ce_l60 y ob_moving fob_moving)])) (va_Qi (fun (r : Int32) (w : va_W) => (((fob_many 3).toInt = -1 ∨ (fob_many 2).toInt = -1) ∧ r = (-6) ∧ w = [(ce_X10 ob ob_thrown ob_world ob_images ob_hasImage ob_tape ob_taped ob_five ob_size ob_at ob_from ob_token ob_value ob_faultKind ob_faultPlace ob_fresh ob_parts ob_houses ob_houseMany ob_worthOf ob_byCall ob_over ob_bestSet ob_bestOver ob_bestWorth ob_row ob_tenDebts ob_tenMany ob_fewestBy ob_covered ob_queue ob_cameBy ob_parent ob_met ob_calls ob_callMany ob_calledOn ob_saved ob_many ob_width ob_numbers ob_moving), (ce_i4 y ob_many fob_many), (ce_i4 y ob_width fob_width), (ce_l240 y ob_numbers fob_numbers), (ce_l60 y ob_moving fob_moving)]) ∨ ((¬ (fob_many 3).toInt = -1 ∧ ¬ (fob_many 2).toInt = -1 ∧ (fob_width 3).toInt = (fob_width 2).toInt ∧ ¬ (0 ≤ a2.toInt ∧ 0 ≤ a4.toInt ∧ 0 ≤ a5.toInt ∧ a2.toInt + a5.toInt ≤ (fob_many 3).toInt ∧ a4.toInt + a5.toInt ≤ (fob_many 2).toInt)) ∧ r = (-7) ∧ w = [(ce_X10 ob ob_thrown ob_world ob_images ob_hasImage ob_tape ob_taped ob_five ob_size ob_at ob_from ob_token ob_value ob_faultKind ob_faultPlace ob_fresh ob_parts ob_houses ob_houseMany ob_worthOf ob_byCall ob_over ob_bestSet ob_bestOver ob_bestWorth ob_row ob_tenDebts ob_tenMany ob_fewestBy ob_covered ob_queue ob_cameBy ob_parent ob_met ob_calls ob_callMany ob_calledOn ob_saved ob_many ob_width ob_numbers ob_moving), (ce_i4 y ob_many fob_many), (ce_i4 y ob_width fob_width), (ce_l240 y ob_numbers fob_numbers), (ce_l60 y ob_moving fob_moving)]) ∨ ((¬ (fob_many 3).toInt = -1 ∧ ¬ (fob_many 2).toInt = -1 ∧ ¬ (fob_width 3).toInt = (fob_width 2).toInt) ∧ r = (-8) ∧ w = [(ce_X10 ob ob_thrown ob_world ob_images ob_hasImage ob_tape ob_taped ob_five ob_size ob_at ob_from ob_token ob_value ob_faultKind ob_faultPlace ob_fresh ob_parts ob_houses ob_houseMany ob_worthOf ob_byCall ob_over ob_bestSet ob_bestOver ob_bestWorth ob_row ob_tenDebts ob_tenMany ob_fewestBy ob_covered ob_queue ob_cameBy ob_parent ob_met ob_calls ob_callMany ob_calledOn ob_saved ob_many ob_width ob_numbers ob_moving), (ce_i4 y ob_many fob_many), (ce_i4 y ob_width fob_width), (ce_l240 y ob_numbers fob_numbers), (ce_l60 y ob_moving fob_moving)]) ∨ (∃ (f_579 : Nat → Int64) (f_580 : Nat → Int64), ((0 : Int) ≤ a2.toInt ∧ a2.toInt ≤ 60) ∧ ((0 : Int) ≤ a4.toInt ∧ a4.toInt ≤ 60) ∧ ((0 : Int) ≤ a5.toInt ∧ a5.toInt ≤ 60) ∧ (¬ (fob_many 3).toInt = -1 ∧ ¬ (fob_many 2).toInt = -1 ∧ (fob_width 3).toInt = (fob_width 2).toInt ∧ 0 ≤ a2.toInt ∧ 0 ≤ a4.toInt ∧ 0 ≤ a5.toInt ∧ a2.toInt + a5.toInt ≤ (fob_many 3).toInt ∧ a4.toInt + a5.toInt ≤ (fob_many 2).toInt) ∧ r = 0 ∧ w = [(ce_X10 ob ob_thrown ob_world ob_images ob_hasImage ob_tape ob_taped ob_five ob_size ob_at ob_from ob_token ob_value ob_faultKind ob_faultPlace ob_fresh ob_parts ob_houses ob_houseMany ob_worthOf ob_byCall ob_over ob_bestSet ob_bestOver ob_bestWorth ob_row ob_tenDebts ob_tenMany ob_fewestBy ob_covered ob_queue ob_cameBy ob_parent ob_met ob_calls ob_callMany ob_calledOn ob_saved ob_many ob_width ob_numbers ob_moving), (ce_i4 y ob_many fob_many), (ce_i4 y ob_width fob_width), (ce_l240 y ob_numbers f_579), (ce_l60 y ob_moving f_580)])) (kq G (va_A [(ce_X10 ob ob_thrown ob_world ob_images ob_hasImage ob_tape ob_taped ob_five ob_size ob_at ob_from ob_token ob_value ob_faultKind ob_faultPlace ob_fresh ob_parts ob_houses ob_houseMany ob_worthOf ob_byCall ob_over ob_bestSet ob_bestOver ob_bestWorth ob_row ob_tenDebts ob_tenMany ob_fewestBy ob_covered ob_queue ob_cameBy ob_parent ob_met ob_calls ob_callMany ob_calledOn ob_saved ob_many ob_width ob_numbers ob_moving), (ce_i4 y ob_many fob_many), (ce_i4 y ob_width fob_width), (ce_l240 y ob_numbers fob_numbers), (ce_l60 y ob_moving fob_moving)] sz)) (va_A [(ce_X10 ob ob_thrown ob_world ob_images ob_hasImage ob_tape ob_taped ob_five ob_size ob_at ob_from ob_token ob_value ob_faultKind ob_faultPlace ob_fresh ob_parts ob_houses ob_houseMany ob_worthOf ob_byCall ob_over ob_bestSet ob_bestOver ob_bestWorth ob_row ob_tenDebts ob_tenMany ob_fewestBy ob_covered ob_queue ob_cameBy ob_parent ob_met ob_calls ob_callMany ob_calledOn ob_saved ob_many ob_width ob_numbers ob_moving), (ce_i4 y ob_many fob_many), (ce_i4 y ob_width fob_width), (ce_l240 y ob_numbers fob_numbers), (ce_l60 y ob_moving fob_moving)] sz)) 0 0 (va_A [(ce_X10 ob ob_thrown ob_world ob_images ob_hasImage ob_tape ob_taped ob_five ob_size ob_at ob_from ob_token ob_value ob_faultKind ob_faultPlace ob_fresh ob_parts ob_houses ob_houseMany ob_worthOf ob_byCall ob_over ob_bestSet ob_bestOver ob_bestWorth ob_row ob_tenDebts ob_tenMany ob_fewestBy ob_covered ob_queue ob_cameBy ob_parent ob_met ob_calls ob_callMany ob_calledOn ob_saved ob_many ob_width ob_numbers ob_moving), (ce_i4 y ob_many fob_many), (ce_i4 y ob_width fob_width), (ce_l240 y ob_numbers fob_numbers), (ce_l60 y ob_moving fob_moving)] sz) := by
  refine Met.ofW (cc := cX10_paste) (maxL := 7) (ret := (some .int)) (by decide) rfl ?_
  intro p e s m args below meth c s₁ B hml hv
  obtain ⟨rfl, hsz, hP, hK, hD0⟩ := hv
  have hx := B.exec
  have hb := B.bytes
  have hr := B.returns
  have hw0 : ∀ w ∈ wAll, w.before _ s = true := fun w h => atoms_spec (ws := Cond.code yX10_paste cX10_paste 7 (some .int) :: wAll) B.pre w (List.mem_cons_of_mem _ h)
  have hown : s.vm.findClass RX10 = some m.cls := findClass_of_methodNamed B.named
  subst hsz
  have hD := hD0.self (sz := s.heap.size)
  generalize hAe : va_A [(ce_X10 ob ob_thrown ob_world ob_images ob_hasImage ob_tape ob_taped ob_five ob_size ob_at ob_from ob_token ob_value ob_faultKind ob_faultPlace ob_fresh ob_parts ob_houses ob_houseMany ob_worthOf ob_byCall ob_over ob_bestSet ob_bestOver ob_bestWorth ob_row ob_tenDebts ob_tenMany ob_fewestBy ob_covered ob_queue ob_cameBy ob_parent ob_met ob_calls ob_callMany ob_calledOn ob_saved ob_many ob_width ob_numbers ob_moving), (ce_i4 y ob_many fob_many), (ce_i4 y ob_width fob_width), (ce_l240 y ob_numbers fob_numbers), (ce_l60 y ob_moving fob_moving)] s.heap.size = A at hD ⊢
  have hA : ∀ q : Nat, s.heap.size ≤ q → A q := fun q h => by rw [← hAe]; exact Or.inr h
  have hS : va_S A s.heap s.heap [] := va_S.rf
  have hP : va_P G vwCl [(ce_X10 ob ob_thrown ob_world ob_images ob_hasImage ob_tape ob_taped ob_five ob_size ob_at ob_from ob_token ob_value ob_faultKind ob_faultPlace ob_fresh ob_parts ob_houses ob_houseMany ob_worthOf ob_byCall ob_over ob_bestSet ob_bestOver ob_bestWorth ob_row ob_tenDebts ob_tenMany ob_fewestBy ob_covered ob_queue ob_cameBy ob_parent ob_met ob_calls ob_callMany ob_calledOn ob_saved ob_many ob_width ob_numbers ob_moving), (ce_i4 y ob_many fob_many), (ce_i4 y ob_width fob_width), (ce_l240 y ob_numbers fob_numbers), (ce_l60 y ob_moving fob_moving)] s.heap := hP
  have hl := lv_entry ([.ref ob, .int 3, .int a2, .int 2, .int a4, .int a5]) (n := 7) (Nat.le_of_ble_eq_true rfl)
  rw [lg_entry_eq]
  generalize (lg_sl ([.ref ob, .int 3, .int a2, .int 2, .int a4, .int a5]) ++ List.replicate (7 - (lg_sl ([.ref ob, .int 3, .int a2, .int 2, .int a4, .int a5])).length) Slot.unset).toArray = ls at hl ⊢
  have hl : lv_has ls 7 [(0, .ref ob), (1, .int 3), (2, .int a2), (3, .int 2), (4, .int a4), (5, .int a5)] := hl
  refine lv_iload_n hx hb dX10_paste_0 rfl (lv_at hl 1 rfl) ?_
  refine cSim (As := [.int 3]) (rest := []) ⟨hx, hb, hml, hown, hw0⟩ hA hK hP hD hS [] (fisSlotM l G y _ 3 ) rfl ⟨(callB_of 1 hw0 (gA m_543) rfl rfl rfl (hw0 _ m_41) (hw0 _ m_433) cb_X10_isSlot ⟨Nat.le_of_ble_eq_true rfl, Nat.le_of_ble_eq_true rfl⟩), (hw0 _ m_434)⟩ rfl hl.1 (Nat.le_of_ble_eq_true rfl) dX10_paste_1 ⟨Nat.le_of_ble_eq_true rfl, Nat.le_of_ble_eq_true rfl⟩ (fun r_1001 w_1001 H locs hw_1001 hP hD hS => ?_)
  rcases hw_1001 with ⟨h_1002, rfl, rfl⟩ | ⟨h_1003, h_1004, rfl, rfl⟩
  · skip
    exact False.elim (by have h9 : Int32.toInt 3 = 3 := (by decide); omega)
  · skip
    obtain ⟨hP, hD⟩ : vPD G A H [(ce_X10 ob ob_thrown ob_world ob_images ob_hasImage ob_tape ob_taped ob_five ob_size ob_at ob_from ob_token ob_value ob_faultKind ob_faultPlace ob_fresh ob_parts ob_houses ob_houseMany ob_worthOf ob_byCall ob_over ob_bestSet ob_bestOver ob_bestWorth ob_row ob_tenDebts ob_tenMany ob_fewestBy ob_covered ob_queue ob_cameBy ob_parent ob_met ob_calls ob_callMany ob_calledOn ob_saved ob_many ob_width ob_numbers ob_moving), (ce_i4 y ob_many fob_many), (ce_i4 y ob_width fob_width), (ce_l240 y ob_numbers fob_numbers), (ce_l60 y ob_moving fob_moving)] := ⟨hP, hD⟩
    refine lv_if_eq (tgt := 14) hx hb dX10_paste_4 (by decide) (fun c9 => absurd c9 (by decide)) (fun _ => ?_)
    refine lv_iload_n hx hb dX10_paste_7 rfl (lv_at hl 3 rfl) ?_
    refine cSim (As := [.int 2]) (rest := []) ⟨hx, hb, hml, hown, hw0⟩ hA hK hP hD hS [] (fisSlotM l G y _ 2 ) rfl ⟨(callB_of 1 hw0 (gA m_543) rfl rfl rfl (hw0 _ m_41) (hw0 _ m_433) cb_X10_isSlot ⟨Nat.le_of_ble_eq_true rfl, Nat.le_of_ble_eq_true rfl⟩), (hw0 _ m_434)⟩ rfl hl.1 (Nat.le_of_ble_eq_true rfl) dX10_paste_8 ⟨Nat.le_of_ble_eq_true rfl, Nat.le_of_ble_eq_true rfl⟩ (fun r_1005 w_1005 H locs hw_1005 hP hD hS => ?_)
    rcases hw_1005 with ⟨h_1006, rfl, rfl⟩ | ⟨h_1007, h_1008, rfl, rfl⟩
    · skip
      exact False.elim (by have h9 : Int32.toInt 2 = 2 := (by decide); omega)
    · skip
      obtain ⟨hP, hD⟩ : vPD G A H [(ce_X10 ob ob_thrown ob_world ob_images ob_hasImage ob_tape ob_taped ob_five ob_size ob_at ob_from ob_token ob_value ob_faultKind ob_faultPlace ob_fresh ob_parts ob_houses ob_houseMany ob_worthOf ob_byCall ob_over ob_bestSet ob_bestOver ob_bestWorth ob_row ob_tenDebts ob_tenMany ob_fewestBy ob_covered ob_queue ob_cameBy ob_parent ob_met ob_calls ob_callMany ob_calledOn ob_saved ob_many ob_width ob_numbers ob_moving), (ce_i4 y ob_many fob_many), (ce_i4 y ob_width fob_width), (ce_l240 y ob_numbers fob_numbers), (ce_l60 y ob_moving fob_moving)] := ⟨hP, hD⟩
      refine lv_if_ne (tgt := 17) hx hb dX10_paste_11 (by decide) (fun _ => ?_) (fun c9 => absurd c9 (by decide))
      refine lv_aload_n hx hb dX10_paste_17 rfl (lv_at hl 0 rfl) ?_
      refine va_get (D := G) (ci := 10) (v := .ref ob_many) (C := RX10) (T := TX10) (N := 41) hx hb hw0 inA_wsX100 hown hK.1 hP 0 rfl rfl 37 (by decide) (hw0 _ m_406) (fun _ h9 => h9) rfl dX10_paste_18 ?_
      refine lv_iload_n hx hb dX10_paste_21 rfl (lv_at hl 1 rfl) ?_
      refine va_iald hx hb hK.1 hP 1 1 rfl rfl (vi (bkc (x := 3) (c := 3) (by decide)) (by decide)) dX10_paste_22 ?_
      refine lv_topi (fun v_1009 ev_1009 => ?_)
      have bv_1009 : (-1 : Int) ≤ v_1009.toInt ∧ v_1009.toInt ≤ 60 := rd_b ev_1009 p_fob_many
      have yv_1009 : v_1009.toInt = (fob_many 3).toInt := congrArg Int32.toInt ev_1009
      refine lv_iconst (v := (-1)) hx hb dX10_paste_23 (by decide) ?_
      refine lv_icmp_eq (tgt := 37) hx hb dX10_paste_24 (by decide) (fun c_1010 => ?_) (fun c_1010 => ?_)
      · skip
        have nc_1010 := nb_eq (-1) (-1) c_1010 bv_1009 (bkc (x := (-1)) (c := -1) (by decide)) (by decide)
        refine lv_bipush (v := (-6)) hx hb dX10_paste_37 (by decide) ?_
        exact W.iret (v := (-6)) hx hb hr (fun t ht hW => ⟨⟨(-6), _, rfl, Or.inl (⟨by have h90 : Int32.toInt (-6) = -6 := (by decide); have h91 : Int32.toInt 2 = 2 := (by decide); have h92 : Int32.toInt 3 = 3 := (by decide); omega, rfl, rfl⟩), by rw [ht]; exact hP, hD⟩, hS.F ht⟩) hS.2.2 dX10_paste_39
      · skip
        have nc_1010 := nb_ne (0) (60) c_1010 bv_1009 (k := -1) (by decide) (by decide)
        refine lv_aload_n hx hb dX10_paste_27 rfl (lv_at hl 0 rfl) ?_
        refine va_get (D := G) (ci := 10) (v := .ref ob_many) (C := RX10) (T := TX10) (N := 41) hx hb hw0 inA_wsX100 hown hK.1 hP 0 rfl rfl 37 (by decide) (hw0 _ m_406) (fun _ h9 => h9) rfl dX10_paste_28 ?_
        refine lv_iload_n hx hb dX10_paste_31 rfl (lv_at hl 3 rfl) ?_
        refine va_iald hx hb hK.1 hP 1 1 rfl rfl (vi (bkc (x := 2) (c := 2) (by decide)) (by decide)) dX10_paste_32 ?_
        refine lv_topi (fun v_1011 ev_1011 => ?_)
        have bv_1011 : (-1 : Int) ≤ v_1011.toInt ∧ v_1011.toInt ≤ 60 := rd_b ev_1011 p_fob_many
        have yv_1011 : v_1011.toInt = (fob_many 2).toInt := congrArg Int32.toInt ev_1011
        refine lv_iconst (v := (-1)) hx hb dX10_paste_33 (by decide) ?_
        refine lv_icmp_ne (tgt := 40) hx hb dX10_paste_34 (by decide) (fun c_1012 => ?_) (fun c_1012 => ?_)
        · skip
          have nc_1012 := nb_ne (0) (60) c_1012 bv_1011 (k := -1) (by decide) (by decide)
          refine lv_aload_n hx hb dX10_paste_40 rfl (lv_at hl 0 rfl) ?_
          refine va_get (D := G) (ci := 10) (v := .ref ob_width) (C := RX10) (T := TX10) (N := 41) hx hb hw0 inA_wsX100 hown hK.1 hP 0 rfl rfl 38 (by decide) (hw0 _ m_527) (fun _ h9 => h9) rfl dX10_paste_41 ?_
          refine lv_iload_n hx hb dX10_paste_44 rfl (lv_at hl 1 rfl) ?_
          refine va_iald hx hb hK.1 hP 2 1 rfl rfl (vi (bkc (x := 3) (c := 3) (by decide)) (by decide)) dX10_paste_45 ?_
          refine lv_topi (fun v_1013 ev_1013 => ?_)
          have bv_1013 : (0 : Int) ≤ v_1013.toInt ∧ v_1013.toInt ≤ 3 := rd_b ev_1013 p_fob_width
          have yv_1013 : v_1013.toInt = (fob_width 3).toInt := congrArg Int32.toInt ev_1013
          refine lv_aload_n hx hb dX10_paste_46 rfl (lv_at hl 0 rfl) ?_
          refine va_get (D := G) (ci := 10) (v := .ref ob_width) (C := RX10) (T := TX10) (N := 41) hx hb hw0 inA_wsX100 hown hK.1 hP 0 rfl rfl 38 (by decide) (hw0 _ m_527) (fun _ h9 => h9) rfl dX10_paste_47 ?_
          refine lv_iload_n hx hb dX10_paste_50 rfl (lv_at hl 3 rfl) ?_
          refine va_iald hx hb hK.1 hP 2 1 rfl rfl (vi (bkc (x := 2) (c := 2) (by decide)) (by decide)) dX10_paste_51 ?_
          refine lv_topi (fun v_1014 ev_1014 => ?_)
          have bv_1014 : (0 : Int) ≤ v_1014.toInt ∧ v_1014.toInt ≤ 3 := rd_b ev_1014 p_fob_width
          have yv_1014 : v_1014.toInt = (fob_width 2).toInt := congrArg Int32.toInt ev_1014
          refine lv_icmp_eq (tgt := 58) hx hb dX10_paste_52 (by decide) (fun c_1015 => ?_) (fun c_1015 => ?_)
          · skip
            have nc_1015 := nb_eq (0) (3) c_1015 bv_1013 bv_1014 (by decide)
            refine lv_iload_n hx hb dX10_paste_58 rfl (lv_at hl 2 rfl) ?_
            refine lv_if_lt (tgt := 107) hx hb dX10_paste_59 (by decide) (fun c_1016 => ?_) (fun c_1016 => ?_)
            · skip
              have nc_1016 := nb_lt (-1) (0) c_1016 (btop a2) (bkc (x := 0) (c := 0) (by decide)) (by decide)
              refine lv_bipush (v := (-7)) hx hb dX10_paste_107 (by decide) ?_
              exact W.iret (v := (-7)) hx hb hr (fun t ht hW => ⟨⟨(-7), _, rfl, Or.inr (Or.inl (⟨by have h90 : Int32.toInt (-7) = -7 := (by decide); have h91 : Int32.toInt 2 = 2 := (by decide); have h92 : Int32.toInt 3 = 3 := (by decide); omega, rfl, rfl⟩)), by rw [ht]; exact hP, hD⟩, hS.F ht⟩) hS.2.2 dX10_paste_109
            · skip
              have nc_1016 := nb_nlt (0) (0) c_1016 (bkc (x := 0) (c := 0) (by decide)) (btop a2) (by decide)
              refine lv_iload hx hb dX10_paste_62 (lv_at hl 4 rfl) ?_
              refine lv_if_lt (tgt := 107) hx hb dX10_paste_64 (by decide) (fun c_1017 => ?_) (fun c_1017 => ?_)
              · skip
                have nc_1017 := nb_lt (-1) (0) c_1017 (btop a4) (bkc (x := 0) (c := 0) (by decide)) (by decide)
                refine lv_bipush (v := (-7)) hx hb dX10_paste_107 (by decide) ?_
                exact W.iret (v := (-7)) hx hb hr (fun t ht hW => ⟨⟨(-7), _, rfl, Or.inr (Or.inl (⟨by have h90 : Int32.toInt (-7) = -7 := (by decide); have h91 : Int32.toInt 2 = 2 := (by decide); have h92 : Int32.toInt 3 = 3 := (by decide); omega, rfl, rfl⟩)), by rw [ht]; exact hP, hD⟩, hS.F ht⟩) hS.2.2 dX10_paste_109
              · skip
                have nc_1017 := nb_nlt (0) (0) c_1017 (bkc (x := 0) (c := 0) (by decide)) (btop a4) (by decide)
                refine lv_iload hx hb dX10_paste_67 (lv_at hl 5 rfl) ?_
                refine lv_if_lt (tgt := 107) hx hb dX10_paste_69 (by decide) (fun c_1018 => ?_) (fun c_1018 => ?_)
                · skip
                  have nc_1018 := nb_lt (-1) (0) c_1018 (btop a5) (bkc (x := 0) (c := 0) (by decide)) (by decide)
                  refine lv_bipush (v := (-7)) hx hb dX10_paste_107 (by decide) ?_
                  exact W.iret (v := (-7)) hx hb hr (fun t ht hW => ⟨⟨(-7), _, rfl, Or.inr (Or.inl (⟨by have h90 : Int32.toInt (-7) = -7 := (by decide); have h91 : Int32.toInt 2 = 2 := (by decide); have h92 : Int32.toInt 3 = 3 := (by decide); omega, rfl, rfl⟩)), by rw [ht]; exact hP, hD⟩, hS.F ht⟩) hS.2.2 dX10_paste_109
                · skip
                  have nc_1018 := nb_nlt (0) (0) c_1018 (bkc (x := 0) (c := 0) (by decide)) (btop a5) (by decide)
                  refine lv_iload_n hx hb dX10_paste_72 rfl (lv_at hl 2 rfl) ?_
                  refine lv_i2l hx hb dX10_paste_73 rfl ?_
                  have kk_1019 : ((a2).toInt64).toInt = (a2).toInt := Int32.toInt_toInt64 _
                  refine lv_iload hx hb dX10_paste_74 (lv_at hl 5 rfl) ?_
                  refine lv_i2l hx hb dX10_paste_76 rfl ?_
                  have kk_1020 : ((a5).toInt64).toInt = (a5).toInt := Int32.toInt_toInt64 _
                  refine lv_ladd hx hb dX10_paste_77 ?_
                  refine lv_topl (fun v_1021 ev_1021 => ?_)
                  have qv_1021 := la_add ev_1021
                  refine lv_aload_n hx hb dX10_paste_78 rfl (lv_at hl 0 rfl) ?_
                  refine va_get (D := G) (ci := 10) (v := .ref ob_many) (C := RX10) (T := TX10) (N := 41) hx hb hw0 inA_wsX100 hown hK.1 hP 0 rfl rfl 37 (by decide) (hw0 _ m_406) (fun _ h9 => h9) rfl dX10_paste_79 ?_
                  refine lv_iload_n hx hb dX10_paste_82 rfl (lv_at hl 1 rfl) ?_
                  refine va_iald hx hb hK.1 hP 1 1 rfl rfl (vi (bkc (x := 3) (c := 3) (by decide)) (by decide)) dX10_paste_83 ?_
                  refine lv_topi (fun v_1022 ev_1022 => ?_)
                  obtain rfl : v_1009 = v_1022 := (ev_1022.trans (ev_1009.symm)).symm
                  refine lv_i2l hx hb dX10_paste_84 rfl ?_
                  have kk_1023 : ((v_1009).toInt64).toInt = (v_1009).toInt := Int32.toInt_toInt64 _
                  refine W.lcmp hx hb dX10_paste_85 ?_
                  refine lv_if_gt (tgt := 107) hx hb dX10_paste_86 (by decide) (fun c_1024 => ?_) (fun c_1024 => ?_)
                  · skip
                    have nc_1024 := jl_gt c_1024
                    refine lv_bipush (v := (-7)) hx hb dX10_paste_107 (by decide) ?_
                    exact W.iret (v := (-7)) hx hb hr (fun t ht hW => ⟨⟨(-7), _, rfl, Or.inr (Or.inl (⟨by have h90 : Int32.toInt (-7) = -7 := (by decide); have h91 : Int32.toInt 2 = 2 := (by decide); have h92 : Int32.toInt 3 = 3 := (by decide); omega, rfl, rfl⟩)), by rw [ht]; exact hP, hD⟩, hS.F ht⟩) hS.2.2 dX10_paste_109
                  · skip
                    have nc_1024 := jl_ngt c_1024
                    refine lv_iload hx hb dX10_paste_89 (lv_at hl 4 rfl) ?_
                    refine lv_i2l hx hb dX10_paste_91 rfl ?_
                    have kk_1025 : ((a4).toInt64).toInt = (a4).toInt := Int32.toInt_toInt64 _
                    refine lv_iload hx hb dX10_paste_92 (lv_at hl 5 rfl) ?_
                    refine lv_i2l hx hb dX10_paste_94 rfl ?_
                    have kk_1026 : ((a5).toInt64).toInt = (a5).toInt := Int32.toInt_toInt64 _
                    refine lv_ladd hx hb dX10_paste_95 ?_
                    refine lv_topl (fun v_1027 ev_1027 => ?_)
                    have qv_1027 := la_add ev_1027
                    refine lv_aload_n hx hb dX10_paste_96 rfl (lv_at hl 0 rfl) ?_
                    refine va_get (D := G) (ci := 10) (v := .ref ob_many) (C := RX10) (T := TX10) (N := 41) hx hb hw0 inA_wsX100 hown hK.1 hP 0 rfl rfl 37 (by decide) (hw0 _ m_406) (fun _ h9 => h9) rfl dX10_paste_97 ?_
                    refine lv_iload_n hx hb dX10_paste_100 rfl (lv_at hl 3 rfl) ?_
                    refine va_iald hx hb hK.1 hP 1 1 rfl rfl (vi (bkc (x := 2) (c := 2) (by decide)) (by decide)) dX10_paste_101 ?_
                    refine lv_topi (fun v_1028 ev_1028 => ?_)
                    obtain rfl : v_1011 = v_1028 := (ev_1028.trans (ev_1011.symm)).symm
                    refine lv_i2l hx hb dX10_paste_102 rfl ?_
                    have kk_1029 : ((v_1011).toInt64).toInt = (v_1011).toInt := Int32.toInt_toInt64 _
                    refine W.lcmp hx hb dX10_paste_103 ?_
                    refine lv_if_le (tgt := 110) hx hb dX10_paste_104 (by decide) (fun c_1030 => ?_) (fun c_1030 => ?_)
                    · skip
                      have nc_1030 := jl_le c_1030
                      have h_1031 : (0 : Int) ≤ a2.toInt ∧ a2.toInt ≤ 60 := by omega
                      have h_1032 : (0 : Int) ≤ a4.toInt ∧ a4.toInt ≤ 60 := by omega
                      have h_1033 : (0 : Int) ≤ a5.toInt ∧ a5.toInt ≤ 60 := by omega
                      refine lv_iconst (v := 0) hx hb dX10_paste_110 (by decide) ?_
                      refine lv_istore (lv' := [(6, .int 0), (0, .ref ob), (1, .int 3), (2, .int a2), (3, .int 2), (4, .int a4), (5, .int a5)]) hx hb dX10_paste_111 hl (by decide) rfl (fun ls hl => ?_)
                      refine loopX (fun n H locs ls st => ∃ (v_1151 : Int32) (f_1152 : Nat → Int64), (60 - v_1151.toInt).toNat = n ∧ ((0 : Int) ≤ v_1151.toInt ∧ v_1151.toInt ≤ 60) ∧ st = [] ∧ vPD G A H [(ce_X10 ob ob_thrown ob_world ob_images ob_hasImage ob_tape ob_taped ob_five ob_size ob_at ob_from ob_token ob_value ob_faultKind ob_faultPlace ob_fresh ob_parts ob_houses ob_houseMany ob_worthOf ob_byCall ob_over ob_bestSet ob_bestOver ob_bestWorth ob_row ob_tenDebts ob_tenMany ob_fewestBy ob_covered ob_queue ob_cameBy ob_parent ob_met ob_calls ob_callMany ob_calledOn ob_saved ob_many ob_width ob_numbers ob_moving), (ce_i4 y ob_many fob_many), (ce_i4 y ob_width fob_width), (ce_l240 y ob_numbers fob_numbers), (ce_l60 y ob_moving f_1152)] ∧ va_S A s.heap H locs ∧ lv_has ls 7 [(6, .int v_1151), (0, .ref ob), (1, .int 3), (2, .int a2), (3, .int 2), (4, .int a4), (5, .int a5)]) ?_ (n := (60 - (0 : Int32).toInt).toNat) ⟨0, fob_moving, rfl, (bw (0) (60) (bkc (x := 0) (c := 0) (by decide)) (by decide)), rfl, ⟨hP, hD⟩, hS, lv_sub hl [0, 1, 2, 3, 4, 5, 6] rfl⟩
                      rintro n ih_1160 H locs ls st ⟨v_1151, f_1152, hn_1160, bv_1151, rfl, ⟨hP, hD⟩, hS, hl⟩
                      refine lv_iload hx hb dX10_paste_113 (lv_at hl 0 rfl) ?_
                      refine lv_iload hx hb dX10_paste_115 (lv_at hl 6 rfl) ?_
                      refine lv_icmp_ge (tgt := 147) hx hb dX10_paste_117 (by decide) (fun c_1161 => ?_) (fun c_1161 => ?_)
                      · skip
                        have nc_1161 := nb_le (60) (0) c_1161 h_1033 bv_1151 (by decide)
                        refine lv_iconst (v := 0) hx hb dX10_paste_147 (by decide) ?_
                        refine lv_istore (lv' := [(6, .int 0), (0, .ref ob), (1, .int 3), (2, .int a2), (3, .int 2), (4, .int a4), (5, .int a5)]) hx hb dX10_paste_148 hl (by decide) rfl (fun ls hl => ?_)
                        refine loopX (fun n H locs ls st => ∃ (v_1267 : Int32) (f_1268 : Nat → Int64), (60 - v_1267.toInt).toNat = n ∧ ((0 : Int) ≤ v_1267.toInt ∧ v_1267.toInt ≤ 60) ∧ st = [] ∧ vPD G A H [(ce_X10 ob ob_thrown ob_world ob_images ob_hasImage ob_tape ob_taped ob_five ob_size ob_at ob_from ob_token ob_value ob_faultKind ob_faultPlace ob_fresh ob_parts ob_houses ob_houseMany ob_worthOf ob_byCall ob_over ob_bestSet ob_bestOver ob_bestWorth ob_row ob_tenDebts ob_tenMany ob_fewestBy ob_covered ob_queue ob_cameBy ob_parent ob_met ob_calls ob_callMany ob_calledOn ob_saved ob_many ob_width ob_numbers ob_moving), (ce_i4 y ob_many fob_many), (ce_i4 y ob_width fob_width), (ce_l240 y ob_numbers f_1268), (ce_l60 y ob_moving f_1152)] ∧ va_S A s.heap H locs ∧ lv_has ls 7 [(6, .int v_1267), (0, .ref ob), (3, .int 2), (4, .int a4), (5, .int a5)]) ?_ (n := (60 - (0 : Int32).toInt).toNat) ⟨0, fob_numbers, rfl, (bw (0) (60) (bkc (x := 0) (c := 0) (by decide)) (by decide)), rfl, ⟨hP, hD⟩, hS, lv_sub hl [0, 1, 4, 5, 6] rfl⟩
                        rintro n ih_1275 H locs ls st ⟨v_1267, f_1268, hn_1275, bv_1267, rfl, ⟨hP, hD⟩, hS, hl⟩
                        refine lv_iload hx hb dX10_paste_150 (lv_at hl 0 rfl) ?_
                        refine lv_iload hx hb dX10_paste_152 (lv_at hl 4 rfl) ?_
                        refine lv_icmp_ge (tgt := 185) hx hb dX10_paste_154 (by decide) (fun c_1276 => ?_) (fun c_1276 => ?_)
                        · skip
                          have nc_1276 := nb_le (60) (0) c_1276 nc_1161.1 bv_1267 (by decide)
                          refine lv_iconst (v := 0) hx hb dX10_paste_185 (by decide) ?_
                          exact W.iret (v := 0) hx hb hr (fun t ht hW => ⟨⟨0, _, rfl, Or.inr (Or.inr (Or.inr (⟨f_1268, f_1152, h_1031, h_1032, nc_1276.1, by have h90 : Int32.toInt 0 = 0 := (by decide); have h91 : Int32.toInt 2 = 2 := (by decide); omega, rfl, rfl⟩))), by rw [ht]; exact hP, hD⟩, hS.F ht⟩) hS.2.2 dX10_paste_186
                        · skip
                          have nc_1276 := nb_nle (59) (1) c_1276 bv_1267 nc_1161.1 (by decide)
                          refine lv_aload_n hx hb dX10_paste_157 rfl (lv_at hl 1 rfl) ?_
                          refine va_get (D := G) (ci := 10) (v := .ref ob_numbers) (C := RX10) (T := TX10) (N := 41) hx hb hw0 inA_wsX100 hown hK.1 hP 0 rfl rfl 39 (by decide) (hw0 _ m_435) (fun _ h9 => h9) rfl dX10_paste_158 ?_
                          refine lv_bipush (v := 60) hx hb dX10_paste_161 (by decide) ?_
                          refine lv_iload_n hx hb dX10_paste_163 rfl (lv_at hl 2 rfl) ?_
                          refine lv_imul hx hb dX10_paste_164 ?_
                          refine lv_topi (fun v_1277 ev_1277 => ?_)
                          obtain rfl : 120 = v_1277 := (ev_1277.trans (by decide)).symm
                          refine lv_iload hx hb dX10_paste_165 (lv_at hl 3 rfl) ?_
                          refine lv_iadd hx hb dX10_paste_167 ?_
                          refine lv_topi (fun v_1278 ev_1278 => ?_)
                          have qv_1278 := ba_add ev_1278 (bkc (x := 120) (c := 120) (by decide)) h_1032 (by decide)
                          have bv_1278 : (120 : Int) ≤ v_1278.toInt ∧ v_1278.toInt ≤ 180 := bq_add qv_1278 (bkc (x := 120) (c := 120) (by decide)) h_1032 _ _ (by decide)
                          have qv_1278 : v_1278.toInt = (120) + a4.toInt := qv_1278
                          refine lv_iload hx hb dX10_paste_168 (lv_at hl 0 rfl) ?_
                          refine lv_iadd hx hb dX10_paste_170 ?_
                          refine lv_topi (fun v_1279 ev_1279 => ?_)
                          have qv_1279 := ba_add ev_1279 bv_1278 nc_1276.1 (by decide)
                          have bv_1279 : (120 : Int) ≤ v_1279.toInt ∧ v_1279.toInt ≤ 239 := bq_add qv_1279 bv_1278 nc_1276.1 _ _ (by decide)
                          refine lv_aload_n hx hb dX10_paste_171 rfl (lv_at hl 1 rfl) ?_
                          refine va_get (D := G) (ci := 10) (v := .ref ob_moving) (C := RX10) (T := TX10) (N := 41) hx hb hw0 inA_wsX100 hown hK.1 hP 0 rfl rfl 40 (by decide) (hw0 _ m_529) (fun _ h9 => h9) rfl dX10_paste_172 ?_
                          refine lv_iload hx hb dX10_paste_175 (lv_at hl 0 rfl) ?_
                          refine va_lald hx hb hK.1 hP 4 2 rfl rfl (vi nc_1276.1 (by decide)) dX10_paste_177 ?_
                          refine lv_topl (fun v_1280 ev_1280 => ?_)
                          refine va_last hx hb hK.1 hP hD hS 3 2 rfl rfl (vi bv_1279 (by decide)) dX10_paste_178 (fun H locs hP hD hS => ?_)
                          generalize hf_1281 : (vp_updL f_1268 (v_1279 : Int32).toNatClampNeg v_1280) = f_1281 at hP hD
                          obtain ⟨hP, hD⟩ : vPD G A H [(ce_X10 ob ob_thrown ob_world ob_images ob_hasImage ob_tape ob_taped ob_five ob_size ob_at ob_from ob_token ob_value ob_faultKind ob_faultPlace ob_fresh ob_parts ob_houses ob_houseMany ob_worthOf ob_byCall ob_over ob_bestSet ob_bestOver ob_bestWorth ob_row ob_tenDebts ob_tenMany ob_fewestBy ob_covered ob_queue ob_cameBy ob_parent ob_met ob_calls ob_callMany ob_calledOn ob_saved ob_many ob_width ob_numbers ob_moving), (ce_i4 y ob_many fob_many), (ce_i4 y ob_width fob_width), (ce_l240 y ob_numbers f_1281), (ce_l60 y ob_moving f_1152)] := ⟨hP, hD⟩
                          obtain ⟨v_1282, ev_1282⟩ : ∃ z : Int32, z = v_1267 + 1 := ⟨_, rfl⟩
                          have qv_1282 := ba_add ev_1282 nc_1276.1 (bkc (x := 1) (c := 1) (by decide)) (by decide)
                          have bv_1282 : (1 : Int) ≤ v_1282.toInt ∧ v_1282.toInt ≤ 60 := bq_add qv_1282 nc_1276.1 (bkc (x := 1) (c := 1) (by decide)) _ _ (by decide)
                          have qv_1282 : v_1282.toInt = v_1267.toInt + (1) := qv_1282
                          refine lv_iinc (v := v_1282) (lv' := [(6, .int v_1282), (0, .ref ob), (3, .int 2), (4, .int a4), (5, .int a5)]) hx hb dX10_paste_179 hl (k := 0) rfl (ev_1282.symm) (by decide) rfl (fun ls hl => ?_)
                          refine lv_goto (tgt := 150) hx hb dX10_paste_182 (by decide) ?_
                          exact ih_1275 _ (ml_inc (hi := 60) hn_1275 qv_1282 (by decide) ((bw (0) (60) bv_1282 (by decide))).2) _ _ _ _ ⟨v_1282, f_1281, rfl, (bw (0) (60) bv_1282 (by decide)), rfl, ⟨hP, hD⟩, hS, lv_sub hl [0, 1, 2, 3, 4] rfl⟩
                      · skip
                        have nc_1161 := nb_nle (59) (1) c_1161 bv_1151 h_1033 (by decide)
                        refine lv_aload_n hx hb dX10_paste_120 rfl (lv_at hl 1 rfl) ?_
                        refine va_get (D := G) (ci := 10) (v := .ref ob_moving) (C := RX10) (T := TX10) (N := 41) hx hb hw0 inA_wsX100 hown hK.1 hP 0 rfl rfl 40 (by decide) (hw0 _ m_529) (fun _ h9 => h9) rfl dX10_paste_121 ?_
                        refine lv_iload hx hb dX10_paste_124 (lv_at hl 0 rfl) ?_
                        refine lv_aload_n hx hb dX10_paste_126 rfl (lv_at hl 1 rfl) ?_
                        refine va_get (D := G) (ci := 10) (v := .ref ob_numbers) (C := RX10) (T := TX10) (N := 41) hx hb hw0 inA_wsX100 hown hK.1 hP 0 rfl rfl 39 (by decide) (hw0 _ m_435) (fun _ h9 => h9) rfl dX10_paste_127 ?_
                        refine lv_bipush (v := 60) hx hb dX10_paste_130 (by decide) ?_
                        refine lv_iload_n hx hb dX10_paste_132 rfl (lv_at hl 2 rfl) ?_
                        refine lv_imul hx hb dX10_paste_133 ?_
                        refine lv_topi (fun v_1283 ev_1283 => ?_)
                        obtain rfl : 180 = v_1283 := (ev_1283.trans (by decide)).symm
                        refine lv_iload_n hx hb dX10_paste_134 rfl (lv_at hl 3 rfl) ?_
                        refine lv_iadd hx hb dX10_paste_135 ?_
                        refine lv_topi (fun v_1284 ev_1284 => ?_)
                        have qv_1284 := ba_add ev_1284 (bkc (x := 180) (c := 180) (by decide)) h_1031 (by decide)
                        have bv_1284 : (180 : Int) ≤ v_1284.toInt ∧ v_1284.toInt ≤ 240 := bq_add qv_1284 (bkc (x := 180) (c := 180) (by decide)) h_1031 _ _ (by decide)
                        have qv_1284 : v_1284.toInt = (180) + a2.toInt := qv_1284
                        refine lv_iload hx hb dX10_paste_136 (lv_at hl 0 rfl) ?_
                        refine lv_iadd hx hb dX10_paste_138 ?_
                        refine lv_topi (fun v_1285 ev_1285 => ?_)
                        have qv_1285 := ba_add ev_1285 bv_1284 nc_1161.1 (by decide)
                        have bv_1285 : (180 : Int) ≤ v_1285.toInt ∧ v_1285.toInt ≤ 299 := bq_add qv_1285 bv_1284 nc_1161.1 _ _ (by decide)
                        have h_1286 : (0 : Int) ≤ v_1285.toInt ∧ v_1285.toInt ≤ 239 := by omega
                        refine va_lald hx hb hK.1 hP 3 2 rfl rfl (vi h_1286 (by decide)) dX10_paste_139 ?_
                        refine lv_topl (fun v_1287 ev_1287 => ?_)
                        refine va_last hx hb hK.1 hP hD hS 4 2 rfl rfl (vi nc_1161.1 (by decide)) dX10_paste_140 (fun H locs hP hD hS => ?_)
                        generalize hf_1288 : (vp_updL f_1152 (v_1151 : Int32).toNatClampNeg v_1287) = f_1288 at hP hD
                        obtain ⟨hP, hD⟩ : vPD G A H [(ce_X10 ob ob_thrown ob_world ob_images ob_hasImage ob_tape ob_taped ob_five ob_size ob_at ob_from ob_token ob_value ob_faultKind ob_faultPlace ob_fresh ob_parts ob_houses ob_houseMany ob_worthOf ob_byCall ob_over ob_bestSet ob_bestOver ob_bestWorth ob_row ob_tenDebts ob_tenMany ob_fewestBy ob_covered ob_queue ob_cameBy ob_parent ob_met ob_calls ob_callMany ob_calledOn ob_saved ob_many ob_width ob_numbers ob_moving), (ce_i4 y ob_many fob_many), (ce_i4 y ob_width fob_width), (ce_l240 y ob_numbers fob_numbers), (ce_l60 y ob_moving f_1288)] := ⟨hP, hD⟩
                        obtain ⟨v_1289, ev_1289⟩ : ∃ z : Int32, z = v_1151 + 1 := ⟨_, rfl⟩
                        have qv_1289 := ba_add ev_1289 nc_1161.1 (bkc (x := 1) (c := 1) (by decide)) (by decide)
                        have bv_1289 : (1 : Int) ≤ v_1289.toInt ∧ v_1289.toInt ≤ 60 := bq_add qv_1289 nc_1161.1 (bkc (x := 1) (c := 1) (by decide)) _ _ (by decide)
                        have qv_1289 : v_1289.toInt = v_1151.toInt + (1) := qv_1289
                        refine lv_iinc (v := v_1289) (lv' := [(6, .int v_1289), (0, .ref ob), (1, .int 3), (2, .int a2), (3, .int 2), (4, .int a4), (5, .int a5)]) hx hb dX10_paste_141 hl (k := 0) rfl (ev_1289.symm) (by decide) rfl (fun ls hl => ?_)
                        refine lv_goto (tgt := 113) hx hb dX10_paste_144 (by decide) ?_
                        exact ih_1160 _ (ml_inc (hi := 60) hn_1160 qv_1289 (by decide) ((bw (0) (60) bv_1289 (by decide))).2) _ _ _ _ ⟨v_1289, f_1288, rfl, (bw (0) (60) bv_1289 (by decide)), rfl, ⟨hP, hD⟩, hS, lv_sub hl [0, 1, 2, 3, 4, 5, 6] rfl⟩
                    · skip
                      have nc_1030 := jl_nle c_1030
                      refine lv_bipush (v := (-7)) hx hb dX10_paste_107 (by decide) ?_
                      exact W.iret (v := (-7)) hx hb hr (fun t ht hW => ⟨⟨(-7), _, rfl, Or.inr (Or.inl (⟨by have h90 : Int32.toInt (-7) = -7 := (by decide); have h91 : Int32.toInt 2 = 2 := (by decide); have h92 : Int32.toInt 3 = 3 := (by decide); omega, rfl, rfl⟩)), by rw [ht]; exact hP, hD⟩, hS.F ht⟩) hS.2.2 dX10_paste_109
          · skip
            have nc_1015 : v_1013.toInt ≠ v_1014.toInt := fun h9 => c_1015 (Int32.toInt_inj.mp h9)
            refine lv_bipush (v := (-8)) hx hb dX10_paste_55 (by decide) ?_
            exact W.iret (v := (-8)) hx hb hr (fun t ht hW => ⟨⟨(-8), _, rfl, Or.inr (Or.inr (Or.inl (⟨by have h90 : Int32.toInt (-8) = -8 := (by decide); have h91 : Int32.toInt 2 = 2 := (by decide); have h92 : Int32.toInt 3 = 3 := (by decide); omega, rfl, rfl⟩))), by rw [ht]; exact hP, hD⟩, hS.F ht⟩) hS.2.2 dX10_paste_57
        · skip
          have nc_1012 := nb_eq (-1) (-1) c_1012 bv_1011 (bkc (x := (-1)) (c := -1) (by decide)) (by decide)
          refine lv_bipush (v := (-6)) hx hb dX10_paste_37 (by decide) ?_
          exact W.iret (v := (-6)) hx hb hr (fun t ht hW => ⟨⟨(-6), _, rfl, Or.inl (⟨by have h90 : Int32.toInt (-6) = -6 := (by decide); have h91 : Int32.toInt 2 = 2 := (by decide); have h92 : Int32.toInt 3 = 3 := (by decide); omega, rfl, rfl⟩), by rw [ht]; exact hP, hD⟩, hS.F ht⟩) hS.2.2 dX10_paste_39

set_option maxHeartbeats 4000000 in
set_option maxRecDepth 100000 in
theorem fpasteM33 (l : Launch) (G : va_G) (y : Nat → ClassId) (sz : Nat) (ob : Nat) (a2 : Int32) (a4 : Int32) (a5 : Int32) (ob_thrown : Int32) (ob_world : Nat) (ob_images : Nat) (ob_hasImage : Nat) (ob_tape : Nat) (ob_taped : Int32) (ob_five : Nat) (ob_size : Int32) (ob_at : Int32) (ob_from : Int32) (ob_token : Int32) (ob_value : Int32) (ob_faultKind : Int32) (ob_faultPlace : Int32) (ob_fresh : Nat) (ob_parts : Nat) (ob_houses : Nat) (ob_houseMany : Int32) (ob_worthOf : Nat) (ob_byCall : Nat) (ob_over : Nat) (ob_bestSet : Int32) (ob_bestOver : Int32) (ob_bestWorth : Int32) (ob_row : Nat) (ob_tenDebts : Nat) (ob_tenMany : Int32) (ob_fewestBy : Nat) (ob_covered : Nat) (ob_queue : Nat) (ob_cameBy : Nat) (ob_parent : Nat) (ob_met : Nat) (ob_calls : Nat) (ob_callMany : Int32) (ob_calledOn : Nat) (ob_saved : Nat) (ob_many : Nat) (ob_width : Nat) (ob_numbers : Nat) (ob_moving : Nat) (fob_many : Nat → Int32) (fob_width : Nat → Int32) (fob_numbers : Nat → Int64) (fob_moving : Nat → Int64) (p_ob_taped : (0 : Int) ≤ ob_taped.toInt ∧ ob_taped.toInt ≤ 1400) (p_ob_size : (0 : Int) ≤ ob_size.toInt ∧ ob_size.toInt ≤ 1400) (p_ob_at : (0 : Int) ≤ ob_at.toInt ∧ ob_at.toInt ≤ 1400) (p_ob_from : (0 : Int) ≤ ob_from.toInt ∧ ob_from.toInt ≤ 1400) (p_ob_token : (0 : Int) ≤ ob_token.toInt ∧ ob_token.toInt ≤ 4) (p_ob_value : (0 : Int) ≤ ob_value.toInt ∧ ob_value.toInt ≤ 9999) (p_ob_faultKind : (0 : Int) ≤ ob_faultKind.toInt ∧ ob_faultKind.toInt ≤ 3) (p_ob_houseMany : (0 : Int) ≤ ob_houseMany.toInt ∧ ob_houseMany.toInt ≤ 10) (p_ob_bestSet : (0 : Int) ≤ ob_bestSet.toInt ∧ ob_bestSet.toInt ≤ 1023) (p_ob_bestOver : (-1 : Int) ≤ ob_bestOver.toInt ∧ ob_bestOver.toInt ≤ 180) (p_ob_tenMany : (0 : Int) ≤ ob_tenMany.toInt ∧ ob_tenMany.toInt ≤ 10) (p_ob_callMany : (0 : Int) ≤ ob_callMany.toInt ∧ ob_callMany.toInt ≤ 16) (p_fob_many : ∀ i, (-1 : Int) ≤ (fob_many i).toInt ∧ (fob_many i).toInt ≤ 60) (p_fob_width : ∀ i, (0 : Int) ≤ (fob_width i).toInt ∧ (fob_width i).toInt ≤ 3) : Met l yX10_paste (Cond.code yX10_paste cX10_paste 7 (some .int) :: wAll) ({ frames := 2, cells := 0, slots := 0, locals := 45 }) (va_Pc [.ref ob, .int 3, .int a2, .int 3, .int a4, .int a5] (kp G y sz [(ce_X10 ob ob_thrown ob_world ob_images ob_hasImage ob_tape ob_taped ob_five ob_size ob_at ob_from ob_token ob_value ob_faultKind ob_faultPlace ob_fresh ob_parts ob_houses ob_houseMany ob_worthOf ob_byCall ob_over ob_bestSet ob_bestOver ob_bestWorth ob_row ob_tenDebts ob_tenMany ob_fewestBy ob_covered ob_queue ob_cameBy ob_parent ob_met ob_calls ob_callMany ob_calledOn ob_saved ob_many ob_width ob_numbers ob_moving), (ce_i4 y ob_many fob_many), (ce_i4 y ob_width fob_width), (ce_l240 y ob_numbers fob_numbers), (ce_l60 y ob_moving fob_moving)])) (va_Qi (fun (r : Int32) (w : va_W) => (((fob_many 3).toInt = -1 ∨ (fob_many 3).toInt = -1) ∧ r = (-6) ∧ w = [(ce_X10 ob ob_thrown ob_world ob_images ob_hasImage ob_tape ob_taped ob_five ob_size ob_at ob_from ob_token ob_value ob_faultKind ob_faultPlace ob_fresh ob_parts ob_houses ob_houseMany ob_worthOf ob_byCall ob_over ob_bestSet ob_bestOver ob_bestWorth ob_row ob_tenDebts ob_tenMany ob_fewestBy ob_covered ob_queue ob_cameBy ob_parent ob_met ob_calls ob_callMany ob_calledOn ob_saved ob_many ob_width ob_numbers ob_moving), (ce_i4 y ob_many fob_many), (ce_i4 y ob_width fob_width), (ce_l240 y ob_numbers fob_numbers), (ce_l60 y ob_moving fob_moving)]) ∨ ((¬ (fob_many 3).toInt = -1 ∧ ¬ (fob_many 3).toInt = -1 ∧ (fob_width 3).toInt = (fob_width 3).toInt ∧ ¬ (0 ≤ a2.toInt ∧ 0 ≤ a4.toInt ∧ 0 ≤ a5.toInt ∧ a2.toInt + a5.toInt ≤ (fob_many 3).toInt ∧ a4.toInt + a5.toInt ≤ (fob_many 3).toInt)) ∧ r = (-7) ∧ w = [(ce_X10 ob ob_thrown ob_world ob_images ob_hasImage ob_tape ob_taped ob_five ob_size ob_at ob_from ob_token ob_value ob_faultKind ob_faultPlace ob_fresh ob_parts ob_houses ob_houseMany ob_worthOf ob_byCall ob_over ob_bestSet ob_bestOver ob_bestWorth ob_row ob_tenDebts ob_tenMany ob_fewestBy ob_covered ob_queue ob_cameBy ob_parent ob_met ob_calls ob_callMany ob_calledOn ob_saved ob_many ob_width ob_numbers ob_moving), (ce_i4 y ob_many fob_many), (ce_i4 y ob_width fob_width), (ce_l240 y ob_numbers fob_numbers), (ce_l60 y ob_moving fob_moving)]) ∨ (∃ (f_603 : Nat → Int64) (f_604 : Nat → Int64), ((0 : Int) ≤ a2.toInt ∧ a2.toInt ≤ 60) ∧ ((0 : Int) ≤ a4.toInt ∧ a4.toInt ≤ 60) ∧ ((0 : Int) ≤ a5.toInt ∧ a5.toInt ≤ 60) ∧ (¬ (fob_many 3).toInt = -1 ∧ ¬ (fob_many 3).toInt = -1 ∧ (fob_width 3).toInt = (fob_width 3).toInt ∧ 0 ≤ a2.toInt ∧ 0 ≤ a4.toInt ∧ 0 ≤ a5.toInt ∧ a2.toInt + a5.toInt ≤ (fob_many 3).toInt ∧ a4.toInt + a5.toInt ≤ (fob_many 3).toInt) ∧ r = 0 ∧ w = [(ce_X10 ob ob_thrown ob_world ob_images ob_hasImage ob_tape ob_taped ob_five ob_size ob_at ob_from ob_token ob_value ob_faultKind ob_faultPlace ob_fresh ob_parts ob_houses ob_houseMany ob_worthOf ob_byCall ob_over ob_bestSet ob_bestOver ob_bestWorth ob_row ob_tenDebts ob_tenMany ob_fewestBy ob_covered ob_queue ob_cameBy ob_parent ob_met ob_calls ob_callMany ob_calledOn ob_saved ob_many ob_width ob_numbers ob_moving), (ce_i4 y ob_many fob_many), (ce_i4 y ob_width fob_width), (ce_l240 y ob_numbers f_603), (ce_l60 y ob_moving f_604)])) (kq G (va_A [(ce_X10 ob ob_thrown ob_world ob_images ob_hasImage ob_tape ob_taped ob_five ob_size ob_at ob_from ob_token ob_value ob_faultKind ob_faultPlace ob_fresh ob_parts ob_houses ob_houseMany ob_worthOf ob_byCall ob_over ob_bestSet ob_bestOver ob_bestWorth ob_row ob_tenDebts ob_tenMany ob_fewestBy ob_covered ob_queue ob_cameBy ob_parent ob_met ob_calls ob_callMany ob_calledOn ob_saved ob_many ob_width ob_numbers ob_moving), (ce_i4 y ob_many fob_many), (ce_i4 y ob_width fob_width), (ce_l240 y ob_numbers fob_numbers), (ce_l60 y ob_moving fob_moving)] sz)) (va_A [(ce_X10 ob ob_thrown ob_world ob_images ob_hasImage ob_tape ob_taped ob_five ob_size ob_at ob_from ob_token ob_value ob_faultKind ob_faultPlace ob_fresh ob_parts ob_houses ob_houseMany ob_worthOf ob_byCall ob_over ob_bestSet ob_bestOver ob_bestWorth ob_row ob_tenDebts ob_tenMany ob_fewestBy ob_covered ob_queue ob_cameBy ob_parent ob_met ob_calls ob_callMany ob_calledOn ob_saved ob_many ob_width ob_numbers ob_moving), (ce_i4 y ob_many fob_many), (ce_i4 y ob_width fob_width), (ce_l240 y ob_numbers fob_numbers), (ce_l60 y ob_moving fob_moving)] sz)) 0 0 (va_A [(ce_X10 ob ob_thrown ob_world ob_images ob_hasImage ob_tape ob_taped ob_five ob_size ob_at ob_from ob_token ob_value ob_faultKind ob_faultPlace ob_fresh ob_parts ob_houses ob_houseMany ob_worthOf ob_byCall ob_over ob_bestSet ob_bestOver ob_bestWorth ob_row ob_tenDebts ob_tenMany ob_fewestBy ob_covered ob_queue ob_cameBy ob_parent ob_met ob_calls ob_callMany ob_calledOn ob_saved ob_many ob_width ob_numbers ob_moving), (ce_i4 y ob_many fob_many), (ce_i4 y ob_width fob_width), (ce_l240 y ob_numbers fob_numbers), (ce_l60 y ob_moving fob_moving)] sz) := by
  refine Met.ofW (cc := cX10_paste) (maxL := 7) (ret := (some .int)) (by decide) rfl ?_
  intro p e s m args below meth c s₁ B hml hv
  obtain ⟨rfl, hsz, hP, hK, hD0⟩ := hv
  have hx := B.exec
  have hb := B.bytes
  have hr := B.returns
  have hw0 : ∀ w ∈ wAll, w.before _ s = true := fun w h => atoms_spec (ws := Cond.code yX10_paste cX10_paste 7 (some .int) :: wAll) B.pre w (List.mem_cons_of_mem _ h)
  have hown : s.vm.findClass RX10 = some m.cls := findClass_of_methodNamed B.named
  subst hsz
  have hD := hD0.self (sz := s.heap.size)
  generalize hAe : va_A [(ce_X10 ob ob_thrown ob_world ob_images ob_hasImage ob_tape ob_taped ob_five ob_size ob_at ob_from ob_token ob_value ob_faultKind ob_faultPlace ob_fresh ob_parts ob_houses ob_houseMany ob_worthOf ob_byCall ob_over ob_bestSet ob_bestOver ob_bestWorth ob_row ob_tenDebts ob_tenMany ob_fewestBy ob_covered ob_queue ob_cameBy ob_parent ob_met ob_calls ob_callMany ob_calledOn ob_saved ob_many ob_width ob_numbers ob_moving), (ce_i4 y ob_many fob_many), (ce_i4 y ob_width fob_width), (ce_l240 y ob_numbers fob_numbers), (ce_l60 y ob_moving fob_moving)] s.heap.size = A at hD ⊢
  have hA : ∀ q : Nat, s.heap.size ≤ q → A q := fun q h => by rw [← hAe]; exact Or.inr h
  have hS : va_S A s.heap s.heap [] := va_S.rf
  have hP : va_P G vwCl [(ce_X10 ob ob_thrown ob_world ob_images ob_hasImage ob_tape ob_taped ob_five ob_size ob_at ob_from ob_token ob_value ob_faultKind ob_faultPlace ob_fresh ob_parts ob_houses ob_houseMany ob_worthOf ob_byCall ob_over ob_bestSet ob_bestOver ob_bestWorth ob_row ob_tenDebts ob_tenMany ob_fewestBy ob_covered ob_queue ob_cameBy ob_parent ob_met ob_calls ob_callMany ob_calledOn ob_saved ob_many ob_width ob_numbers ob_moving), (ce_i4 y ob_many fob_many), (ce_i4 y ob_width fob_width), (ce_l240 y ob_numbers fob_numbers), (ce_l60 y ob_moving fob_moving)] s.heap := hP
  have hl := lv_entry ([.ref ob, .int 3, .int a2, .int 3, .int a4, .int a5]) (n := 7) (Nat.le_of_ble_eq_true rfl)
  rw [lg_entry_eq]
  generalize (lg_sl ([.ref ob, .int 3, .int a2, .int 3, .int a4, .int a5]) ++ List.replicate (7 - (lg_sl ([.ref ob, .int 3, .int a2, .int 3, .int a4, .int a5])).length) Slot.unset).toArray = ls at hl ⊢
  have hl : lv_has ls 7 [(0, .ref ob), (1, .int 3), (2, .int a2), (3, .int 3), (4, .int a4), (5, .int a5)] := hl
  refine lv_iload_n hx hb dX10_paste_0 rfl (lv_at hl 1 rfl) ?_
  refine cSim (As := [.int 3]) (rest := []) ⟨hx, hb, hml, hown, hw0⟩ hA hK hP hD hS [] (fisSlotM l G y _ 3 ) rfl ⟨(callB_of 1 hw0 (gA m_543) rfl rfl rfl (hw0 _ m_41) (hw0 _ m_433) cb_X10_isSlot ⟨Nat.le_of_ble_eq_true rfl, Nat.le_of_ble_eq_true rfl⟩), (hw0 _ m_434)⟩ rfl hl.1 (Nat.le_of_ble_eq_true rfl) dX10_paste_1 ⟨Nat.le_of_ble_eq_true rfl, Nat.le_of_ble_eq_true rfl⟩ (fun r_1001 w_1001 H locs hw_1001 hP hD hS => ?_)
  rcases hw_1001 with ⟨h_1002, rfl, rfl⟩ | ⟨h_1003, h_1004, rfl, rfl⟩
  · skip
    exact False.elim (by have h9 : Int32.toInt 3 = 3 := (by decide); omega)
  · skip
    obtain ⟨hP, hD⟩ : vPD G A H [(ce_X10 ob ob_thrown ob_world ob_images ob_hasImage ob_tape ob_taped ob_five ob_size ob_at ob_from ob_token ob_value ob_faultKind ob_faultPlace ob_fresh ob_parts ob_houses ob_houseMany ob_worthOf ob_byCall ob_over ob_bestSet ob_bestOver ob_bestWorth ob_row ob_tenDebts ob_tenMany ob_fewestBy ob_covered ob_queue ob_cameBy ob_parent ob_met ob_calls ob_callMany ob_calledOn ob_saved ob_many ob_width ob_numbers ob_moving), (ce_i4 y ob_many fob_many), (ce_i4 y ob_width fob_width), (ce_l240 y ob_numbers fob_numbers), (ce_l60 y ob_moving fob_moving)] := ⟨hP, hD⟩
    refine lv_if_eq (tgt := 14) hx hb dX10_paste_4 (by decide) (fun c9 => absurd c9 (by decide)) (fun _ => ?_)
    refine lv_iload_n hx hb dX10_paste_7 rfl (lv_at hl 3 rfl) ?_
    refine cSim (As := [.int 3]) (rest := []) ⟨hx, hb, hml, hown, hw0⟩ hA hK hP hD hS [] (fisSlotM l G y _ 3 ) rfl ⟨(callB_of 1 hw0 (gA m_543) rfl rfl rfl (hw0 _ m_41) (hw0 _ m_433) cb_X10_isSlot ⟨Nat.le_of_ble_eq_true rfl, Nat.le_of_ble_eq_true rfl⟩), (hw0 _ m_434)⟩ rfl hl.1 (Nat.le_of_ble_eq_true rfl) dX10_paste_8 ⟨Nat.le_of_ble_eq_true rfl, Nat.le_of_ble_eq_true rfl⟩ (fun r_1005 w_1005 H locs hw_1005 hP hD hS => ?_)
    rcases hw_1005 with ⟨h_1006, rfl, rfl⟩ | ⟨h_1007, h_1008, rfl, rfl⟩
    · skip
      exact False.elim (by have h9 : Int32.toInt 3 = 3 := (by decide); omega)
    · skip
      obtain ⟨hP, hD⟩ : vPD G A H [(ce_X10 ob ob_thrown ob_world ob_images ob_hasImage ob_tape ob_taped ob_five ob_size ob_at ob_from ob_token ob_value ob_faultKind ob_faultPlace ob_fresh ob_parts ob_houses ob_houseMany ob_worthOf ob_byCall ob_over ob_bestSet ob_bestOver ob_bestWorth ob_row ob_tenDebts ob_tenMany ob_fewestBy ob_covered ob_queue ob_cameBy ob_parent ob_met ob_calls ob_callMany ob_calledOn ob_saved ob_many ob_width ob_numbers ob_moving), (ce_i4 y ob_many fob_many), (ce_i4 y ob_width fob_width), (ce_l240 y ob_numbers fob_numbers), (ce_l60 y ob_moving fob_moving)] := ⟨hP, hD⟩
      refine lv_if_ne (tgt := 17) hx hb dX10_paste_11 (by decide) (fun _ => ?_) (fun c9 => absurd c9 (by decide))
      refine lv_aload_n hx hb dX10_paste_17 rfl (lv_at hl 0 rfl) ?_
      refine va_get (D := G) (ci := 10) (v := .ref ob_many) (C := RX10) (T := TX10) (N := 41) hx hb hw0 inA_wsX100 hown hK.1 hP 0 rfl rfl 37 (by decide) (hw0 _ m_406) (fun _ h9 => h9) rfl dX10_paste_18 ?_
      refine lv_iload_n hx hb dX10_paste_21 rfl (lv_at hl 1 rfl) ?_
      refine va_iald hx hb hK.1 hP 1 1 rfl rfl (vi (bkc (x := 3) (c := 3) (by decide)) (by decide)) dX10_paste_22 ?_
      refine lv_topi (fun v_1009 ev_1009 => ?_)
      have bv_1009 : (-1 : Int) ≤ v_1009.toInt ∧ v_1009.toInt ≤ 60 := rd_b ev_1009 p_fob_many
      have yv_1009 : v_1009.toInt = (fob_many 3).toInt := congrArg Int32.toInt ev_1009
      refine lv_iconst (v := (-1)) hx hb dX10_paste_23 (by decide) ?_
      refine lv_icmp_eq (tgt := 37) hx hb dX10_paste_24 (by decide) (fun c_1010 => ?_) (fun c_1010 => ?_)
      · skip
        have nc_1010 := nb_eq (-1) (-1) c_1010 bv_1009 (bkc (x := (-1)) (c := -1) (by decide)) (by decide)
        refine lv_bipush (v := (-6)) hx hb dX10_paste_37 (by decide) ?_
        exact W.iret (v := (-6)) hx hb hr (fun t ht hW => ⟨⟨(-6), _, rfl, Or.inl (⟨by have h90 : Int32.toInt (-6) = -6 := (by decide); have h91 : Int32.toInt 3 = 3 := (by decide); omega, rfl, rfl⟩), by rw [ht]; exact hP, hD⟩, hS.F ht⟩) hS.2.2 dX10_paste_39
      · skip
        have nc_1010 := nb_ne (0) (60) c_1010 bv_1009 (k := -1) (by decide) (by decide)
        refine lv_aload_n hx hb dX10_paste_27 rfl (lv_at hl 0 rfl) ?_
        refine va_get (D := G) (ci := 10) (v := .ref ob_many) (C := RX10) (T := TX10) (N := 41) hx hb hw0 inA_wsX100 hown hK.1 hP 0 rfl rfl 37 (by decide) (hw0 _ m_406) (fun _ h9 => h9) rfl dX10_paste_28 ?_
        refine lv_iload_n hx hb dX10_paste_31 rfl (lv_at hl 3 rfl) ?_
        refine va_iald hx hb hK.1 hP 1 1 rfl rfl (vi (bkc (x := 3) (c := 3) (by decide)) (by decide)) dX10_paste_32 ?_
        refine lv_topi (fun v_1011 ev_1011 => ?_)
        obtain rfl : v_1009 = v_1011 := (ev_1011.trans (ev_1009.symm)).symm
        refine lv_iconst (v := (-1)) hx hb dX10_paste_33 (by decide) ?_
        refine lv_icmp_ne (tgt := 40) hx hb dX10_paste_34 (by decide) (fun _ => ?_) (fun c9 => absurd c9 (dc_neq nc_1010.1 (bkc (x := (-1)) (c := -1) (by decide)) (by decide)))
        refine lv_aload_n hx hb dX10_paste_40 rfl (lv_at hl 0 rfl) ?_
        refine va_get (D := G) (ci := 10) (v := .ref ob_width) (C := RX10) (T := TX10) (N := 41) hx hb hw0 inA_wsX100 hown hK.1 hP 0 rfl rfl 38 (by decide) (hw0 _ m_527) (fun _ h9 => h9) rfl dX10_paste_41 ?_
        refine lv_iload_n hx hb dX10_paste_44 rfl (lv_at hl 1 rfl) ?_
        refine va_iald hx hb hK.1 hP 2 1 rfl rfl (vi (bkc (x := 3) (c := 3) (by decide)) (by decide)) dX10_paste_45 ?_
        refine lv_topi (fun v_1012 ev_1012 => ?_)
        have bv_1012 : (0 : Int) ≤ v_1012.toInt ∧ v_1012.toInt ≤ 3 := rd_b ev_1012 p_fob_width
        have yv_1012 : v_1012.toInt = (fob_width 3).toInt := congrArg Int32.toInt ev_1012
        refine lv_aload_n hx hb dX10_paste_46 rfl (lv_at hl 0 rfl) ?_
        refine va_get (D := G) (ci := 10) (v := .ref ob_width) (C := RX10) (T := TX10) (N := 41) hx hb hw0 inA_wsX100 hown hK.1 hP 0 rfl rfl 38 (by decide) (hw0 _ m_527) (fun _ h9 => h9) rfl dX10_paste_47 ?_
        refine lv_iload_n hx hb dX10_paste_50 rfl (lv_at hl 3 rfl) ?_
        refine va_iald hx hb hK.1 hP 2 1 rfl rfl (vi (bkc (x := 3) (c := 3) (by decide)) (by decide)) dX10_paste_51 ?_
        refine lv_topi (fun v_1013 ev_1013 => ?_)
        obtain rfl : v_1012 = v_1013 := (ev_1013.trans (ev_1012.symm)).symm
        refine lv_icmp_eq (tgt := 58) hx hb dX10_paste_52 (by decide) (fun _ => ?_) (fun c9 => absurd (rfl) c9)
        refine lv_iload_n hx hb dX10_paste_58 rfl (lv_at hl 2 rfl) ?_
        refine lv_if_lt (tgt := 107) hx hb dX10_paste_59 (by decide) (fun c_1014 => ?_) (fun c_1014 => ?_)
        · skip
          have nc_1014 := nb_lt (-1) (0) c_1014 (btop a2) (bkc (x := 0) (c := 0) (by decide)) (by decide)
          refine lv_bipush (v := (-7)) hx hb dX10_paste_107 (by decide) ?_
          exact W.iret (v := (-7)) hx hb hr (fun t ht hW => ⟨⟨(-7), _, rfl, Or.inr (Or.inl (⟨by have h90 : Int32.toInt (-7) = -7 := (by decide); have h91 : Int32.toInt 3 = 3 := (by decide); omega, rfl, rfl⟩)), by rw [ht]; exact hP, hD⟩, hS.F ht⟩) hS.2.2 dX10_paste_109
        · skip
          have nc_1014 := nb_nlt (0) (0) c_1014 (bkc (x := 0) (c := 0) (by decide)) (btop a2) (by decide)
          refine lv_iload hx hb dX10_paste_62 (lv_at hl 4 rfl) ?_
          refine lv_if_lt (tgt := 107) hx hb dX10_paste_64 (by decide) (fun c_1015 => ?_) (fun c_1015 => ?_)
          · skip
            have nc_1015 := nb_lt (-1) (0) c_1015 (btop a4) (bkc (x := 0) (c := 0) (by decide)) (by decide)
            refine lv_bipush (v := (-7)) hx hb dX10_paste_107 (by decide) ?_
            exact W.iret (v := (-7)) hx hb hr (fun t ht hW => ⟨⟨(-7), _, rfl, Or.inr (Or.inl (⟨by have h90 : Int32.toInt (-7) = -7 := (by decide); have h91 : Int32.toInt 3 = 3 := (by decide); omega, rfl, rfl⟩)), by rw [ht]; exact hP, hD⟩, hS.F ht⟩) hS.2.2 dX10_paste_109
          · skip
            have nc_1015 := nb_nlt (0) (0) c_1015 (bkc (x := 0) (c := 0) (by decide)) (btop a4) (by decide)
            refine lv_iload hx hb dX10_paste_67 (lv_at hl 5 rfl) ?_
            refine lv_if_lt (tgt := 107) hx hb dX10_paste_69 (by decide) (fun c_1016 => ?_) (fun c_1016 => ?_)
            · skip
              have nc_1016 := nb_lt (-1) (0) c_1016 (btop a5) (bkc (x := 0) (c := 0) (by decide)) (by decide)
              refine lv_bipush (v := (-7)) hx hb dX10_paste_107 (by decide) ?_
              exact W.iret (v := (-7)) hx hb hr (fun t ht hW => ⟨⟨(-7), _, rfl, Or.inr (Or.inl (⟨by have h90 : Int32.toInt (-7) = -7 := (by decide); have h91 : Int32.toInt 3 = 3 := (by decide); omega, rfl, rfl⟩)), by rw [ht]; exact hP, hD⟩, hS.F ht⟩) hS.2.2 dX10_paste_109
            · skip
              have nc_1016 := nb_nlt (0) (0) c_1016 (bkc (x := 0) (c := 0) (by decide)) (btop a5) (by decide)
              refine lv_iload_n hx hb dX10_paste_72 rfl (lv_at hl 2 rfl) ?_
              refine lv_i2l hx hb dX10_paste_73 rfl ?_
              have kk_1017 : ((a2).toInt64).toInt = (a2).toInt := Int32.toInt_toInt64 _
              refine lv_iload hx hb dX10_paste_74 (lv_at hl 5 rfl) ?_
              refine lv_i2l hx hb dX10_paste_76 rfl ?_
              have kk_1018 : ((a5).toInt64).toInt = (a5).toInt := Int32.toInt_toInt64 _
              refine lv_ladd hx hb dX10_paste_77 ?_
              refine lv_topl (fun v_1019 ev_1019 => ?_)
              have qv_1019 := la_add ev_1019
              refine lv_aload_n hx hb dX10_paste_78 rfl (lv_at hl 0 rfl) ?_
              refine va_get (D := G) (ci := 10) (v := .ref ob_many) (C := RX10) (T := TX10) (N := 41) hx hb hw0 inA_wsX100 hown hK.1 hP 0 rfl rfl 37 (by decide) (hw0 _ m_406) (fun _ h9 => h9) rfl dX10_paste_79 ?_
              refine lv_iload_n hx hb dX10_paste_82 rfl (lv_at hl 1 rfl) ?_
              refine va_iald hx hb hK.1 hP 1 1 rfl rfl (vi (bkc (x := 3) (c := 3) (by decide)) (by decide)) dX10_paste_83 ?_
              refine lv_topi (fun v_1020 ev_1020 => ?_)
              obtain rfl : v_1009 = v_1020 := (ev_1020.trans (ev_1009.symm)).symm
              refine lv_i2l hx hb dX10_paste_84 rfl ?_
              have kk_1021 : ((v_1009).toInt64).toInt = (v_1009).toInt := Int32.toInt_toInt64 _
              refine W.lcmp hx hb dX10_paste_85 ?_
              refine lv_if_gt (tgt := 107) hx hb dX10_paste_86 (by decide) (fun c_1022 => ?_) (fun c_1022 => ?_)
              · skip
                have nc_1022 := jl_gt c_1022
                refine lv_bipush (v := (-7)) hx hb dX10_paste_107 (by decide) ?_
                exact W.iret (v := (-7)) hx hb hr (fun t ht hW => ⟨⟨(-7), _, rfl, Or.inr (Or.inl (⟨by have h90 : Int32.toInt (-7) = -7 := (by decide); have h91 : Int32.toInt 3 = 3 := (by decide); omega, rfl, rfl⟩)), by rw [ht]; exact hP, hD⟩, hS.F ht⟩) hS.2.2 dX10_paste_109
              · skip
                have nc_1022 := jl_ngt c_1022
                refine lv_iload hx hb dX10_paste_89 (lv_at hl 4 rfl) ?_
                refine lv_i2l hx hb dX10_paste_91 rfl ?_
                have kk_1023 : ((a4).toInt64).toInt = (a4).toInt := Int32.toInt_toInt64 _
                refine lv_iload hx hb dX10_paste_92 (lv_at hl 5 rfl) ?_
                refine lv_i2l hx hb dX10_paste_94 rfl ?_
                have kk_1024 : ((a5).toInt64).toInt = (a5).toInt := Int32.toInt_toInt64 _
                refine lv_ladd hx hb dX10_paste_95 ?_
                refine lv_topl (fun v_1025 ev_1025 => ?_)
                have qv_1025 := la_add ev_1025
                refine lv_aload_n hx hb dX10_paste_96 rfl (lv_at hl 0 rfl) ?_
                refine va_get (D := G) (ci := 10) (v := .ref ob_many) (C := RX10) (T := TX10) (N := 41) hx hb hw0 inA_wsX100 hown hK.1 hP 0 rfl rfl 37 (by decide) (hw0 _ m_406) (fun _ h9 => h9) rfl dX10_paste_97 ?_
                refine lv_iload_n hx hb dX10_paste_100 rfl (lv_at hl 3 rfl) ?_
                refine va_iald hx hb hK.1 hP 1 1 rfl rfl (vi (bkc (x := 3) (c := 3) (by decide)) (by decide)) dX10_paste_101 ?_
                refine lv_topi (fun v_1026 ev_1026 => ?_)
                obtain rfl : v_1009 = v_1026 := (ev_1026.trans (ev_1009.symm)).symm
                refine lv_i2l hx hb dX10_paste_102 rfl ?_
                have kk_1027 : ((v_1009).toInt64).toInt = (v_1009).toInt := Int32.toInt_toInt64 _
                refine W.lcmp hx hb dX10_paste_103 ?_
                refine lv_if_le (tgt := 110) hx hb dX10_paste_104 (by decide) (fun c_1028 => ?_) (fun c_1028 => ?_)
                · skip
                  have nc_1028 := jl_le c_1028
                  have h_1029 : (0 : Int) ≤ a2.toInt ∧ a2.toInt ≤ 60 := by omega
                  have h_1030 : (0 : Int) ≤ a4.toInt ∧ a4.toInt ≤ 60 := by omega
                  have h_1031 : (0 : Int) ≤ a5.toInt ∧ a5.toInt ≤ 60 := by omega
                  refine lv_iconst (v := 0) hx hb dX10_paste_110 (by decide) ?_
                  refine lv_istore (lv' := [(6, .int 0), (0, .ref ob), (1, .int 3), (2, .int a2), (3, .int 3), (4, .int a4), (5, .int a5)]) hx hb dX10_paste_111 hl (by decide) rfl (fun ls hl => ?_)
                  refine loopX (fun n H locs ls st => ∃ (v_1149 : Int32) (f_1150 : Nat → Int64), (60 - v_1149.toInt).toNat = n ∧ ((0 : Int) ≤ v_1149.toInt ∧ v_1149.toInt ≤ 60) ∧ st = [] ∧ vPD G A H [(ce_X10 ob ob_thrown ob_world ob_images ob_hasImage ob_tape ob_taped ob_five ob_size ob_at ob_from ob_token ob_value ob_faultKind ob_faultPlace ob_fresh ob_parts ob_houses ob_houseMany ob_worthOf ob_byCall ob_over ob_bestSet ob_bestOver ob_bestWorth ob_row ob_tenDebts ob_tenMany ob_fewestBy ob_covered ob_queue ob_cameBy ob_parent ob_met ob_calls ob_callMany ob_calledOn ob_saved ob_many ob_width ob_numbers ob_moving), (ce_i4 y ob_many fob_many), (ce_i4 y ob_width fob_width), (ce_l240 y ob_numbers fob_numbers), (ce_l60 y ob_moving f_1150)] ∧ va_S A s.heap H locs ∧ lv_has ls 7 [(6, .int v_1149), (0, .ref ob), (1, .int 3), (2, .int a2), (3, .int 3), (4, .int a4), (5, .int a5)]) ?_ (n := (60 - (0 : Int32).toInt).toNat) ⟨0, fob_moving, rfl, (bw (0) (60) (bkc (x := 0) (c := 0) (by decide)) (by decide)), rfl, ⟨hP, hD⟩, hS, lv_sub hl [0, 1, 2, 3, 4, 5, 6] rfl⟩
                  rintro n ih_1158 H locs ls st ⟨v_1149, f_1150, hn_1158, bv_1149, rfl, ⟨hP, hD⟩, hS, hl⟩
                  refine lv_iload hx hb dX10_paste_113 (lv_at hl 0 rfl) ?_
                  refine lv_iload hx hb dX10_paste_115 (lv_at hl 6 rfl) ?_
                  refine lv_icmp_ge (tgt := 147) hx hb dX10_paste_117 (by decide) (fun c_1159 => ?_) (fun c_1159 => ?_)
                  · skip
                    have nc_1159 := nb_le (60) (0) c_1159 h_1031 bv_1149 (by decide)
                    refine lv_iconst (v := 0) hx hb dX10_paste_147 (by decide) ?_
                    refine lv_istore (lv' := [(6, .int 0), (0, .ref ob), (1, .int 3), (2, .int a2), (3, .int 3), (4, .int a4), (5, .int a5)]) hx hb dX10_paste_148 hl (by decide) rfl (fun ls hl => ?_)
                    refine loopX (fun n H locs ls st => ∃ (v_1277 : Int32) (f_1278 : Nat → Int64), (60 - v_1277.toInt).toNat = n ∧ ((0 : Int) ≤ v_1277.toInt ∧ v_1277.toInt ≤ 60) ∧ st = [] ∧ vPD G A H [(ce_X10 ob ob_thrown ob_world ob_images ob_hasImage ob_tape ob_taped ob_five ob_size ob_at ob_from ob_token ob_value ob_faultKind ob_faultPlace ob_fresh ob_parts ob_houses ob_houseMany ob_worthOf ob_byCall ob_over ob_bestSet ob_bestOver ob_bestWorth ob_row ob_tenDebts ob_tenMany ob_fewestBy ob_covered ob_queue ob_cameBy ob_parent ob_met ob_calls ob_callMany ob_calledOn ob_saved ob_many ob_width ob_numbers ob_moving), (ce_i4 y ob_many fob_many), (ce_i4 y ob_width fob_width), (ce_l240 y ob_numbers f_1278), (ce_l60 y ob_moving f_1150)] ∧ va_S A s.heap H locs ∧ lv_has ls 7 [(6, .int v_1277), (0, .ref ob), (3, .int 3), (4, .int a4), (5, .int a5)]) ?_ (n := (60 - (0 : Int32).toInt).toNat) ⟨0, fob_numbers, rfl, (bw (0) (60) (bkc (x := 0) (c := 0) (by decide)) (by decide)), rfl, ⟨hP, hD⟩, hS, lv_sub hl [0, 1, 4, 5, 6] rfl⟩
                    rintro n ih_1286 H locs ls st ⟨v_1277, f_1278, hn_1286, bv_1277, rfl, ⟨hP, hD⟩, hS, hl⟩
                    refine lv_iload hx hb dX10_paste_150 (lv_at hl 0 rfl) ?_
                    refine lv_iload hx hb dX10_paste_152 (lv_at hl 4 rfl) ?_
                    refine lv_icmp_ge (tgt := 185) hx hb dX10_paste_154 (by decide) (fun c_1287 => ?_) (fun c_1287 => ?_)
                    · skip
                      have nc_1287 := nb_le (60) (0) c_1287 nc_1159.1 bv_1277 (by decide)
                      refine lv_iconst (v := 0) hx hb dX10_paste_185 (by decide) ?_
                      exact W.iret (v := 0) hx hb hr (fun t ht hW => ⟨⟨0, _, rfl, Or.inr (Or.inr (⟨f_1278, f_1150, h_1029, h_1030, nc_1287.1, by have h90 : Int32.toInt 0 = 0 := (by decide); have h91 : Int32.toInt 3 = 3 := (by decide); omega, rfl, rfl⟩)), by rw [ht]; exact hP, hD⟩, hS.F ht⟩) hS.2.2 dX10_paste_186
                    · skip
                      have nc_1287 := nb_nle (59) (1) c_1287 bv_1277 nc_1159.1 (by decide)
                      refine lv_aload_n hx hb dX10_paste_157 rfl (lv_at hl 1 rfl) ?_
                      refine va_get (D := G) (ci := 10) (v := .ref ob_numbers) (C := RX10) (T := TX10) (N := 41) hx hb hw0 inA_wsX100 hown hK.1 hP 0 rfl rfl 39 (by decide) (hw0 _ m_435) (fun _ h9 => h9) rfl dX10_paste_158 ?_
                      refine lv_bipush (v := 60) hx hb dX10_paste_161 (by decide) ?_
                      refine lv_iload_n hx hb dX10_paste_163 rfl (lv_at hl 2 rfl) ?_
                      refine lv_imul hx hb dX10_paste_164 ?_
                      refine lv_topi (fun v_1288 ev_1288 => ?_)
                      obtain rfl : 180 = v_1288 := (ev_1288.trans (by decide)).symm
                      refine lv_iload hx hb dX10_paste_165 (lv_at hl 3 rfl) ?_
                      refine lv_iadd hx hb dX10_paste_167 ?_
                      refine lv_topi (fun v_1289 ev_1289 => ?_)
                      have qv_1289 := ba_add ev_1289 (bkc (x := 180) (c := 180) (by decide)) h_1030 (by decide)
                      have bv_1289 : (180 : Int) ≤ v_1289.toInt ∧ v_1289.toInt ≤ 240 := bq_add qv_1289 (bkc (x := 180) (c := 180) (by decide)) h_1030 _ _ (by decide)
                      have qv_1289 : v_1289.toInt = (180) + a4.toInt := qv_1289
                      refine lv_iload hx hb dX10_paste_168 (lv_at hl 0 rfl) ?_
                      refine lv_iadd hx hb dX10_paste_170 ?_
                      refine lv_topi (fun v_1290 ev_1290 => ?_)
                      have qv_1290 := ba_add ev_1290 bv_1289 nc_1287.1 (by decide)
                      have bv_1290 : (180 : Int) ≤ v_1290.toInt ∧ v_1290.toInt ≤ 299 := bq_add qv_1290 bv_1289 nc_1287.1 _ _ (by decide)
                      have h_1291 : (0 : Int) ≤ v_1290.toInt ∧ v_1290.toInt ≤ 239 := by omega
                      refine lv_aload_n hx hb dX10_paste_171 rfl (lv_at hl 1 rfl) ?_
                      refine va_get (D := G) (ci := 10) (v := .ref ob_moving) (C := RX10) (T := TX10) (N := 41) hx hb hw0 inA_wsX100 hown hK.1 hP 0 rfl rfl 40 (by decide) (hw0 _ m_529) (fun _ h9 => h9) rfl dX10_paste_172 ?_
                      refine lv_iload hx hb dX10_paste_175 (lv_at hl 0 rfl) ?_
                      refine va_lald hx hb hK.1 hP 4 2 rfl rfl (vi nc_1287.1 (by decide)) dX10_paste_177 ?_
                      refine lv_topl (fun v_1292 ev_1292 => ?_)
                      refine va_last hx hb hK.1 hP hD hS 3 2 rfl rfl (vi h_1291 (by decide)) dX10_paste_178 (fun H locs hP hD hS => ?_)
                      generalize hf_1293 : (vp_updL f_1278 (v_1290 : Int32).toNatClampNeg v_1292) = f_1293 at hP hD
                      obtain ⟨hP, hD⟩ : vPD G A H [(ce_X10 ob ob_thrown ob_world ob_images ob_hasImage ob_tape ob_taped ob_five ob_size ob_at ob_from ob_token ob_value ob_faultKind ob_faultPlace ob_fresh ob_parts ob_houses ob_houseMany ob_worthOf ob_byCall ob_over ob_bestSet ob_bestOver ob_bestWorth ob_row ob_tenDebts ob_tenMany ob_fewestBy ob_covered ob_queue ob_cameBy ob_parent ob_met ob_calls ob_callMany ob_calledOn ob_saved ob_many ob_width ob_numbers ob_moving), (ce_i4 y ob_many fob_many), (ce_i4 y ob_width fob_width), (ce_l240 y ob_numbers f_1293), (ce_l60 y ob_moving f_1150)] := ⟨hP, hD⟩
                      obtain ⟨v_1294, ev_1294⟩ : ∃ z : Int32, z = v_1277 + 1 := ⟨_, rfl⟩
                      have qv_1294 := ba_add ev_1294 nc_1287.1 (bkc (x := 1) (c := 1) (by decide)) (by decide)
                      have bv_1294 : (1 : Int) ≤ v_1294.toInt ∧ v_1294.toInt ≤ 60 := bq_add qv_1294 nc_1287.1 (bkc (x := 1) (c := 1) (by decide)) _ _ (by decide)
                      have qv_1294 : v_1294.toInt = v_1277.toInt + (1) := qv_1294
                      refine lv_iinc (v := v_1294) (lv' := [(6, .int v_1294), (0, .ref ob), (3, .int 3), (4, .int a4), (5, .int a5)]) hx hb dX10_paste_179 hl (k := 0) rfl (ev_1294.symm) (by decide) rfl (fun ls hl => ?_)
                      refine lv_goto (tgt := 150) hx hb dX10_paste_182 (by decide) ?_
                      exact ih_1286 _ (ml_inc (hi := 60) hn_1286 qv_1294 (by decide) ((bw (0) (60) bv_1294 (by decide))).2) _ _ _ _ ⟨v_1294, f_1293, rfl, (bw (0) (60) bv_1294 (by decide)), rfl, ⟨hP, hD⟩, hS, lv_sub hl [0, 1, 2, 3, 4] rfl⟩
                  · skip
                    have nc_1159 := nb_nle (59) (1) c_1159 bv_1149 h_1031 (by decide)
                    refine lv_aload_n hx hb dX10_paste_120 rfl (lv_at hl 1 rfl) ?_
                    refine va_get (D := G) (ci := 10) (v := .ref ob_moving) (C := RX10) (T := TX10) (N := 41) hx hb hw0 inA_wsX100 hown hK.1 hP 0 rfl rfl 40 (by decide) (hw0 _ m_529) (fun _ h9 => h9) rfl dX10_paste_121 ?_
                    refine lv_iload hx hb dX10_paste_124 (lv_at hl 0 rfl) ?_
                    refine lv_aload_n hx hb dX10_paste_126 rfl (lv_at hl 1 rfl) ?_
                    refine va_get (D := G) (ci := 10) (v := .ref ob_numbers) (C := RX10) (T := TX10) (N := 41) hx hb hw0 inA_wsX100 hown hK.1 hP 0 rfl rfl 39 (by decide) (hw0 _ m_435) (fun _ h9 => h9) rfl dX10_paste_127 ?_
                    refine lv_bipush (v := 60) hx hb dX10_paste_130 (by decide) ?_
                    refine lv_iload_n hx hb dX10_paste_132 rfl (lv_at hl 2 rfl) ?_
                    refine lv_imul hx hb dX10_paste_133 ?_
                    refine lv_topi (fun v_1295 ev_1295 => ?_)
                    obtain rfl : 180 = v_1295 := (ev_1295.trans (by decide)).symm
                    refine lv_iload_n hx hb dX10_paste_134 rfl (lv_at hl 3 rfl) ?_
                    refine lv_iadd hx hb dX10_paste_135 ?_
                    refine lv_topi (fun v_1296 ev_1296 => ?_)
                    have qv_1296 := ba_add ev_1296 (bkc (x := 180) (c := 180) (by decide)) h_1029 (by decide)
                    have bv_1296 : (180 : Int) ≤ v_1296.toInt ∧ v_1296.toInt ≤ 240 := bq_add qv_1296 (bkc (x := 180) (c := 180) (by decide)) h_1029 _ _ (by decide)
                    have qv_1296 : v_1296.toInt = (180) + a2.toInt := qv_1296
                    refine lv_iload hx hb dX10_paste_136 (lv_at hl 0 rfl) ?_
                    refine lv_iadd hx hb dX10_paste_138 ?_
                    refine lv_topi (fun v_1297 ev_1297 => ?_)
                    have qv_1297 := ba_add ev_1297 bv_1296 nc_1159.1 (by decide)
                    have bv_1297 : (180 : Int) ≤ v_1297.toInt ∧ v_1297.toInt ≤ 299 := bq_add qv_1297 bv_1296 nc_1159.1 _ _ (by decide)
                    have h_1298 : (0 : Int) ≤ v_1297.toInt ∧ v_1297.toInt ≤ 239 := by omega
                    refine va_lald hx hb hK.1 hP 3 2 rfl rfl (vi h_1298 (by decide)) dX10_paste_139 ?_
                    refine lv_topl (fun v_1299 ev_1299 => ?_)
                    refine va_last hx hb hK.1 hP hD hS 4 2 rfl rfl (vi nc_1159.1 (by decide)) dX10_paste_140 (fun H locs hP hD hS => ?_)
                    generalize hf_1300 : (vp_updL f_1150 (v_1149 : Int32).toNatClampNeg v_1299) = f_1300 at hP hD
                    obtain ⟨hP, hD⟩ : vPD G A H [(ce_X10 ob ob_thrown ob_world ob_images ob_hasImage ob_tape ob_taped ob_five ob_size ob_at ob_from ob_token ob_value ob_faultKind ob_faultPlace ob_fresh ob_parts ob_houses ob_houseMany ob_worthOf ob_byCall ob_over ob_bestSet ob_bestOver ob_bestWorth ob_row ob_tenDebts ob_tenMany ob_fewestBy ob_covered ob_queue ob_cameBy ob_parent ob_met ob_calls ob_callMany ob_calledOn ob_saved ob_many ob_width ob_numbers ob_moving), (ce_i4 y ob_many fob_many), (ce_i4 y ob_width fob_width), (ce_l240 y ob_numbers fob_numbers), (ce_l60 y ob_moving f_1300)] := ⟨hP, hD⟩
                    obtain ⟨v_1301, ev_1301⟩ : ∃ z : Int32, z = v_1149 + 1 := ⟨_, rfl⟩
                    have qv_1301 := ba_add ev_1301 nc_1159.1 (bkc (x := 1) (c := 1) (by decide)) (by decide)
                    have bv_1301 : (1 : Int) ≤ v_1301.toInt ∧ v_1301.toInt ≤ 60 := bq_add qv_1301 nc_1159.1 (bkc (x := 1) (c := 1) (by decide)) _ _ (by decide)
                    have qv_1301 : v_1301.toInt = v_1149.toInt + (1) := qv_1301
                    refine lv_iinc (v := v_1301) (lv' := [(6, .int v_1301), (0, .ref ob), (1, .int 3), (2, .int a2), (3, .int 3), (4, .int a4), (5, .int a5)]) hx hb dX10_paste_141 hl (k := 0) rfl (ev_1301.symm) (by decide) rfl (fun ls hl => ?_)
                    refine lv_goto (tgt := 113) hx hb dX10_paste_144 (by decide) ?_
                    exact ih_1158 _ (ml_inc (hi := 60) hn_1158 qv_1301 (by decide) ((bw (0) (60) bv_1301 (by decide))).2) _ _ _ _ ⟨v_1301, f_1300, rfl, (bw (0) (60) bv_1301 (by decide)), rfl, ⟨hP, hD⟩, hS, lv_sub hl [0, 1, 2, 3, 4, 5, 6] rfl⟩
                · skip
                  have nc_1028 := jl_nle c_1028
                  refine lv_bipush (v := (-7)) hx hb dX10_paste_107 (by decide) ?_
                  exact W.iret (v := (-7)) hx hb hr (fun t ht hW => ⟨⟨(-7), _, rfl, Or.inr (Or.inl (⟨by have h90 : Int32.toInt (-7) = -7 := (by decide); have h91 : Int32.toInt 3 = 3 := (by decide); omega, rfl, rfl⟩)), by rw [ht]; exact hP, hD⟩, hS.F ht⟩) hS.2.2 dX10_paste_109

set_option maxHeartbeats 4000000 in
set_option maxRecDepth 100000 in
theorem spasteMlo (l : Launch) (G : va_G) (y : Nat → ClassId) (sz : Nat) (ob : Nat) (a1 : Int32) (a2 : Int32) (a3 : Int32) (a4 : Int32) (a5 : Int32) (ob_thrown : Int32) (ob_world : Nat) (ob_images : Nat) (ob_hasImage : Nat) (ob_tape : Nat) (ob_taped : Int32) (ob_five : Nat) (ob_size : Int32) (ob_at : Int32) (ob_from : Int32) (ob_token : Int32) (ob_value : Int32) (ob_faultKind : Int32) (ob_faultPlace : Int32) (ob_fresh : Nat) (ob_parts : Nat) (ob_houses : Nat) (ob_houseMany : Int32) (ob_worthOf : Nat) (ob_byCall : Nat) (ob_over : Nat) (ob_bestSet : Int32) (ob_bestOver : Int32) (ob_bestWorth : Int32) (ob_row : Nat) (ob_tenDebts : Nat) (ob_tenMany : Int32) (ob_fewestBy : Nat) (ob_covered : Nat) (ob_queue : Nat) (ob_cameBy : Nat) (ob_parent : Nat) (ob_met : Nat) (ob_calls : Nat) (ob_callMany : Int32) (ob_calledOn : Nat) (ob_saved : Nat) (ob_many : Nat) (ob_width : Nat) (ob_numbers : Nat) (ob_moving : Nat) (p_ob_taped : (0 : Int) ≤ ob_taped.toInt ∧ ob_taped.toInt ≤ 1400) (p_ob_size : (0 : Int) ≤ ob_size.toInt ∧ ob_size.toInt ≤ 1400) (p_ob_at : (0 : Int) ≤ ob_at.toInt ∧ ob_at.toInt ≤ 1400) (p_ob_from : (0 : Int) ≤ ob_from.toInt ∧ ob_from.toInt ≤ 1400) (p_ob_token : (0 : Int) ≤ ob_token.toInt ∧ ob_token.toInt ≤ 4) (p_ob_value : (0 : Int) ≤ ob_value.toInt ∧ ob_value.toInt ≤ 9999) (p_ob_faultKind : (0 : Int) ≤ ob_faultKind.toInt ∧ ob_faultKind.toInt ≤ 3) (p_ob_houseMany : (0 : Int) ≤ ob_houseMany.toInt ∧ ob_houseMany.toInt ≤ 10) (p_ob_bestSet : (0 : Int) ≤ ob_bestSet.toInt ∧ ob_bestSet.toInt ≤ 1023) (p_ob_bestOver : (-1 : Int) ≤ ob_bestOver.toInt ∧ ob_bestOver.toInt ≤ 180) (p_ob_tenMany : (0 : Int) ≤ ob_tenMany.toInt ∧ ob_tenMany.toInt ≤ 10) (p_ob_callMany : (0 : Int) ≤ ob_callMany.toInt ∧ ob_callMany.toInt ≤ 16) (p_a1 : (-2147483648 : Int) ≤ a1.toInt ∧ a1.toInt ≤ -1) : Met l yX10_paste (Cond.code yX10_paste cX10_paste 7 (some .int) :: wAll) ({ frames := 2, cells := 0, slots := 0, locals := 45 }) (va_Pc [.ref ob, .int a1, .int a2, .int a3, .int a4, .int a5] (kp G y sz [(ce_X10 ob ob_thrown ob_world ob_images ob_hasImage ob_tape ob_taped ob_five ob_size ob_at ob_from ob_token ob_value ob_faultKind ob_faultPlace ob_fresh ob_parts ob_houses ob_houseMany ob_worthOf ob_byCall ob_over ob_bestSet ob_bestOver ob_bestWorth ob_row ob_tenDebts ob_tenMany ob_fewestBy ob_covered ob_queue ob_cameBy ob_parent ob_met ob_calls ob_callMany ob_calledOn ob_saved ob_many ob_width ob_numbers ob_moving)])) (va_Qi (fun (r : Int32) (w : va_W) => (r = (-2) ∧ w = [(ce_X10 ob ob_thrown ob_world ob_images ob_hasImage ob_tape ob_taped ob_five ob_size ob_at ob_from ob_token ob_value ob_faultKind ob_faultPlace ob_fresh ob_parts ob_houses ob_houseMany ob_worthOf ob_byCall ob_over ob_bestSet ob_bestOver ob_bestWorth ob_row ob_tenDebts ob_tenMany ob_fewestBy ob_covered ob_queue ob_cameBy ob_parent ob_met ob_calls ob_callMany ob_calledOn ob_saved ob_many ob_width ob_numbers ob_moving)])) (kq G (va_A [(ce_X10 ob ob_thrown ob_world ob_images ob_hasImage ob_tape ob_taped ob_five ob_size ob_at ob_from ob_token ob_value ob_faultKind ob_faultPlace ob_fresh ob_parts ob_houses ob_houseMany ob_worthOf ob_byCall ob_over ob_bestSet ob_bestOver ob_bestWorth ob_row ob_tenDebts ob_tenMany ob_fewestBy ob_covered ob_queue ob_cameBy ob_parent ob_met ob_calls ob_callMany ob_calledOn ob_saved ob_many ob_width ob_numbers ob_moving)] sz)) (va_A [(ce_X10 ob ob_thrown ob_world ob_images ob_hasImage ob_tape ob_taped ob_five ob_size ob_at ob_from ob_token ob_value ob_faultKind ob_faultPlace ob_fresh ob_parts ob_houses ob_houseMany ob_worthOf ob_byCall ob_over ob_bestSet ob_bestOver ob_bestWorth ob_row ob_tenDebts ob_tenMany ob_fewestBy ob_covered ob_queue ob_cameBy ob_parent ob_met ob_calls ob_callMany ob_calledOn ob_saved ob_many ob_width ob_numbers ob_moving)] sz)) 0 0 (va_A [(ce_X10 ob ob_thrown ob_world ob_images ob_hasImage ob_tape ob_taped ob_five ob_size ob_at ob_from ob_token ob_value ob_faultKind ob_faultPlace ob_fresh ob_parts ob_houses ob_houseMany ob_worthOf ob_byCall ob_over ob_bestSet ob_bestOver ob_bestWorth ob_row ob_tenDebts ob_tenMany ob_fewestBy ob_covered ob_queue ob_cameBy ob_parent ob_met ob_calls ob_callMany ob_calledOn ob_saved ob_many ob_width ob_numbers ob_moving)] sz) := by
  refine Met.ofW (cc := cX10_paste) (maxL := 7) (ret := (some .int)) (by decide) rfl ?_
  intro p e s m args below meth c s₁ B hml hv
  obtain ⟨rfl, hsz, hP, hK, hD0⟩ := hv
  have hx := B.exec
  have hb := B.bytes
  have hr := B.returns
  have hw0 : ∀ w ∈ wAll, w.before _ s = true := fun w h => atoms_spec (ws := Cond.code yX10_paste cX10_paste 7 (some .int) :: wAll) B.pre w (List.mem_cons_of_mem _ h)
  have hown : s.vm.findClass RX10 = some m.cls := findClass_of_methodNamed B.named
  subst hsz
  have hD := hD0.self (sz := s.heap.size)
  generalize hAe : va_A [(ce_X10 ob ob_thrown ob_world ob_images ob_hasImage ob_tape ob_taped ob_five ob_size ob_at ob_from ob_token ob_value ob_faultKind ob_faultPlace ob_fresh ob_parts ob_houses ob_houseMany ob_worthOf ob_byCall ob_over ob_bestSet ob_bestOver ob_bestWorth ob_row ob_tenDebts ob_tenMany ob_fewestBy ob_covered ob_queue ob_cameBy ob_parent ob_met ob_calls ob_callMany ob_calledOn ob_saved ob_many ob_width ob_numbers ob_moving)] s.heap.size = A at hD ⊢
  have hA : ∀ q : Nat, s.heap.size ≤ q → A q := fun q h => by rw [← hAe]; exact Or.inr h
  have hS : va_S A s.heap s.heap [] := va_S.rf
  have hP : va_P G vwCl [(ce_X10 ob ob_thrown ob_world ob_images ob_hasImage ob_tape ob_taped ob_five ob_size ob_at ob_from ob_token ob_value ob_faultKind ob_faultPlace ob_fresh ob_parts ob_houses ob_houseMany ob_worthOf ob_byCall ob_over ob_bestSet ob_bestOver ob_bestWorth ob_row ob_tenDebts ob_tenMany ob_fewestBy ob_covered ob_queue ob_cameBy ob_parent ob_met ob_calls ob_callMany ob_calledOn ob_saved ob_many ob_width ob_numbers ob_moving)] s.heap := hP
  have hl := lv_entry ([.ref ob, .int a1, .int a2, .int a3, .int a4, .int a5]) (n := 7) (Nat.le_of_ble_eq_true rfl)
  rw [lg_entry_eq]
  generalize (lg_sl ([.ref ob, .int a1, .int a2, .int a3, .int a4, .int a5]) ++ List.replicate (7 - (lg_sl ([.ref ob, .int a1, .int a2, .int a3, .int a4, .int a5])).length) Slot.unset).toArray = ls at hl ⊢
  have hl : lv_has ls 7 [(0, .ref ob), (1, .int a1), (2, .int a2), (3, .int a3), (4, .int a4), (5, .int a5)] := hl
  refine lv_iload_n hx hb dX10_paste_0 rfl (lv_at hl 1 rfl) ?_
  refine cutW 14 (fun H locs ls st => st = [] ∧ vPD G A H [(ce_X10 ob ob_thrown ob_world ob_images ob_hasImage ob_tape ob_taped ob_five ob_size ob_at ob_from ob_token ob_value ob_faultKind ob_faultPlace ob_fresh ob_parts ob_houses ob_houseMany ob_worthOf ob_byCall ob_over ob_bestSet ob_bestOver ob_bestWorth ob_row ob_tenDebts ob_tenMany ob_fewestBy ob_covered ob_queue ob_cameBy ob_parent ob_met ob_calls ob_callMany ob_calledOn ob_saved ob_many ob_width ob_numbers ob_moving)] ∧ va_S A s.heap H locs ∧ lv_has ls 7 []) ?_ (fun J_14_1005 => ?_)
  · rintro H locs ls st ⟨rfl, ⟨hP, hD⟩, hS, hl⟩
    refine lv_bipush (v := (-2)) hx hb dX10_paste_14 (by decide) ?_
    exact W.iret (v := (-2)) hx hb hr (fun t ht hW => ⟨⟨(-2), _, rfl, ⟨rfl, rfl⟩, by rw [ht]; exact hP, hD⟩, hS.F ht⟩) hS.2.2 dX10_paste_16
  · skip
    refine cSim (As := [.int a1]) (rest := []) ⟨hx, hb, hml, hown, hw0⟩ hA hK hP hD hS [] (fisSlotM l G y _ a1 ) rfl ⟨(callB_of 1 hw0 (gA m_543) rfl rfl rfl (hw0 _ m_41) (hw0 _ m_433) cb_X10_isSlot ⟨Nat.le_of_ble_eq_true rfl, Nat.le_of_ble_eq_true rfl⟩), (hw0 _ m_434)⟩ rfl hl.1 (Nat.le_of_ble_eq_true rfl) dX10_paste_1 ⟨Nat.le_of_ble_eq_true rfl, Nat.le_of_ble_eq_true rfl⟩ (fun r_1006 w_1006 H locs hw_1006 hP hD hS => ?_)
    rcases hw_1006 with ⟨h_1007, rfl, rfl⟩ | ⟨h_1008, h_1009, rfl, rfl⟩
    · skip
      obtain ⟨hP, hD⟩ : vPD G A H [(ce_X10 ob ob_thrown ob_world ob_images ob_hasImage ob_tape ob_taped ob_five ob_size ob_at ob_from ob_token ob_value ob_faultKind ob_faultPlace ob_fresh ob_parts ob_houses ob_houseMany ob_worthOf ob_byCall ob_over ob_bestSet ob_bestOver ob_bestWorth ob_row ob_tenDebts ob_tenMany ob_fewestBy ob_covered ob_queue ob_cameBy ob_parent ob_met ob_calls ob_callMany ob_calledOn ob_saved ob_many ob_width ob_numbers ob_moving)] := ⟨hP, hD⟩
      refine lv_if_eq (tgt := 14) hx hb dX10_paste_4 (by decide) (fun _ => ?_) (fun c9 => absurd (by decide) c9)
      exact J_14_1005 _ _ _ _ ⟨rfl, ⟨hP, hD⟩, hS, lv_sub hl [] rfl⟩
    · skip
      have h_1010 := b_in p_a1 h_1008
      exact absurd (Int.le_trans (h_1010).1 (h_1010).2) (by decide)

set_option maxHeartbeats 4000000 in
set_option maxRecDepth 100000 in
theorem spasteMTlo (l : Launch) (G : va_G) (y : Nat → ClassId) (sz : Nat) (ob : Nat) (a1 : Int32) (a2 : Int32) (a3 : Int32) (a4 : Int32) (a5 : Int32) (ob_thrown : Int32) (ob_world : Nat) (ob_images : Nat) (ob_hasImage : Nat) (ob_tape : Nat) (ob_taped : Int32) (ob_five : Nat) (ob_size : Int32) (ob_at : Int32) (ob_from : Int32) (ob_token : Int32) (ob_value : Int32) (ob_faultKind : Int32) (ob_faultPlace : Int32) (ob_fresh : Nat) (ob_parts : Nat) (ob_houses : Nat) (ob_houseMany : Int32) (ob_worthOf : Nat) (ob_byCall : Nat) (ob_over : Nat) (ob_bestSet : Int32) (ob_bestOver : Int32) (ob_bestWorth : Int32) (ob_row : Nat) (ob_tenDebts : Nat) (ob_tenMany : Int32) (ob_fewestBy : Nat) (ob_covered : Nat) (ob_queue : Nat) (ob_cameBy : Nat) (ob_parent : Nat) (ob_met : Nat) (ob_calls : Nat) (ob_callMany : Int32) (ob_calledOn : Nat) (ob_saved : Nat) (ob_many : Nat) (ob_width : Nat) (ob_numbers : Nat) (ob_moving : Nat) (p_ob_taped : (0 : Int) ≤ ob_taped.toInt ∧ ob_taped.toInt ≤ 1400) (p_ob_size : (0 : Int) ≤ ob_size.toInt ∧ ob_size.toInt ≤ 1400) (p_ob_at : (0 : Int) ≤ ob_at.toInt ∧ ob_at.toInt ≤ 1400) (p_ob_from : (0 : Int) ≤ ob_from.toInt ∧ ob_from.toInt ≤ 1400) (p_ob_token : (0 : Int) ≤ ob_token.toInt ∧ ob_token.toInt ≤ 4) (p_ob_value : (0 : Int) ≤ ob_value.toInt ∧ ob_value.toInt ≤ 9999) (p_ob_faultKind : (0 : Int) ≤ ob_faultKind.toInt ∧ ob_faultKind.toInt ≤ 3) (p_ob_houseMany : (0 : Int) ≤ ob_houseMany.toInt ∧ ob_houseMany.toInt ≤ 10) (p_ob_bestSet : (0 : Int) ≤ ob_bestSet.toInt ∧ ob_bestSet.toInt ≤ 1023) (p_ob_bestOver : (-1 : Int) ≤ ob_bestOver.toInt ∧ ob_bestOver.toInt ≤ 180) (p_ob_tenMany : (0 : Int) ≤ ob_tenMany.toInt ∧ ob_tenMany.toInt ≤ 10) (p_ob_callMany : (0 : Int) ≤ ob_callMany.toInt ∧ ob_callMany.toInt ≤ 16) (p_a1 : (0 : Int) ≤ a1.toInt ∧ a1.toInt ≤ 3) (p_a3 : (-2147483648 : Int) ≤ a3.toInt ∧ a3.toInt ≤ -1) : Met l yX10_paste (Cond.code yX10_paste cX10_paste 7 (some .int) :: wAll) ({ frames := 2, cells := 0, slots := 0, locals := 45 }) (va_Pc [.ref ob, .int a1, .int a2, .int a3, .int a4, .int a5] (kp G y sz [(ce_X10 ob ob_thrown ob_world ob_images ob_hasImage ob_tape ob_taped ob_five ob_size ob_at ob_from ob_token ob_value ob_faultKind ob_faultPlace ob_fresh ob_parts ob_houses ob_houseMany ob_worthOf ob_byCall ob_over ob_bestSet ob_bestOver ob_bestWorth ob_row ob_tenDebts ob_tenMany ob_fewestBy ob_covered ob_queue ob_cameBy ob_parent ob_met ob_calls ob_callMany ob_calledOn ob_saved ob_many ob_width ob_numbers ob_moving)])) (va_Qi (fun (r : Int32) (w : va_W) => (r = (-2) ∧ w = [(ce_X10 ob ob_thrown ob_world ob_images ob_hasImage ob_tape ob_taped ob_five ob_size ob_at ob_from ob_token ob_value ob_faultKind ob_faultPlace ob_fresh ob_parts ob_houses ob_houseMany ob_worthOf ob_byCall ob_over ob_bestSet ob_bestOver ob_bestWorth ob_row ob_tenDebts ob_tenMany ob_fewestBy ob_covered ob_queue ob_cameBy ob_parent ob_met ob_calls ob_callMany ob_calledOn ob_saved ob_many ob_width ob_numbers ob_moving)])) (kq G (va_A [(ce_X10 ob ob_thrown ob_world ob_images ob_hasImage ob_tape ob_taped ob_five ob_size ob_at ob_from ob_token ob_value ob_faultKind ob_faultPlace ob_fresh ob_parts ob_houses ob_houseMany ob_worthOf ob_byCall ob_over ob_bestSet ob_bestOver ob_bestWorth ob_row ob_tenDebts ob_tenMany ob_fewestBy ob_covered ob_queue ob_cameBy ob_parent ob_met ob_calls ob_callMany ob_calledOn ob_saved ob_many ob_width ob_numbers ob_moving)] sz)) (va_A [(ce_X10 ob ob_thrown ob_world ob_images ob_hasImage ob_tape ob_taped ob_five ob_size ob_at ob_from ob_token ob_value ob_faultKind ob_faultPlace ob_fresh ob_parts ob_houses ob_houseMany ob_worthOf ob_byCall ob_over ob_bestSet ob_bestOver ob_bestWorth ob_row ob_tenDebts ob_tenMany ob_fewestBy ob_covered ob_queue ob_cameBy ob_parent ob_met ob_calls ob_callMany ob_calledOn ob_saved ob_many ob_width ob_numbers ob_moving)] sz)) 0 0 (va_A [(ce_X10 ob ob_thrown ob_world ob_images ob_hasImage ob_tape ob_taped ob_five ob_size ob_at ob_from ob_token ob_value ob_faultKind ob_faultPlace ob_fresh ob_parts ob_houses ob_houseMany ob_worthOf ob_byCall ob_over ob_bestSet ob_bestOver ob_bestWorth ob_row ob_tenDebts ob_tenMany ob_fewestBy ob_covered ob_queue ob_cameBy ob_parent ob_met ob_calls ob_callMany ob_calledOn ob_saved ob_many ob_width ob_numbers ob_moving)] sz) := by
  refine Met.ofW (cc := cX10_paste) (maxL := 7) (ret := (some .int)) (by decide) rfl ?_
  intro p e s m args below meth c s₁ B hml hv
  obtain ⟨rfl, hsz, hP, hK, hD0⟩ := hv
  have hx := B.exec
  have hb := B.bytes
  have hr := B.returns
  have hw0 : ∀ w ∈ wAll, w.before _ s = true := fun w h => atoms_spec (ws := Cond.code yX10_paste cX10_paste 7 (some .int) :: wAll) B.pre w (List.mem_cons_of_mem _ h)
  have hown : s.vm.findClass RX10 = some m.cls := findClass_of_methodNamed B.named
  subst hsz
  have hD := hD0.self (sz := s.heap.size)
  generalize hAe : va_A [(ce_X10 ob ob_thrown ob_world ob_images ob_hasImage ob_tape ob_taped ob_five ob_size ob_at ob_from ob_token ob_value ob_faultKind ob_faultPlace ob_fresh ob_parts ob_houses ob_houseMany ob_worthOf ob_byCall ob_over ob_bestSet ob_bestOver ob_bestWorth ob_row ob_tenDebts ob_tenMany ob_fewestBy ob_covered ob_queue ob_cameBy ob_parent ob_met ob_calls ob_callMany ob_calledOn ob_saved ob_many ob_width ob_numbers ob_moving)] s.heap.size = A at hD ⊢
  have hA : ∀ q : Nat, s.heap.size ≤ q → A q := fun q h => by rw [← hAe]; exact Or.inr h
  have hS : va_S A s.heap s.heap [] := va_S.rf
  have hP : va_P G vwCl [(ce_X10 ob ob_thrown ob_world ob_images ob_hasImage ob_tape ob_taped ob_five ob_size ob_at ob_from ob_token ob_value ob_faultKind ob_faultPlace ob_fresh ob_parts ob_houses ob_houseMany ob_worthOf ob_byCall ob_over ob_bestSet ob_bestOver ob_bestWorth ob_row ob_tenDebts ob_tenMany ob_fewestBy ob_covered ob_queue ob_cameBy ob_parent ob_met ob_calls ob_callMany ob_calledOn ob_saved ob_many ob_width ob_numbers ob_moving)] s.heap := hP
  have hl := lv_entry ([.ref ob, .int a1, .int a2, .int a3, .int a4, .int a5]) (n := 7) (Nat.le_of_ble_eq_true rfl)
  rw [lg_entry_eq]
  generalize (lg_sl ([.ref ob, .int a1, .int a2, .int a3, .int a4, .int a5]) ++ List.replicate (7 - (lg_sl ([.ref ob, .int a1, .int a2, .int a3, .int a4, .int a5])).length) Slot.unset).toArray = ls at hl ⊢
  have hl : lv_has ls 7 [(0, .ref ob), (1, .int a1), (2, .int a2), (3, .int a3), (4, .int a4), (5, .int a5)] := hl
  refine lv_iload_n hx hb dX10_paste_0 rfl (lv_at hl 1 rfl) ?_
  refine cutW 14 (fun H locs ls st => st = [] ∧ vPD G A H [(ce_X10 ob ob_thrown ob_world ob_images ob_hasImage ob_tape ob_taped ob_five ob_size ob_at ob_from ob_token ob_value ob_faultKind ob_faultPlace ob_fresh ob_parts ob_houses ob_houseMany ob_worthOf ob_byCall ob_over ob_bestSet ob_bestOver ob_bestWorth ob_row ob_tenDebts ob_tenMany ob_fewestBy ob_covered ob_queue ob_cameBy ob_parent ob_met ob_calls ob_callMany ob_calledOn ob_saved ob_many ob_width ob_numbers ob_moving)] ∧ va_S A s.heap H locs ∧ lv_has ls 7 []) ?_ (fun J_14_1009 => ?_)
  · rintro H locs ls st ⟨rfl, ⟨hP, hD⟩, hS, hl⟩
    refine lv_bipush (v := (-2)) hx hb dX10_paste_14 (by decide) ?_
    exact W.iret (v := (-2)) hx hb hr (fun t ht hW => ⟨⟨(-2), _, rfl, ⟨rfl, rfl⟩, by rw [ht]; exact hP, hD⟩, hS.F ht⟩) hS.2.2 dX10_paste_16
  · skip
    refine cSim (As := [.int a1]) (rest := []) ⟨hx, hb, hml, hown, hw0⟩ hA hK hP hD hS [] (fisSlotM l G y _ a1 ) rfl ⟨(callB_of 1 hw0 (gA m_543) rfl rfl rfl (hw0 _ m_41) (hw0 _ m_433) cb_X10_isSlot ⟨Nat.le_of_ble_eq_true rfl, Nat.le_of_ble_eq_true rfl⟩), (hw0 _ m_434)⟩ rfl hl.1 (Nat.le_of_ble_eq_true rfl) dX10_paste_1 ⟨Nat.le_of_ble_eq_true rfl, Nat.le_of_ble_eq_true rfl⟩ (fun r_1010 w_1010 H locs hw_1010 hP hD hS => ?_)
    rcases hw_1010 with ⟨h_1011, rfl, rfl⟩ | ⟨h_1012, h_1013, rfl, rfl⟩
    · skip
      obtain ⟨hP, hD⟩ : vPD G A H [(ce_X10 ob ob_thrown ob_world ob_images ob_hasImage ob_tape ob_taped ob_five ob_size ob_at ob_from ob_token ob_value ob_faultKind ob_faultPlace ob_fresh ob_parts ob_houses ob_houseMany ob_worthOf ob_byCall ob_over ob_bestSet ob_bestOver ob_bestWorth ob_row ob_tenDebts ob_tenMany ob_fewestBy ob_covered ob_queue ob_cameBy ob_parent ob_met ob_calls ob_callMany ob_calledOn ob_saved ob_many ob_width ob_numbers ob_moving)] := ⟨hP, hD⟩
      refine lv_if_eq (tgt := 14) hx hb dX10_paste_4 (by decide) (fun _ => ?_) (fun c9 => absurd (by decide) c9)
      exact J_14_1009 _ _ _ _ ⟨rfl, ⟨hP, hD⟩, hS, lv_sub hl [] rfl⟩
    · skip
      obtain ⟨hP, hD⟩ : vPD G A H [(ce_X10 ob ob_thrown ob_world ob_images ob_hasImage ob_tape ob_taped ob_five ob_size ob_at ob_from ob_token ob_value ob_faultKind ob_faultPlace ob_fresh ob_parts ob_houses ob_houseMany ob_worthOf ob_byCall ob_over ob_bestSet ob_bestOver ob_bestWorth ob_row ob_tenDebts ob_tenMany ob_fewestBy ob_covered ob_queue ob_cameBy ob_parent ob_met ob_calls ob_callMany ob_calledOn ob_saved ob_many ob_width ob_numbers ob_moving)] := ⟨hP, hD⟩
      refine lv_if_eq (tgt := 14) hx hb dX10_paste_4 (by decide) (fun c9 => absurd c9 (by decide)) (fun _ => ?_)
      refine lv_iload_n hx hb dX10_paste_7 rfl (lv_at hl 3 rfl) ?_
      refine cSim (As := [.int a3]) (rest := []) ⟨hx, hb, hml, hown, hw0⟩ hA hK hP hD hS [] (fisSlotM l G y _ a3 ) rfl ⟨(callB_of 1 hw0 (gA m_543) rfl rfl rfl (hw0 _ m_41) (hw0 _ m_433) cb_X10_isSlot ⟨Nat.le_of_ble_eq_true rfl, Nat.le_of_ble_eq_true rfl⟩), (hw0 _ m_434)⟩ rfl hl.1 (Nat.le_of_ble_eq_true rfl) dX10_paste_8 ⟨Nat.le_of_ble_eq_true rfl, Nat.le_of_ble_eq_true rfl⟩ (fun r_1014 w_1014 H locs hw_1014 hP hD hS => ?_)
      rcases hw_1014 with ⟨h_1015, rfl, rfl⟩ | ⟨h_1016, h_1017, rfl, rfl⟩
      · skip
        obtain ⟨hP, hD⟩ : vPD G A H [(ce_X10 ob ob_thrown ob_world ob_images ob_hasImage ob_tape ob_taped ob_five ob_size ob_at ob_from ob_token ob_value ob_faultKind ob_faultPlace ob_fresh ob_parts ob_houses ob_houseMany ob_worthOf ob_byCall ob_over ob_bestSet ob_bestOver ob_bestWorth ob_row ob_tenDebts ob_tenMany ob_fewestBy ob_covered ob_queue ob_cameBy ob_parent ob_met ob_calls ob_callMany ob_calledOn ob_saved ob_many ob_width ob_numbers ob_moving)] := ⟨hP, hD⟩
        refine lv_if_ne (tgt := 17) hx hb dX10_paste_11 (by decide) (fun c9 => absurd (by decide) c9) (fun _ => ?_)
        exact J_14_1009 _ _ _ _ ⟨rfl, ⟨hP, hD⟩, hS, lv_sub hl [] rfl⟩
      · skip
        have h_1018 := b_in p_a3 h_1016
        exact absurd (Int.le_trans (h_1018).1 (h_1018).2) (by decide)

set_option maxHeartbeats 4000000 in
set_option maxRecDepth 100000 in
theorem spasteMhi (l : Launch) (G : va_G) (y : Nat → ClassId) (sz : Nat) (ob : Nat) (a1 : Int32) (a2 : Int32) (a3 : Int32) (a4 : Int32) (a5 : Int32) (ob_thrown : Int32) (ob_world : Nat) (ob_images : Nat) (ob_hasImage : Nat) (ob_tape : Nat) (ob_taped : Int32) (ob_five : Nat) (ob_size : Int32) (ob_at : Int32) (ob_from : Int32) (ob_token : Int32) (ob_value : Int32) (ob_faultKind : Int32) (ob_faultPlace : Int32) (ob_fresh : Nat) (ob_parts : Nat) (ob_houses : Nat) (ob_houseMany : Int32) (ob_worthOf : Nat) (ob_byCall : Nat) (ob_over : Nat) (ob_bestSet : Int32) (ob_bestOver : Int32) (ob_bestWorth : Int32) (ob_row : Nat) (ob_tenDebts : Nat) (ob_tenMany : Int32) (ob_fewestBy : Nat) (ob_covered : Nat) (ob_queue : Nat) (ob_cameBy : Nat) (ob_parent : Nat) (ob_met : Nat) (ob_calls : Nat) (ob_callMany : Int32) (ob_calledOn : Nat) (ob_saved : Nat) (ob_many : Nat) (ob_width : Nat) (ob_numbers : Nat) (ob_moving : Nat) (p_ob_taped : (0 : Int) ≤ ob_taped.toInt ∧ ob_taped.toInt ≤ 1400) (p_ob_size : (0 : Int) ≤ ob_size.toInt ∧ ob_size.toInt ≤ 1400) (p_ob_at : (0 : Int) ≤ ob_at.toInt ∧ ob_at.toInt ≤ 1400) (p_ob_from : (0 : Int) ≤ ob_from.toInt ∧ ob_from.toInt ≤ 1400) (p_ob_token : (0 : Int) ≤ ob_token.toInt ∧ ob_token.toInt ≤ 4) (p_ob_value : (0 : Int) ≤ ob_value.toInt ∧ ob_value.toInt ≤ 9999) (p_ob_faultKind : (0 : Int) ≤ ob_faultKind.toInt ∧ ob_faultKind.toInt ≤ 3) (p_ob_houseMany : (0 : Int) ≤ ob_houseMany.toInt ∧ ob_houseMany.toInt ≤ 10) (p_ob_bestSet : (0 : Int) ≤ ob_bestSet.toInt ∧ ob_bestSet.toInt ≤ 1023) (p_ob_bestOver : (-1 : Int) ≤ ob_bestOver.toInt ∧ ob_bestOver.toInt ≤ 180) (p_ob_tenMany : (0 : Int) ≤ ob_tenMany.toInt ∧ ob_tenMany.toInt ≤ 10) (p_ob_callMany : (0 : Int) ≤ ob_callMany.toInt ∧ ob_callMany.toInt ≤ 16) (p_a1 : (4 : Int) ≤ a1.toInt ∧ a1.toInt ≤ 2147483647) : Met l yX10_paste (Cond.code yX10_paste cX10_paste 7 (some .int) :: wAll) ({ frames := 2, cells := 0, slots := 0, locals := 45 }) (va_Pc [.ref ob, .int a1, .int a2, .int a3, .int a4, .int a5] (kp G y sz [(ce_X10 ob ob_thrown ob_world ob_images ob_hasImage ob_tape ob_taped ob_five ob_size ob_at ob_from ob_token ob_value ob_faultKind ob_faultPlace ob_fresh ob_parts ob_houses ob_houseMany ob_worthOf ob_byCall ob_over ob_bestSet ob_bestOver ob_bestWorth ob_row ob_tenDebts ob_tenMany ob_fewestBy ob_covered ob_queue ob_cameBy ob_parent ob_met ob_calls ob_callMany ob_calledOn ob_saved ob_many ob_width ob_numbers ob_moving)])) (va_Qi (fun (r : Int32) (w : va_W) => (r = (-2) ∧ w = [(ce_X10 ob ob_thrown ob_world ob_images ob_hasImage ob_tape ob_taped ob_five ob_size ob_at ob_from ob_token ob_value ob_faultKind ob_faultPlace ob_fresh ob_parts ob_houses ob_houseMany ob_worthOf ob_byCall ob_over ob_bestSet ob_bestOver ob_bestWorth ob_row ob_tenDebts ob_tenMany ob_fewestBy ob_covered ob_queue ob_cameBy ob_parent ob_met ob_calls ob_callMany ob_calledOn ob_saved ob_many ob_width ob_numbers ob_moving)])) (kq G (va_A [(ce_X10 ob ob_thrown ob_world ob_images ob_hasImage ob_tape ob_taped ob_five ob_size ob_at ob_from ob_token ob_value ob_faultKind ob_faultPlace ob_fresh ob_parts ob_houses ob_houseMany ob_worthOf ob_byCall ob_over ob_bestSet ob_bestOver ob_bestWorth ob_row ob_tenDebts ob_tenMany ob_fewestBy ob_covered ob_queue ob_cameBy ob_parent ob_met ob_calls ob_callMany ob_calledOn ob_saved ob_many ob_width ob_numbers ob_moving)] sz)) (va_A [(ce_X10 ob ob_thrown ob_world ob_images ob_hasImage ob_tape ob_taped ob_five ob_size ob_at ob_from ob_token ob_value ob_faultKind ob_faultPlace ob_fresh ob_parts ob_houses ob_houseMany ob_worthOf ob_byCall ob_over ob_bestSet ob_bestOver ob_bestWorth ob_row ob_tenDebts ob_tenMany ob_fewestBy ob_covered ob_queue ob_cameBy ob_parent ob_met ob_calls ob_callMany ob_calledOn ob_saved ob_many ob_width ob_numbers ob_moving)] sz)) 0 0 (va_A [(ce_X10 ob ob_thrown ob_world ob_images ob_hasImage ob_tape ob_taped ob_five ob_size ob_at ob_from ob_token ob_value ob_faultKind ob_faultPlace ob_fresh ob_parts ob_houses ob_houseMany ob_worthOf ob_byCall ob_over ob_bestSet ob_bestOver ob_bestWorth ob_row ob_tenDebts ob_tenMany ob_fewestBy ob_covered ob_queue ob_cameBy ob_parent ob_met ob_calls ob_callMany ob_calledOn ob_saved ob_many ob_width ob_numbers ob_moving)] sz) := by
  refine Met.ofW (cc := cX10_paste) (maxL := 7) (ret := (some .int)) (by decide) rfl ?_
  intro p e s m args below meth c s₁ B hml hv
  obtain ⟨rfl, hsz, hP, hK, hD0⟩ := hv
  have hx := B.exec
  have hb := B.bytes
  have hr := B.returns
  have hw0 : ∀ w ∈ wAll, w.before _ s = true := fun w h => atoms_spec (ws := Cond.code yX10_paste cX10_paste 7 (some .int) :: wAll) B.pre w (List.mem_cons_of_mem _ h)
  have hown : s.vm.findClass RX10 = some m.cls := findClass_of_methodNamed B.named
  subst hsz
  have hD := hD0.self (sz := s.heap.size)
  generalize hAe : va_A [(ce_X10 ob ob_thrown ob_world ob_images ob_hasImage ob_tape ob_taped ob_five ob_size ob_at ob_from ob_token ob_value ob_faultKind ob_faultPlace ob_fresh ob_parts ob_houses ob_houseMany ob_worthOf ob_byCall ob_over ob_bestSet ob_bestOver ob_bestWorth ob_row ob_tenDebts ob_tenMany ob_fewestBy ob_covered ob_queue ob_cameBy ob_parent ob_met ob_calls ob_callMany ob_calledOn ob_saved ob_many ob_width ob_numbers ob_moving)] s.heap.size = A at hD ⊢
  have hA : ∀ q : Nat, s.heap.size ≤ q → A q := fun q h => by rw [← hAe]; exact Or.inr h
  have hS : va_S A s.heap s.heap [] := va_S.rf
  have hP : va_P G vwCl [(ce_X10 ob ob_thrown ob_world ob_images ob_hasImage ob_tape ob_taped ob_five ob_size ob_at ob_from ob_token ob_value ob_faultKind ob_faultPlace ob_fresh ob_parts ob_houses ob_houseMany ob_worthOf ob_byCall ob_over ob_bestSet ob_bestOver ob_bestWorth ob_row ob_tenDebts ob_tenMany ob_fewestBy ob_covered ob_queue ob_cameBy ob_parent ob_met ob_calls ob_callMany ob_calledOn ob_saved ob_many ob_width ob_numbers ob_moving)] s.heap := hP
  have hl := lv_entry ([.ref ob, .int a1, .int a2, .int a3, .int a4, .int a5]) (n := 7) (Nat.le_of_ble_eq_true rfl)
  rw [lg_entry_eq]
  generalize (lg_sl ([.ref ob, .int a1, .int a2, .int a3, .int a4, .int a5]) ++ List.replicate (7 - (lg_sl ([.ref ob, .int a1, .int a2, .int a3, .int a4, .int a5])).length) Slot.unset).toArray = ls at hl ⊢
  have hl : lv_has ls 7 [(0, .ref ob), (1, .int a1), (2, .int a2), (3, .int a3), (4, .int a4), (5, .int a5)] := hl
  refine lv_iload_n hx hb dX10_paste_0 rfl (lv_at hl 1 rfl) ?_
  refine cutW 14 (fun H locs ls st => st = [] ∧ vPD G A H [(ce_X10 ob ob_thrown ob_world ob_images ob_hasImage ob_tape ob_taped ob_five ob_size ob_at ob_from ob_token ob_value ob_faultKind ob_faultPlace ob_fresh ob_parts ob_houses ob_houseMany ob_worthOf ob_byCall ob_over ob_bestSet ob_bestOver ob_bestWorth ob_row ob_tenDebts ob_tenMany ob_fewestBy ob_covered ob_queue ob_cameBy ob_parent ob_met ob_calls ob_callMany ob_calledOn ob_saved ob_many ob_width ob_numbers ob_moving)] ∧ va_S A s.heap H locs ∧ lv_has ls 7 []) ?_ (fun J_14_1005 => ?_)
  · rintro H locs ls st ⟨rfl, ⟨hP, hD⟩, hS, hl⟩
    refine lv_bipush (v := (-2)) hx hb dX10_paste_14 (by decide) ?_
    exact W.iret (v := (-2)) hx hb hr (fun t ht hW => ⟨⟨(-2), _, rfl, ⟨rfl, rfl⟩, by rw [ht]; exact hP, hD⟩, hS.F ht⟩) hS.2.2 dX10_paste_16
  · skip
    refine cSim (As := [.int a1]) (rest := []) ⟨hx, hb, hml, hown, hw0⟩ hA hK hP hD hS [] (fisSlotM l G y _ a1 ) rfl ⟨(callB_of 1 hw0 (gA m_543) rfl rfl rfl (hw0 _ m_41) (hw0 _ m_433) cb_X10_isSlot ⟨Nat.le_of_ble_eq_true rfl, Nat.le_of_ble_eq_true rfl⟩), (hw0 _ m_434)⟩ rfl hl.1 (Nat.le_of_ble_eq_true rfl) dX10_paste_1 ⟨Nat.le_of_ble_eq_true rfl, Nat.le_of_ble_eq_true rfl⟩ (fun r_1006 w_1006 H locs hw_1006 hP hD hS => ?_)
    rcases hw_1006 with ⟨h_1007, rfl, rfl⟩ | ⟨h_1008, h_1009, rfl, rfl⟩
    · skip
      obtain ⟨hP, hD⟩ : vPD G A H [(ce_X10 ob ob_thrown ob_world ob_images ob_hasImage ob_tape ob_taped ob_five ob_size ob_at ob_from ob_token ob_value ob_faultKind ob_faultPlace ob_fresh ob_parts ob_houses ob_houseMany ob_worthOf ob_byCall ob_over ob_bestSet ob_bestOver ob_bestWorth ob_row ob_tenDebts ob_tenMany ob_fewestBy ob_covered ob_queue ob_cameBy ob_parent ob_met ob_calls ob_callMany ob_calledOn ob_saved ob_many ob_width ob_numbers ob_moving)] := ⟨hP, hD⟩
      refine lv_if_eq (tgt := 14) hx hb dX10_paste_4 (by decide) (fun _ => ?_) (fun c9 => absurd (by decide) c9)
      exact J_14_1005 _ _ _ _ ⟨rfl, ⟨hP, hD⟩, hS, lv_sub hl [] rfl⟩
    · skip
      have h_1010 := b_in p_a1 h_1008
      exact absurd (Int.le_trans (h_1010).1 (h_1010).2) (by decide)

set_option maxHeartbeats 4000000 in
set_option maxRecDepth 100000 in
theorem spasteMThi (l : Launch) (G : va_G) (y : Nat → ClassId) (sz : Nat) (ob : Nat) (a1 : Int32) (a2 : Int32) (a3 : Int32) (a4 : Int32) (a5 : Int32) (ob_thrown : Int32) (ob_world : Nat) (ob_images : Nat) (ob_hasImage : Nat) (ob_tape : Nat) (ob_taped : Int32) (ob_five : Nat) (ob_size : Int32) (ob_at : Int32) (ob_from : Int32) (ob_token : Int32) (ob_value : Int32) (ob_faultKind : Int32) (ob_faultPlace : Int32) (ob_fresh : Nat) (ob_parts : Nat) (ob_houses : Nat) (ob_houseMany : Int32) (ob_worthOf : Nat) (ob_byCall : Nat) (ob_over : Nat) (ob_bestSet : Int32) (ob_bestOver : Int32) (ob_bestWorth : Int32) (ob_row : Nat) (ob_tenDebts : Nat) (ob_tenMany : Int32) (ob_fewestBy : Nat) (ob_covered : Nat) (ob_queue : Nat) (ob_cameBy : Nat) (ob_parent : Nat) (ob_met : Nat) (ob_calls : Nat) (ob_callMany : Int32) (ob_calledOn : Nat) (ob_saved : Nat) (ob_many : Nat) (ob_width : Nat) (ob_numbers : Nat) (ob_moving : Nat) (p_ob_taped : (0 : Int) ≤ ob_taped.toInt ∧ ob_taped.toInt ≤ 1400) (p_ob_size : (0 : Int) ≤ ob_size.toInt ∧ ob_size.toInt ≤ 1400) (p_ob_at : (0 : Int) ≤ ob_at.toInt ∧ ob_at.toInt ≤ 1400) (p_ob_from : (0 : Int) ≤ ob_from.toInt ∧ ob_from.toInt ≤ 1400) (p_ob_token : (0 : Int) ≤ ob_token.toInt ∧ ob_token.toInt ≤ 4) (p_ob_value : (0 : Int) ≤ ob_value.toInt ∧ ob_value.toInt ≤ 9999) (p_ob_faultKind : (0 : Int) ≤ ob_faultKind.toInt ∧ ob_faultKind.toInt ≤ 3) (p_ob_houseMany : (0 : Int) ≤ ob_houseMany.toInt ∧ ob_houseMany.toInt ≤ 10) (p_ob_bestSet : (0 : Int) ≤ ob_bestSet.toInt ∧ ob_bestSet.toInt ≤ 1023) (p_ob_bestOver : (-1 : Int) ≤ ob_bestOver.toInt ∧ ob_bestOver.toInt ≤ 180) (p_ob_tenMany : (0 : Int) ≤ ob_tenMany.toInt ∧ ob_tenMany.toInt ≤ 10) (p_ob_callMany : (0 : Int) ≤ ob_callMany.toInt ∧ ob_callMany.toInt ≤ 16) (p_a1 : (0 : Int) ≤ a1.toInt ∧ a1.toInt ≤ 3) (p_a3 : (4 : Int) ≤ a3.toInt ∧ a3.toInt ≤ 2147483647) : Met l yX10_paste (Cond.code yX10_paste cX10_paste 7 (some .int) :: wAll) ({ frames := 2, cells := 0, slots := 0, locals := 45 }) (va_Pc [.ref ob, .int a1, .int a2, .int a3, .int a4, .int a5] (kp G y sz [(ce_X10 ob ob_thrown ob_world ob_images ob_hasImage ob_tape ob_taped ob_five ob_size ob_at ob_from ob_token ob_value ob_faultKind ob_faultPlace ob_fresh ob_parts ob_houses ob_houseMany ob_worthOf ob_byCall ob_over ob_bestSet ob_bestOver ob_bestWorth ob_row ob_tenDebts ob_tenMany ob_fewestBy ob_covered ob_queue ob_cameBy ob_parent ob_met ob_calls ob_callMany ob_calledOn ob_saved ob_many ob_width ob_numbers ob_moving)])) (va_Qi (fun (r : Int32) (w : va_W) => (r = (-2) ∧ w = [(ce_X10 ob ob_thrown ob_world ob_images ob_hasImage ob_tape ob_taped ob_five ob_size ob_at ob_from ob_token ob_value ob_faultKind ob_faultPlace ob_fresh ob_parts ob_houses ob_houseMany ob_worthOf ob_byCall ob_over ob_bestSet ob_bestOver ob_bestWorth ob_row ob_tenDebts ob_tenMany ob_fewestBy ob_covered ob_queue ob_cameBy ob_parent ob_met ob_calls ob_callMany ob_calledOn ob_saved ob_many ob_width ob_numbers ob_moving)])) (kq G (va_A [(ce_X10 ob ob_thrown ob_world ob_images ob_hasImage ob_tape ob_taped ob_five ob_size ob_at ob_from ob_token ob_value ob_faultKind ob_faultPlace ob_fresh ob_parts ob_houses ob_houseMany ob_worthOf ob_byCall ob_over ob_bestSet ob_bestOver ob_bestWorth ob_row ob_tenDebts ob_tenMany ob_fewestBy ob_covered ob_queue ob_cameBy ob_parent ob_met ob_calls ob_callMany ob_calledOn ob_saved ob_many ob_width ob_numbers ob_moving)] sz)) (va_A [(ce_X10 ob ob_thrown ob_world ob_images ob_hasImage ob_tape ob_taped ob_five ob_size ob_at ob_from ob_token ob_value ob_faultKind ob_faultPlace ob_fresh ob_parts ob_houses ob_houseMany ob_worthOf ob_byCall ob_over ob_bestSet ob_bestOver ob_bestWorth ob_row ob_tenDebts ob_tenMany ob_fewestBy ob_covered ob_queue ob_cameBy ob_parent ob_met ob_calls ob_callMany ob_calledOn ob_saved ob_many ob_width ob_numbers ob_moving)] sz)) 0 0 (va_A [(ce_X10 ob ob_thrown ob_world ob_images ob_hasImage ob_tape ob_taped ob_five ob_size ob_at ob_from ob_token ob_value ob_faultKind ob_faultPlace ob_fresh ob_parts ob_houses ob_houseMany ob_worthOf ob_byCall ob_over ob_bestSet ob_bestOver ob_bestWorth ob_row ob_tenDebts ob_tenMany ob_fewestBy ob_covered ob_queue ob_cameBy ob_parent ob_met ob_calls ob_callMany ob_calledOn ob_saved ob_many ob_width ob_numbers ob_moving)] sz) := by
  refine Met.ofW (cc := cX10_paste) (maxL := 7) (ret := (some .int)) (by decide) rfl ?_
  intro p e s m args below meth c s₁ B hml hv
  obtain ⟨rfl, hsz, hP, hK, hD0⟩ := hv
  have hx := B.exec
  have hb := B.bytes
  have hr := B.returns
  have hw0 : ∀ w ∈ wAll, w.before _ s = true := fun w h => atoms_spec (ws := Cond.code yX10_paste cX10_paste 7 (some .int) :: wAll) B.pre w (List.mem_cons_of_mem _ h)
  have hown : s.vm.findClass RX10 = some m.cls := findClass_of_methodNamed B.named
  subst hsz
  have hD := hD0.self (sz := s.heap.size)
  generalize hAe : va_A [(ce_X10 ob ob_thrown ob_world ob_images ob_hasImage ob_tape ob_taped ob_five ob_size ob_at ob_from ob_token ob_value ob_faultKind ob_faultPlace ob_fresh ob_parts ob_houses ob_houseMany ob_worthOf ob_byCall ob_over ob_bestSet ob_bestOver ob_bestWorth ob_row ob_tenDebts ob_tenMany ob_fewestBy ob_covered ob_queue ob_cameBy ob_parent ob_met ob_calls ob_callMany ob_calledOn ob_saved ob_many ob_width ob_numbers ob_moving)] s.heap.size = A at hD ⊢
  have hA : ∀ q : Nat, s.heap.size ≤ q → A q := fun q h => by rw [← hAe]; exact Or.inr h
  have hS : va_S A s.heap s.heap [] := va_S.rf
  have hP : va_P G vwCl [(ce_X10 ob ob_thrown ob_world ob_images ob_hasImage ob_tape ob_taped ob_five ob_size ob_at ob_from ob_token ob_value ob_faultKind ob_faultPlace ob_fresh ob_parts ob_houses ob_houseMany ob_worthOf ob_byCall ob_over ob_bestSet ob_bestOver ob_bestWorth ob_row ob_tenDebts ob_tenMany ob_fewestBy ob_covered ob_queue ob_cameBy ob_parent ob_met ob_calls ob_callMany ob_calledOn ob_saved ob_many ob_width ob_numbers ob_moving)] s.heap := hP
  have hl := lv_entry ([.ref ob, .int a1, .int a2, .int a3, .int a4, .int a5]) (n := 7) (Nat.le_of_ble_eq_true rfl)
  rw [lg_entry_eq]
  generalize (lg_sl ([.ref ob, .int a1, .int a2, .int a3, .int a4, .int a5]) ++ List.replicate (7 - (lg_sl ([.ref ob, .int a1, .int a2, .int a3, .int a4, .int a5])).length) Slot.unset).toArray = ls at hl ⊢
  have hl : lv_has ls 7 [(0, .ref ob), (1, .int a1), (2, .int a2), (3, .int a3), (4, .int a4), (5, .int a5)] := hl
  refine lv_iload_n hx hb dX10_paste_0 rfl (lv_at hl 1 rfl) ?_
  refine cutW 14 (fun H locs ls st => st = [] ∧ vPD G A H [(ce_X10 ob ob_thrown ob_world ob_images ob_hasImage ob_tape ob_taped ob_five ob_size ob_at ob_from ob_token ob_value ob_faultKind ob_faultPlace ob_fresh ob_parts ob_houses ob_houseMany ob_worthOf ob_byCall ob_over ob_bestSet ob_bestOver ob_bestWorth ob_row ob_tenDebts ob_tenMany ob_fewestBy ob_covered ob_queue ob_cameBy ob_parent ob_met ob_calls ob_callMany ob_calledOn ob_saved ob_many ob_width ob_numbers ob_moving)] ∧ va_S A s.heap H locs ∧ lv_has ls 7 []) ?_ (fun J_14_1009 => ?_)
  · rintro H locs ls st ⟨rfl, ⟨hP, hD⟩, hS, hl⟩
    refine lv_bipush (v := (-2)) hx hb dX10_paste_14 (by decide) ?_
    exact W.iret (v := (-2)) hx hb hr (fun t ht hW => ⟨⟨(-2), _, rfl, ⟨rfl, rfl⟩, by rw [ht]; exact hP, hD⟩, hS.F ht⟩) hS.2.2 dX10_paste_16
  · skip
    refine cSim (As := [.int a1]) (rest := []) ⟨hx, hb, hml, hown, hw0⟩ hA hK hP hD hS [] (fisSlotM l G y _ a1 ) rfl ⟨(callB_of 1 hw0 (gA m_543) rfl rfl rfl (hw0 _ m_41) (hw0 _ m_433) cb_X10_isSlot ⟨Nat.le_of_ble_eq_true rfl, Nat.le_of_ble_eq_true rfl⟩), (hw0 _ m_434)⟩ rfl hl.1 (Nat.le_of_ble_eq_true rfl) dX10_paste_1 ⟨Nat.le_of_ble_eq_true rfl, Nat.le_of_ble_eq_true rfl⟩ (fun r_1010 w_1010 H locs hw_1010 hP hD hS => ?_)
    rcases hw_1010 with ⟨h_1011, rfl, rfl⟩ | ⟨h_1012, h_1013, rfl, rfl⟩
    · skip
      obtain ⟨hP, hD⟩ : vPD G A H [(ce_X10 ob ob_thrown ob_world ob_images ob_hasImage ob_tape ob_taped ob_five ob_size ob_at ob_from ob_token ob_value ob_faultKind ob_faultPlace ob_fresh ob_parts ob_houses ob_houseMany ob_worthOf ob_byCall ob_over ob_bestSet ob_bestOver ob_bestWorth ob_row ob_tenDebts ob_tenMany ob_fewestBy ob_covered ob_queue ob_cameBy ob_parent ob_met ob_calls ob_callMany ob_calledOn ob_saved ob_many ob_width ob_numbers ob_moving)] := ⟨hP, hD⟩
      refine lv_if_eq (tgt := 14) hx hb dX10_paste_4 (by decide) (fun _ => ?_) (fun c9 => absurd (by decide) c9)
      exact J_14_1009 _ _ _ _ ⟨rfl, ⟨hP, hD⟩, hS, lv_sub hl [] rfl⟩
    · skip
      obtain ⟨hP, hD⟩ : vPD G A H [(ce_X10 ob ob_thrown ob_world ob_images ob_hasImage ob_tape ob_taped ob_five ob_size ob_at ob_from ob_token ob_value ob_faultKind ob_faultPlace ob_fresh ob_parts ob_houses ob_houseMany ob_worthOf ob_byCall ob_over ob_bestSet ob_bestOver ob_bestWorth ob_row ob_tenDebts ob_tenMany ob_fewestBy ob_covered ob_queue ob_cameBy ob_parent ob_met ob_calls ob_callMany ob_calledOn ob_saved ob_many ob_width ob_numbers ob_moving)] := ⟨hP, hD⟩
      refine lv_if_eq (tgt := 14) hx hb dX10_paste_4 (by decide) (fun c9 => absurd c9 (by decide)) (fun _ => ?_)
      refine lv_iload_n hx hb dX10_paste_7 rfl (lv_at hl 3 rfl) ?_
      refine cSim (As := [.int a3]) (rest := []) ⟨hx, hb, hml, hown, hw0⟩ hA hK hP hD hS [] (fisSlotM l G y _ a3 ) rfl ⟨(callB_of 1 hw0 (gA m_543) rfl rfl rfl (hw0 _ m_41) (hw0 _ m_433) cb_X10_isSlot ⟨Nat.le_of_ble_eq_true rfl, Nat.le_of_ble_eq_true rfl⟩), (hw0 _ m_434)⟩ rfl hl.1 (Nat.le_of_ble_eq_true rfl) dX10_paste_8 ⟨Nat.le_of_ble_eq_true rfl, Nat.le_of_ble_eq_true rfl⟩ (fun r_1014 w_1014 H locs hw_1014 hP hD hS => ?_)
      rcases hw_1014 with ⟨h_1015, rfl, rfl⟩ | ⟨h_1016, h_1017, rfl, rfl⟩
      · skip
        obtain ⟨hP, hD⟩ : vPD G A H [(ce_X10 ob ob_thrown ob_world ob_images ob_hasImage ob_tape ob_taped ob_five ob_size ob_at ob_from ob_token ob_value ob_faultKind ob_faultPlace ob_fresh ob_parts ob_houses ob_houseMany ob_worthOf ob_byCall ob_over ob_bestSet ob_bestOver ob_bestWorth ob_row ob_tenDebts ob_tenMany ob_fewestBy ob_covered ob_queue ob_cameBy ob_parent ob_met ob_calls ob_callMany ob_calledOn ob_saved ob_many ob_width ob_numbers ob_moving)] := ⟨hP, hD⟩
        refine lv_if_ne (tgt := 17) hx hb dX10_paste_11 (by decide) (fun c9 => absurd (by decide) c9) (fun _ => ?_)
        exact J_14_1009 _ _ _ _ ⟨rfl, ⟨hP, hD⟩, hS, lv_sub hl [] rfl⟩
      · skip
        have h_1018 := b_in p_a3 h_1016
        exact absurd (Int.le_trans (h_1018).1 (h_1018).2) (by decide)
