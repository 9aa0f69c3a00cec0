set_option maxHeartbeats 4000000 in
set_option maxRecDepth 100000 in
theorem fpasteM00 (l : Launch) (G : va_G) (y : Nat → ClassId) (sz : Nat) (ob : Nat) (a2 : Int32) (a4 : Int32) (a5 : Int32) (ob_thrown : Int32) (ob_world : Nat) (ob_images : Nat) (ob_hasImage : Nat) (ob_tape : Nat) (ob_taped : Int32) (ob_five : Nat) (ob_size : Int32) (ob_at : Int32) (ob_from : Int32) (ob_token : Int32) (ob_value : Int32) (ob_faultKind : Int32) (ob_faultPlace : Int32) (ob_fresh : Nat) (ob_parts : Nat) (ob_houses : Nat) (ob_houseMany : Int32) (ob_worthOf : Nat) (ob_byCall : Nat) (ob_over : Nat) (ob_bestSet : Int32) (ob_bestOver : Int32) (ob_bestWorth : Int32) (ob_row : Nat) (ob_tenDebts : Nat) (ob_tenMany : Int32) (ob_fewestBy : Nat) (ob_covered : Nat) (ob_queue : Nat) (ob_cameBy : Nat) (ob_parent : Nat) (ob_met : Nat) (ob_calls : Nat) (ob_callMany : Int32) (ob_calledOn : Nat) (ob_saved : Nat) (ob_many : Nat) (ob_width : Nat) (ob_numbers : Nat) (ob_moving : Nat) (fob_many : Nat → Int32) (fob_width : Nat → Int32) (fob_numbers : Nat → Int64) (fob_moving : Nat → Int64) (p_ob_taped : (0 : Int) ≤ ob_taped.toInt ∧ ob_taped.toInt ≤ 1400) (p_ob_size : (0 : Int) ≤ ob_size.toInt ∧ ob_size.toInt ≤ 1400) (p_ob_at : (0 : Int) ≤ ob_at.toInt ∧ ob_at.toInt ≤ 1400) (p_ob_from : (0 : Int) ≤ ob_from.toInt ∧ ob_from.toInt ≤ 1400) (p_ob_token : (0 : Int) ≤ ob_token.toInt ∧ ob_token.toInt ≤ 4) (p_ob_value : (0 : Int) ≤ ob_value.toInt ∧ ob_value.toInt ≤ 9999) (p_ob_faultKind : (0 : Int) ≤ ob_faultKind.toInt ∧ ob_faultKind.toInt ≤ 3) (p_ob_houseMany : (0 : Int) ≤ ob_houseMany.toInt ∧ ob_houseMany.toInt ≤ 10) (p_ob_bestSet : (0 : Int) ≤ ob_bestSet.toInt ∧ ob_bestSet.toInt ≤ 1023) (p_ob_bestOver : (-1 : Int) ≤ ob_bestOver.toInt ∧ ob_bestOver.toInt ≤ 180) (p_ob_tenMany : (0 : Int) ≤ ob_tenMany.toInt ∧ ob_tenMany.toInt ≤ 10) (p_ob_callMany : (0 : Int) ≤ ob_callMany.toInt ∧ ob_callMany.toInt ≤ 16) (p_fob_many : ∀ i, (-1 : Int) ≤ (fob_many i).toInt ∧ (fob_many i).toInt ≤ 60) (p_fob_width : ∀ i, (0 : Int) ≤ (fob_width i).toInt ∧ (fob_width i).toInt ≤ 3) : Met l yX10_paste (Cond.code yX10_paste cX10_paste 7 (some .int) :: wAll) ({ frames := 2, cells := 0, slots := 0, locals := 45 }) (va_Pc [.ref ob, .int 0, .int a2, .int 0, .int a4, .int a5] (kp G y sz [(ce_X10 ob ob_thrown ob_world ob_images ob_hasImage ob_tape ob_taped ob_five ob_size ob_at ob_from ob_token ob_value ob_faultKind ob_faultPlace ob_fresh ob_parts ob_houses ob_houseMany ob_worthOf ob_byCall ob_over ob_bestSet ob_bestOver ob_bestWorth ob_row ob_tenDebts ob_tenMany ob_fewestBy ob_covered ob_queue ob_cameBy ob_parent ob_met ob_calls ob_callMany ob_calledOn ob_saved ob_many ob_width ob_numbers ob_moving), (ce_i4 y ob_many fob_many), (ce_i4 y ob_width fob_width), (ce_l240 y ob_numbers fob_numbers), (ce_l60 y ob_moving fob_moving)])) (va_Qi (fun (r : Int32) (w : va_W) => (((fob_many 0).toInt = -1 ∨ (fob_many 0).toInt = -1) ∧ r = (-6) ∧ w = [(ce_X10 ob ob_thrown ob_world ob_images ob_hasImage ob_tape ob_taped ob_five ob_size ob_at ob_from ob_token ob_value ob_faultKind ob_faultPlace ob_fresh ob_parts ob_houses ob_houseMany ob_worthOf ob_byCall ob_over ob_bestSet ob_bestOver ob_bestWorth ob_row ob_tenDebts ob_tenMany ob_fewestBy ob_covered ob_queue ob_cameBy ob_parent ob_met ob_calls ob_callMany ob_calledOn ob_saved ob_many ob_width ob_numbers ob_moving), (ce_i4 y ob_many fob_many), (ce_i4 y ob_width fob_width), (ce_l240 y ob_numbers fob_numbers), (ce_l60 y ob_moving fob_moving)]) ∨ ((¬ (fob_many 0).toInt = -1 ∧ ¬ (fob_many 0).toInt = -1 ∧ (fob_width 0).toInt = (fob_width 0).toInt ∧ ¬ (0 ≤ a2.toInt ∧ 0 ≤ a4.toInt ∧ 0 ≤ a5.toInt ∧ a2.toInt + a5.toInt ≤ (fob_many 0).toInt ∧ a4.toInt + a5.toInt ≤ (fob_many 0).toInt)) ∧ r = (-7) ∧ w = [(ce_X10 ob ob_thrown ob_world ob_images ob_hasImage ob_tape ob_taped ob_five ob_size ob_at ob_from ob_token ob_value ob_faultKind ob_faultPlace ob_fresh ob_parts ob_houses ob_houseMany ob_worthOf ob_byCall ob_over ob_bestSet ob_bestOver ob_bestWorth ob_row ob_tenDebts ob_tenMany ob_fewestBy ob_covered ob_queue ob_cameBy ob_parent ob_met ob_calls ob_callMany ob_calledOn ob_saved ob_many ob_width ob_numbers ob_moving), (ce_i4 y ob_many fob_many), (ce_i4 y ob_width fob_width), (ce_l240 y ob_numbers fob_numbers), (ce_l60 y ob_moving fob_moving)]) ∨ (∃ (f_223 : Nat → Int64) (f_224 : Nat → Int64), ((0 : Int) ≤ a2.toInt ∧ a2.toInt ≤ 60) ∧ ((0 : Int) ≤ a4.toInt ∧ a4.toInt ≤ 60) ∧ ((0 : Int) ≤ a5.toInt ∧ a5.toInt ≤ 60) ∧ (¬ (fob_many 0).toInt = -1 ∧ ¬ (fob_many 0).toInt = -1 ∧ (fob_width 0).toInt = (fob_width 0).toInt ∧ 0 ≤ a2.toInt ∧ 0 ≤ a4.toInt ∧ 0 ≤ a5.toInt ∧ a2.toInt + a5.toInt ≤ (fob_many 0).toInt ∧ a4.toInt + a5.toInt ≤ (fob_many 0).toInt) ∧ (pL f_223 fob_numbers (0 + a2.toInt.toNat) (0 + a4.toInt.toNat) a5.toInt) ∧ r = 0 ∧ w = [(ce_X10 ob ob_thrown ob_world ob_images ob_hasImage ob_tape ob_taped ob_five ob_size ob_at ob_from ob_token ob_value ob_faultKind ob_faultPlace ob_fresh ob_parts ob_houses ob_houseMany ob_worthOf ob_byCall ob_over ob_bestSet ob_bestOver ob_bestWorth ob_row ob_tenDebts ob_tenMany ob_fewestBy ob_covered ob_queue ob_cameBy ob_parent ob_met ob_calls ob_callMany ob_calledOn ob_saved ob_many ob_width ob_numbers ob_moving), (ce_i4 y ob_many fob_many), (ce_i4 y ob_width fob_width), (ce_l240 y ob_numbers f_223), (ce_l60 y ob_moving f_224)])) (kq G (va_A [(ce_X10 ob ob_thrown ob_world ob_images ob_hasImage ob_tape ob_taped ob_five ob_size ob_at ob_from ob_token ob_value ob_faultKind ob_faultPlace ob_fresh ob_parts ob_houses ob_houseMany ob_worthOf ob_byCall ob_over ob_bestSet ob_bestOver ob_bestWorth ob_row ob_tenDebts ob_tenMany ob_fewestBy ob_covered ob_queue ob_cameBy ob_parent ob_met ob_calls ob_callMany ob_calledOn ob_saved ob_many ob_width ob_numbers ob_moving), (ce_i4 y ob_many fob_many), (ce_i4 y ob_width fob_width), (ce_l240 y ob_numbers fob_numbers), (ce_l60 y ob_moving fob_moving)] sz)) (va_A [(ce_X10 ob ob_thrown ob_world ob_images ob_hasImage ob_tape ob_taped ob_five ob_size ob_at ob_from ob_token ob_value ob_faultKind ob_faultPlace ob_fresh ob_parts ob_houses ob_houseMany ob_worthOf ob_byCall ob_over ob_bestSet ob_bestOver ob_bestWorth ob_row ob_tenDebts ob_tenMany ob_fewestBy ob_covered ob_queue ob_cameBy ob_parent ob_met ob_calls ob_callMany ob_calledOn ob_saved ob_many ob_width ob_numbers ob_moving), (ce_i4 y ob_many fob_many), (ce_i4 y ob_width fob_width), (ce_l240 y ob_numbers fob_numbers), (ce_l60 y ob_moving fob_moving)] sz)) 0 0 (va_A [(ce_X10 ob ob_thrown ob_world ob_images ob_hasImage ob_tape ob_taped ob_five ob_size ob_at ob_from ob_token ob_value ob_faultKind ob_faultPlace ob_fresh ob_parts ob_houses ob_houseMany ob_worthOf ob_byCall ob_over ob_bestSet ob_bestOver ob_bestWorth ob_row ob_tenDebts ob_tenMany ob_fewestBy ob_covered ob_queue ob_cameBy ob_parent ob_met ob_calls ob_callMany ob_calledOn ob_saved ob_many ob_width ob_numbers ob_moving), (ce_i4 y ob_many fob_many), (ce_i4 y ob_width fob_width), (ce_l240 y ob_numbers fob_numbers), (ce_l60 y ob_moving fob_moving)] sz) := by
  refine Met.ofW (cc := cX10_paste) (maxL := 7) (ret := (some .int)) (by decide) rfl ?_
  intro p e s m args below meth c s₁ B hml hv
  obtain ⟨rfl, hsz, hP, hK, hD0⟩ := hv
  have hx := B.exec
  have hb := B.bytes
  have hr := B.returns
  have hw0 : ∀ w ∈ wAll, w.before _ s = true := fun w h => atoms_spec (ws := Cond.code yX10_paste cX10_paste 7 (some .int) :: wAll) B.pre w (List.mem_cons_of_mem _ h)
  have hown : s.vm.findClass RX10 = some m.cls := findClass_of_methodNamed B.named
  subst hsz
  have hD := hD0.self (sz := s.heap.size)
  generalize hAe : va_A [(ce_X10 ob ob_thrown ob_world ob_images ob_hasImage ob_tape ob_taped ob_five ob_size ob_at ob_from ob_token ob_value ob_faultKind ob_faultPlace ob_fresh ob_parts ob_houses ob_houseMany ob_worthOf ob_byCall ob_over ob_bestSet ob_bestOver ob_bestWorth ob_row ob_tenDebts ob_tenMany ob_fewestBy ob_covered ob_queue ob_cameBy ob_parent ob_met ob_calls ob_callMany ob_calledOn ob_saved ob_many ob_width ob_numbers ob_moving), (ce_i4 y ob_many fob_many), (ce_i4 y ob_width fob_width), (ce_l240 y ob_numbers fob_numbers), (ce_l60 y ob_moving fob_moving)] s.heap.size = A at hD ⊢
  have hA : ∀ q : Nat, s.heap.size ≤ q → A q := fun q h => by rw [← hAe]; exact Or.inr h
  have hS : va_S A s.heap s.heap [] := va_S.rf
  have hP : va_P G vwCl [(ce_X10 ob ob_thrown ob_world ob_images ob_hasImage ob_tape ob_taped ob_five ob_size ob_at ob_from ob_token ob_value ob_faultKind ob_faultPlace ob_fresh ob_parts ob_houses ob_houseMany ob_worthOf ob_byCall ob_over ob_bestSet ob_bestOver ob_bestWorth ob_row ob_tenDebts ob_tenMany ob_fewestBy ob_covered ob_queue ob_cameBy ob_parent ob_met ob_calls ob_callMany ob_calledOn ob_saved ob_many ob_width ob_numbers ob_moving), (ce_i4 y ob_many fob_many), (ce_i4 y ob_width fob_width), (ce_l240 y ob_numbers fob_numbers), (ce_l60 y ob_moving fob_moving)] s.heap := hP
  have hl := lv_entry ([.ref ob, .int 0, .int a2, .int 0, .int a4, .int a5]) (n := 7) (Nat.le_of_ble_eq_true rfl)
  rw [lg_entry_eq]
  generalize (lg_sl ([.ref ob, .int 0, .int a2, .int 0, .int a4, .int a5]) ++ List.replicate (7 - (lg_sl ([.ref ob, .int 0, .int a2, .int 0, .int a4, .int a5])).length) Slot.unset).toArray = ls at hl ⊢
  have hl : lv_has ls 7 [(0, .ref ob), (1, .int 0), (2, .int a2), (3, .int 0), (4, .int a4), (5, .int a5)] := hl
  refine lv_iload_n hx hb dX10_paste_0 rfl (lv_at hl 1 rfl) ?_
  refine cSim (As := [.int 0]) (rest := []) ⟨hx, hb, hml, hown, hw0⟩ hA hK hP hD hS [] (gisSlotM l G y _ 0 ) rfl ⟨(callB_of 1 hw0 (gA m_543) rfl rfl rfl (hw0 _ m_41) (hw0 _ m_433) cb_X10_isSlot ⟨Nat.le_of_ble_eq_true rfl, Nat.le_of_ble_eq_true rfl⟩), (hw0 _ m_434)⟩ rfl hl.1 (Nat.le_of_ble_eq_true rfl) dX10_paste_1 ⟨Nat.le_of_ble_eq_true rfl, Nat.le_of_ble_eq_true rfl⟩ (fun r_1001 w_1001 H locs hw_1001 hP hD hS => ?_)
  rcases hw_1001 with ⟨h_1002, rfl, rfl⟩ | ⟨h_1003, h_1004, rfl, rfl⟩
  · skip
    exact False.elim (by have h9 : Int32.toInt 0 = 0 := (by decide); omega)
  · skip
    obtain ⟨hP, hD⟩ : vPD G A H [(ce_X10 ob ob_thrown ob_world ob_images ob_hasImage ob_tape ob_taped ob_five ob_size ob_at ob_from ob_token ob_value ob_faultKind ob_faultPlace ob_fresh ob_parts ob_houses ob_houseMany ob_worthOf ob_byCall ob_over ob_bestSet ob_bestOver ob_bestWorth ob_row ob_tenDebts ob_tenMany ob_fewestBy ob_covered ob_queue ob_cameBy ob_parent ob_met ob_calls ob_callMany ob_calledOn ob_saved ob_many ob_width ob_numbers ob_moving), (ce_i4 y ob_many fob_many), (ce_i4 y ob_width fob_width), (ce_l240 y ob_numbers fob_numbers), (ce_l60 y ob_moving fob_moving)] := ⟨hP, hD⟩
    refine lv_if_eq (tgt := 14) hx hb dX10_paste_4 (by decide) (fun c9 => absurd c9 (by decide)) (fun _ => ?_)
    refine lv_iload_n hx hb dX10_paste_7 rfl (lv_at hl 3 rfl) ?_
    refine cSim (As := [.int 0]) (rest := []) ⟨hx, hb, hml, hown, hw0⟩ hA hK hP hD hS [] (gisSlotM l G y _ 0 ) rfl ⟨(callB_of 1 hw0 (gA m_543) rfl rfl rfl (hw0 _ m_41) (hw0 _ m_433) cb_X10_isSlot ⟨Nat.le_of_ble_eq_true rfl, Nat.le_of_ble_eq_true rfl⟩), (hw0 _ m_434)⟩ rfl hl.1 (Nat.le_of_ble_eq_true rfl) dX10_paste_8 ⟨Nat.le_of_ble_eq_true rfl, Nat.le_of_ble_eq_true rfl⟩ (fun r_1005 w_1005 H locs hw_1005 hP hD hS => ?_)
    rcases hw_1005 with ⟨h_1006, rfl, rfl⟩ | ⟨h_1007, h_1008, rfl, rfl⟩
    · skip
      exact False.elim (by have h9 : Int32.toInt 0 = 0 := (by decide); omega)
    · skip
      obtain ⟨hP, hD⟩ : vPD G A H [(ce_X10 ob ob_thrown ob_world ob_images ob_hasImage ob_tape ob_taped ob_five ob_size ob_at ob_from ob_token ob_value ob_faultKind ob_faultPlace ob_fresh ob_parts ob_houses ob_houseMany ob_worthOf ob_byCall ob_over ob_bestSet ob_bestOver ob_bestWorth ob_row ob_tenDebts ob_tenMany ob_fewestBy ob_covered ob_queue ob_cameBy ob_parent ob_met ob_calls ob_callMany ob_calledOn ob_saved ob_many ob_width ob_numbers ob_moving), (ce_i4 y ob_many fob_many), (ce_i4 y ob_width fob_width), (ce_l240 y ob_numbers fob_numbers), (ce_l60 y ob_moving fob_moving)] := ⟨hP, hD⟩
      refine lv_if_ne (tgt := 17) hx hb dX10_paste_11 (by decide) (fun _ => ?_) (fun c9 => absurd c9 (by decide))
      refine lv_aload_n hx hb dX10_paste_17 rfl (lv_at hl 0 rfl) ?_
      refine va_get (D := G) (ci := 10) (v := .ref ob_many) (C := RX10) (T := TX10) (N := 41) hx hb hw0 inA_wsX100 hown hK.1 hP 0 rfl rfl 37 (by decide) (hw0 _ m_406) (fun _ h9 => h9) rfl dX10_paste_18 ?_
      refine lv_iload_n hx hb dX10_paste_21 rfl (lv_at hl 1 rfl) ?_
      refine va_iald hx hb hK.1 hP 1 1 rfl rfl (vi (bkc (x := 0) (c := 0) (by decide)) (by decide)) dX10_paste_22 ?_
      refine lv_topi (fun v_1009 ev_1009 => ?_)
      have bv_1009 : (-1 : Int) ≤ v_1009.toInt ∧ v_1009.toInt ≤ 60 := rd_b ev_1009 p_fob_many
      have yv_1009 : v_1009.toInt = (fob_many 0).toInt := congrArg Int32.toInt ev_1009
      refine lv_iconst (v := (-1)) hx hb dX10_paste_23 (by decide) ?_
      refine lv_icmp_eq (tgt := 37) hx hb dX10_paste_24 (by decide) (fun c_1010 => ?_) (fun c_1010 => ?_)
      · skip
        have nc_1010 := nb_eq (-1) (-1) c_1010 bv_1009 (bkc (x := (-1)) (c := -1) (by decide)) (by decide)
        refine lv_bipush (v := (-6)) hx hb dX10_paste_37 (by decide) ?_
        exact W.iret (v := (-6)) hx hb hr (fun t ht hW => ⟨⟨(-6), _, rfl, Or.inl (⟨by have h90 : Int32.toInt (-6) = -6 := (by decide); have h91 : Int32.toInt 0 = 0 := (by decide); omega, rfl, rfl⟩), by rw [ht]; exact hP, hD⟩, hS.F ht⟩) hS.2.2 dX10_paste_39
      · skip
        have nc_1010 := nb_ne (0) (60) c_1010 bv_1009 (k := -1) (by decide) (by decide)
        refine lv_aload_n hx hb dX10_paste_27 rfl (lv_at hl 0 rfl) ?_
        refine va_get (D := G) (ci := 10) (v := .ref ob_many) (C := RX10) (T := TX10) (N := 41) hx hb hw0 inA_wsX100 hown hK.1 hP 0 rfl rfl 37 (by decide) (hw0 _ m_406) (fun _ h9 => h9) rfl dX10_paste_28 ?_
        refine lv_iload_n hx hb dX10_paste_31 rfl (lv_at hl 3 rfl) ?_
        refine va_iald hx hb hK.1 hP 1 1 rfl rfl (vi (bkc (x := 0) (c := 0) (by decide)) (by decide)) dX10_paste_32 ?_
        refine lv_topi (fun v_1011 ev_1011 => ?_)
        obtain rfl : v_1009 = v_1011 := (ev_1011.trans (ev_1009.symm)).symm
        refine lv_iconst (v := (-1)) hx hb dX10_paste_33 (by decide) ?_
        refine lv_icmp_ne (tgt := 40) hx hb dX10_paste_34 (by decide) (fun _ => ?_) (fun c9 => absurd c9 (dc_neq nc_1010.1 (bkc (x := (-1)) (c := -1) (by decide)) (by decide)))
        refine lv_aload_n hx hb dX10_paste_40 rfl (lv_at hl 0 rfl) ?_
        refine va_get (D := G) (ci := 10) (v := .ref ob_width) (C := RX10) (T := TX10) (N := 41) hx hb hw0 inA_wsX100 hown hK.1 hP 0 rfl rfl 38 (by decide) (hw0 _ m_527) (fun _ h9 => h9) rfl dX10_paste_41 ?_
        refine lv_iload_n hx hb dX10_paste_44 rfl (lv_at hl 1 rfl) ?_
        refine va_iald hx hb hK.1 hP 2 1 rfl rfl (vi (bkc (x := 0) (c := 0) (by decide)) (by decide)) dX10_paste_45 ?_
        refine lv_topi (fun v_1012 ev_1012 => ?_)
        have bv_1012 : (0 : Int) ≤ v_1012.toInt ∧ v_1012.toInt ≤ 3 := rd_b ev_1012 p_fob_width
        have yv_1012 : v_1012.toInt = (fob_width 0).toInt := congrArg Int32.toInt ev_1012
        refine lv_aload_n hx hb dX10_paste_46 rfl (lv_at hl 0 rfl) ?_
        refine va_get (D := G) (ci := 10) (v := .ref ob_width) (C := RX10) (T := TX10) (N := 41) hx hb hw0 inA_wsX100 hown hK.1 hP 0 rfl rfl 38 (by decide) (hw0 _ m_527) (fun _ h9 => h9) rfl dX10_paste_47 ?_
        refine lv_iload_n hx hb dX10_paste_50 rfl (lv_at hl 3 rfl) ?_
        refine va_iald hx hb hK.1 hP 2 1 rfl rfl (vi (bkc (x := 0) (c := 0) (by decide)) (by decide)) dX10_paste_51 ?_
        refine lv_topi (fun v_1013 ev_1013 => ?_)
        obtain rfl : v_1012 = v_1013 := (ev_1013.trans (ev_1012.symm)).symm
        refine lv_icmp_eq (tgt := 58) hx hb dX10_paste_52 (by decide) (fun _ => ?_) (fun c9 => absurd (rfl) c9)
        refine lv_iload_n hx hb dX10_paste_58 rfl (lv_at hl 2 rfl) ?_
        refine lv_if_lt (tgt := 107) hx hb dX10_paste_59 (by decide) (fun c_1014 => ?_) (fun c_1014 => ?_)
        · skip
          have nc_1014 := nb_lt (-1) (0) c_1014 (btop a2) (bkc (x := 0) (c := 0) (by decide)) (by decide)
          refine lv_bipush (v := (-7)) hx hb dX10_paste_107 (by decide) ?_
          exact W.iret (v := (-7)) hx hb hr (fun t ht hW => ⟨⟨(-7), _, rfl, Or.inr (Or.inl (⟨by have h90 : Int32.toInt (-7) = -7 := (by decide); have h91 : Int32.toInt 0 = 0 := (by decide); omega, rfl, rfl⟩)), by rw [ht]; exact hP, hD⟩, hS.F ht⟩) hS.2.2 dX10_paste_109
        · skip
          have nc_1014 := nb_nlt (0) (0) c_1014 (bkc (x := 0) (c := 0) (by decide)) (btop a2) (by decide)
          refine lv_iload hx hb dX10_paste_62 (lv_at hl 4 rfl) ?_
          refine lv_if_lt (tgt := 107) hx hb dX10_paste_64 (by decide) (fun c_1015 => ?_) (fun c_1015 => ?_)
          · skip
            have nc_1015 := nb_lt (-1) (0) c_1015 (btop a4) (bkc (x := 0) (c := 0) (by decide)) (by decide)
            refine lv_bipush (v := (-7)) hx hb dX10_paste_107 (by decide) ?_
            exact W.iret (v := (-7)) hx hb hr (fun t ht hW => ⟨⟨(-7), _, rfl, Or.inr (Or.inl (⟨by have h90 : Int32.toInt (-7) = -7 := (by decide); have h91 : Int32.toInt 0 = 0 := (by decide); omega, rfl, rfl⟩)), by rw [ht]; exact hP, hD⟩, hS.F ht⟩) hS.2.2 dX10_paste_109
          · skip
            have nc_1015 := nb_nlt (0) (0) c_1015 (bkc (x := 0) (c := 0) (by decide)) (btop a4) (by decide)
            refine lv_iload hx hb dX10_paste_67 (lv_at hl 5 rfl) ?_
            refine lv_if_lt (tgt := 107) hx hb dX10_paste_69 (by decide) (fun c_1016 => ?_) (fun c_1016 => ?_)
            · skip
              have nc_1016 := nb_lt (-1) (0) c_1016 (btop a5) (bkc (x := 0) (c := 0) (by decide)) (by decide)
              refine lv_bipush (v := (-7)) hx hb dX10_paste_107 (by decide) ?_
              exact W.iret (v := (-7)) hx hb hr (fun t ht hW => ⟨⟨(-7), _, rfl, Or.inr (Or.inl (⟨by have h90 : Int32.toInt (-7) = -7 := (by decide); have h91 : Int32.toInt 0 = 0 := (by decide); omega, rfl, rfl⟩)), by rw [ht]; exact hP, hD⟩, hS.F ht⟩) hS.2.2 dX10_paste_109
            · skip
              have nc_1016 := nb_nlt (0) (0) c_1016 (bkc (x := 0) (c := 0) (by decide)) (btop a5) (by decide)
              refine lv_iload_n hx hb dX10_paste_72 rfl (lv_at hl 2 rfl) ?_
              refine lv_i2l hx hb dX10_paste_73 rfl ?_
              have kk_1017 : ((a2).toInt64).toInt = (a2).toInt := Int32.toInt_toInt64 _
              refine lv_iload hx hb dX10_paste_74 (lv_at hl 5 rfl) ?_
              refine lv_i2l hx hb dX10_paste_76 rfl ?_
              have kk_1018 : ((a5).toInt64).toInt = (a5).toInt := Int32.toInt_toInt64 _
              refine lv_ladd hx hb dX10_paste_77 ?_
              refine lv_topl (fun v_1019 ev_1019 => ?_)
              have qv_1019 := la_add ev_1019
              refine lv_aload_n hx hb dX10_paste_78 rfl (lv_at hl 0 rfl) ?_
              refine va_get (D := G) (ci := 10) (v := .ref ob_many) (C := RX10) (T := TX10) (N := 41) hx hb hw0 inA_wsX100 hown hK.1 hP 0 rfl rfl 37 (by decide) (hw0 _ m_406) (fun _ h9 => h9) rfl dX10_paste_79 ?_
              refine lv_iload_n hx hb dX10_paste_82 rfl (lv_at hl 1 rfl) ?_
              refine va_iald hx hb hK.1 hP 1 1 rfl rfl (vi (bkc (x := 0) (c := 0) (by decide)) (by decide)) dX10_paste_83 ?_
              refine lv_topi (fun v_1020 ev_1020 => ?_)
              obtain rfl : v_1009 = v_1020 := (ev_1020.trans (ev_1009.symm)).symm
              refine lv_i2l hx hb dX10_paste_84 rfl ?_
              have kk_1021 : ((v_1009).toInt64).toInt = (v_1009).toInt := Int32.toInt_toInt64 _
              refine W.lcmp hx hb dX10_paste_85 ?_
              refine lv_if_gt (tgt := 107) hx hb dX10_paste_86 (by decide) (fun c_1022 => ?_) (fun c_1022 => ?_)
              · skip
                have nc_1022 := jl_gt c_1022
                refine lv_bipush (v := (-7)) hx hb dX10_paste_107 (by decide) ?_
                exact W.iret (v := (-7)) hx hb hr (fun t ht hW => ⟨⟨(-7), _, rfl, Or.inr (Or.inl (⟨by have h90 : Int32.toInt (-7) = -7 := (by decide); have h91 : Int32.toInt 0 = 0 := (by decide); omega, rfl, rfl⟩)), by rw [ht]; exact hP, hD⟩, hS.F ht⟩) hS.2.2 dX10_paste_109
              · skip
                have nc_1022 := jl_ngt c_1022
                refine lv_iload hx hb dX10_paste_89 (lv_at hl 4 rfl) ?_
                refine lv_i2l hx hb dX10_paste_91 rfl ?_
                have kk_1023 : ((a4).toInt64).toInt = (a4).toInt := Int32.toInt_toInt64 _
                refine lv_iload hx hb dX10_paste_92 (lv_at hl 5 rfl) ?_
                refine lv_i2l hx hb dX10_paste_94 rfl ?_
                have kk_1024 : ((a5).toInt64).toInt = (a5).toInt := Int32.toInt_toInt64 _
                refine lv_ladd hx hb dX10_paste_95 ?_
                refine lv_topl (fun v_1025 ev_1025 => ?_)
                have qv_1025 := la_add ev_1025
                refine lv_aload_n hx hb dX10_paste_96 rfl (lv_at hl 0 rfl) ?_
                refine va_get (D := G) (ci := 10) (v := .ref ob_many) (C := RX10) (T := TX10) (N := 41) hx hb hw0 inA_wsX100 hown hK.1 hP 0 rfl rfl 37 (by decide) (hw0 _ m_406) (fun _ h9 => h9) rfl dX10_paste_97 ?_
                refine lv_iload_n hx hb dX10_paste_100 rfl (lv_at hl 3 rfl) ?_
                refine va_iald hx hb hK.1 hP 1 1 rfl rfl (vi (bkc (x := 0) (c := 0) (by decide)) (by decide)) dX10_paste_101 ?_
                refine lv_topi (fun v_1026 ev_1026 => ?_)
                obtain rfl : v_1009 = v_1026 := (ev_1026.trans (ev_1009.symm)).symm
                refine lv_i2l hx hb dX10_paste_102 rfl ?_
                have kk_1027 : ((v_1009).toInt64).toInt = (v_1009).toInt := Int32.toInt_toInt64 _
                refine W.lcmp hx hb dX10_paste_103 ?_
                refine lv_if_le (tgt := 110) hx hb dX10_paste_104 (by decide) (fun c_1028 => ?_) (fun c_1028 => ?_)
                · skip
                  have nc_1028 := jl_le c_1028
                  have h_1029 : (0 : Int) ≤ a2.toInt ∧ a2.toInt ≤ 60 := by omega
                  have h_1030 : (0 : Int) ≤ a4.toInt ∧ a4.toInt ≤ 60 := by omega
                  have h_1031 : (0 : Int) ≤ a5.toInt ∧ a5.toInt ≤ 60 := by omega
                  refine lv_iconst (v := 0) hx hb dX10_paste_110 (by decide) ?_
                  refine lv_istore (lv' := [(6, .int 0), (0, .ref ob), (1, .int 0), (2, .int a2), (3, .int 0), (4, .int a4), (5, .int a5)]) hx hb dX10_paste_111 hl (by decide) rfl (fun ls hl => ?_)
                  refine loopX (fun n H locs ls st => ∃ (v_1056 : Int32) (f_1057 : Nat → Int64), (60 - v_1056.toInt).toNat = n ∧ ((0 : Int) ≤ v_1056.toInt ∧ v_1056.toInt ≤ 60) ∧ (mL f_1057 fob_numbers (0 + a2.toInt.toNat) v_1056.toInt) ∧ st = [] ∧ vPD G A H [(ce_X10 ob ob_thrown ob_world ob_images ob_hasImage ob_tape ob_taped ob_five ob_size ob_at ob_from ob_token ob_value ob_faultKind ob_faultPlace ob_fresh ob_parts ob_houses ob_houseMany ob_worthOf ob_byCall ob_over ob_bestSet ob_bestOver ob_bestWorth ob_row ob_tenDebts ob_tenMany ob_fewestBy ob_covered ob_queue ob_cameBy ob_parent ob_met ob_calls ob_callMany ob_calledOn ob_saved ob_many ob_width ob_numbers ob_moving), (ce_i4 y ob_many fob_many), (ce_i4 y ob_width fob_width), (ce_l240 y ob_numbers fob_numbers), (ce_l60 y ob_moving f_1057)] ∧ va_S A s.heap H locs ∧ lv_has ls 7 [(6, .int v_1056), (0, .ref ob), (1, .int 0), (2, .int a2), (3, .int 0), (4, .int a4), (5, .int a5)]) ?_ (n := (60 - (0 : Int32).toInt).toNat) ⟨0, fob_moving, rfl, (bw (0) (60) (bkc (x := 0) (c := 0) (by decide)) (by decide)), (ml_0 (by have h90 : Int32.toInt 0 = 0 := (by decide); omega)), rfl, ⟨hP, hD⟩, hS, lv_sub hl [0, 1, 2, 3, 4, 5, 6] rfl⟩
                  rintro n ih_1064 H locs ls st ⟨v_1056, f_1057, hn_1064, bv_1056, rl1057_0, rfl, ⟨hP, hD⟩, hS, hl⟩
                  refine lv_iload hx hb dX10_paste_113 (lv_at hl 0 rfl) ?_
                  refine lv_iload hx hb dX10_paste_115 (lv_at hl 6 rfl) ?_
                  refine lv_icmp_ge (tgt := 147) hx hb dX10_paste_117 (by decide) (fun c_1065 => ?_) (fun c_1065 => ?_)
                  · skip
                    have nc_1065 := nb_le (60) (0) c_1065 h_1031 bv_1056 (by decide)
                    refine lv_iconst (v := 0) hx hb dX10_paste_147 (by decide) ?_
                    refine lv_istore (lv' := [(6, .int 0), (0, .ref ob), (1, .int 0), (2, .int a2), (3, .int 0), (4, .int a4), (5, .int a5)]) hx hb dX10_paste_148 hl (by decide) rfl (fun ls hl => ?_)
                    refine loopX (fun n H locs ls st => ∃ (v_1090 : Int32) (f_1091 : Nat → Int64), (60 - v_1090.toInt).toNat = n ∧ ((0 : Int) ≤ v_1090.toInt ∧ v_1090.toInt ≤ 60) ∧ (nL f_1091 fob_numbers f_1057 (0 + a4.toInt.toNat) v_1090.toInt) ∧ (v_1090.toInt ≤ a5.toInt) ∧ st = [] ∧ vPD G A H [(ce_X10 ob ob_thrown ob_world ob_images ob_hasImage ob_tape ob_taped ob_five ob_size ob_at ob_from ob_token ob_value ob_faultKind ob_faultPlace ob_fresh ob_parts ob_houses ob_houseMany ob_worthOf ob_byCall ob_over ob_bestSet ob_bestOver ob_bestWorth ob_row ob_tenDebts ob_tenMany ob_fewestBy ob_covered ob_queue ob_cameBy ob_parent ob_met ob_calls ob_callMany ob_calledOn ob_saved ob_many ob_width ob_numbers ob_moving), (ce_i4 y ob_many fob_many), (ce_i4 y ob_width fob_width), (ce_l240 y ob_numbers f_1091), (ce_l60 y ob_moving f_1057)] ∧ va_S A s.heap H locs ∧ lv_has ls 7 [(6, .int v_1090), (0, .ref ob), (3, .int 0), (4, .int a4), (5, .int a5)]) ?_ (n := (60 - (0 : Int32).toInt).toNat) ⟨0, fob_numbers, rfl, (bw (0) (60) (bkc (x := 0) (c := 0) (by decide)) (by decide)), (nl_0 (by have h90 : Int32.toInt 0 = 0 := (by decide); omega)), (by have h90 : Int32.toInt 0 = 0 := (by decide); omega), rfl, ⟨hP, hD⟩, hS, lv_sub hl [0, 1, 4, 5, 6] rfl⟩
                    rintro n ih_1098 H locs ls st ⟨v_1090, f_1091, hn_1098, bv_1090, rl1091_0, rl1091_1, rfl, ⟨hP, hD⟩, hS, hl⟩
                    refine lv_iload hx hb dX10_paste_150 (lv_at hl 0 rfl) ?_
                    refine lv_iload hx hb dX10_paste_152 (lv_at hl 4 rfl) ?_
                    refine lv_icmp_ge (tgt := 185) hx hb dX10_paste_154 (by decide) (fun c_1099 => ?_) (fun c_1099 => ?_)
                    · skip
                      have nc_1099 := nb_le (60) (0) c_1099 nc_1065.1 bv_1090 (by decide)
                      refine lv_iconst (v := 0) hx hb dX10_paste_185 (by decide) ?_
                      exact W.iret (v := 0) hx hb hr (fun t ht hW => ⟨⟨0, _, rfl, Or.inr (Or.inr (⟨f_1091, f_1057, h_1029, h_1030, nc_1099.1, by have h90 : Int32.toInt 0 = 0 := (by decide); omega, (pl_e rl1057_0 rl1091_0 (by omega) (by omega)), rfl, rfl⟩)), by rw [ht]; exact hP, hD⟩, hS.F ht⟩) hS.2.2 dX10_paste_186
                    · skip
                      have nc_1099 := nb_nle (59) (1) c_1099 bv_1090 nc_1065.1 (by decide)
                      refine lv_aload_n hx hb dX10_paste_157 rfl (lv_at hl 1 rfl) ?_
                      refine va_get (D := G) (ci := 10) (v := .ref ob_numbers) (C := RX10) (T := TX10) (N := 41) hx hb hw0 inA_wsX100 hown hK.1 hP 0 rfl rfl 39 (by decide) (hw0 _ m_435) (fun _ h9 => h9) rfl dX10_paste_158 ?_
                      refine lv_bipush (v := 60) hx hb dX10_paste_161 (by decide) ?_
                      refine lv_iload_n hx hb dX10_paste_163 rfl (lv_at hl 2 rfl) ?_
                      refine lv_imul hx hb dX10_paste_164 ?_
                      refine lv_topi (fun v_1100 ev_1100 => ?_)
                      obtain rfl : 0 = v_1100 := (ev_1100.trans (by decide)).symm
                      refine lv_iload hx hb dX10_paste_165 (lv_at hl 3 rfl) ?_
                      refine lv_iadd hx hb dX10_paste_167 ?_
                      refine lv_topi (fun v_1101 ev_1101 => ?_)
                      have qv_1101 := ba_add ev_1101 (bkc (x := 0) (c := 0) (by decide)) h_1030 (by decide)
                      have bv_1101 : (0 : Int) ≤ v_1101.toInt ∧ v_1101.toInt ≤ 60 := bq_add qv_1101 (bkc (x := 0) (c := 0) (by decide)) h_1030 _ _ (by decide)
                      have qv_1101 : v_1101.toInt = (0) + a4.toInt := qv_1101
                      refine lv_iload hx hb dX10_paste_168 (lv_at hl 0 rfl) ?_
                      refine lv_iadd hx hb dX10_paste_170 ?_
                      refine lv_topi (fun v_1102 ev_1102 => ?_)
                      have qv_1102 := ba_add ev_1102 bv_1101 nc_1099.1 (by decide)
                      have bv_1102 : (0 : Int) ≤ v_1102.toInt ∧ v_1102.toInt ≤ 119 := bq_add qv_1102 bv_1101 nc_1099.1 _ _ (by decide)
                      refine lv_aload_n hx hb dX10_paste_171 rfl (lv_at hl 1 rfl) ?_
                      refine va_get (D := G) (ci := 10) (v := .ref ob_moving) (C := RX10) (T := TX10) (N := 41) hx hb hw0 inA_wsX100 hown hK.1 hP 0 rfl rfl 40 (by decide) (hw0 _ m_529) (fun _ h9 => h9) rfl dX10_paste_172 ?_
                      refine lv_iload hx hb dX10_paste_175 (lv_at hl 0 rfl) ?_
                      refine va_lald hx hb hK.1 hP 4 2 rfl rfl (vi nc_1099.1 (by decide)) dX10_paste_177 ?_
                      refine lv_topl (fun v_1103 ev_1103 => ?_)
                      refine va_last hx hb hK.1 hP hD hS 3 2 rfl rfl (vi bv_1102 (by decide)) dX10_paste_178 (fun H locs hP hD hS => ?_)
                      generalize hf_1104 : (vp_updL f_1091 (v_1102 : Int32).toNatClampNeg v_1103) = f_1104 at hP hD
                      obtain ⟨hP, hD⟩ : vPD G A H [(ce_X10 ob ob_thrown ob_world ob_images ob_hasImage ob_tape ob_taped ob_five ob_size ob_at ob_from ob_token ob_value ob_faultKind ob_faultPlace ob_fresh ob_parts ob_houses ob_houseMany ob_worthOf ob_byCall ob_over ob_bestSet ob_bestOver ob_bestWorth ob_row ob_tenDebts ob_tenMany ob_fewestBy ob_covered ob_queue ob_cameBy ob_parent ob_met ob_calls ob_callMany ob_calledOn ob_saved ob_many ob_width ob_numbers ob_moving), (ce_i4 y ob_many fob_many), (ce_i4 y ob_width fob_width), (ce_l240 y ob_numbers f_1104), (ce_l60 y ob_moving f_1057)] := ⟨hP, hD⟩
                      obtain ⟨v_1105, ev_1105⟩ : ∃ z : Int32, z = v_1090 + 1 := ⟨_, rfl⟩
                      have qv_1105 := ba_add ev_1105 nc_1099.1 (bkc (x := 1) (c := 1) (by decide)) (by decide)
                      have bv_1105 : (1 : Int) ≤ v_1105.toInt ∧ v_1105.toInt ≤ 60 := bq_add qv_1105 nc_1099.1 (bkc (x := 1) (c := 1) (by decide)) _ _ (by decide)
                      have qv_1105 : v_1105.toInt = v_1090.toInt + (1) := qv_1105
                      refine lv_iinc (v := v_1105) (lv' := [(6, .int v_1105), (0, .ref ob), (3, .int 0), (4, .int a4), (5, .int a5)]) hx hb dX10_paste_179 hl (k := 0) rfl (ev_1105.symm) (by decide) rfl (fun ls hl => ?_)
                      refine lv_goto (tgt := 150) hx hb dX10_paste_182 (by decide) ?_
                      exact ih_1098 _ (ml_inc (hi := 60) hn_1098 qv_1105 (by decide) ((bw (0) (60) bv_1105 (by decide))).2) _ _ _ _ ⟨v_1105, f_1104, rfl, (bw (0) (60) bv_1105 (by decide)), (nl_s rl1091_0 hf_1104 ev_1103 (by omega) (by omega) (by omega) (by omega)), (by omega), rfl, ⟨hP, hD⟩, hS, lv_sub hl [0, 1, 2, 3, 4] rfl⟩
                  · skip
                    have nc_1065 := nb_nle (59) (1) c_1065 bv_1056 h_1031 (by decide)
                    refine lv_aload_n hx hb dX10_paste_120 rfl (lv_at hl 1 rfl) ?_
                    refine va_get (D := G) (ci := 10) (v := .ref ob_moving) (C := RX10) (T := TX10) (N := 41) hx hb hw0 inA_wsX100 hown hK.1 hP 0 rfl rfl 40 (by decide) (hw0 _ m_529) (fun _ h9 => h9) rfl dX10_paste_121 ?_
                    refine lv_iload hx hb dX10_paste_124 (lv_at hl 0 rfl) ?_
                    refine lv_aload_n hx hb dX10_paste_126 rfl (lv_at hl 1 rfl) ?_
                    refine va_get (D := G) (ci := 10) (v := .ref ob_numbers) (C := RX10) (T := TX10) (N := 41) hx hb hw0 inA_wsX100 hown hK.1 hP 0 rfl rfl 39 (by decide) (hw0 _ m_435) (fun _ h9 => h9) rfl dX10_paste_127 ?_
                    refine lv_bipush (v := 60) hx hb dX10_paste_130 (by decide) ?_
                    refine lv_iload_n hx hb dX10_paste_132 rfl (lv_at hl 2 rfl) ?_
                    refine lv_imul hx hb dX10_paste_133 ?_
                    refine lv_topi (fun v_1106 ev_1106 => ?_)
                    obtain rfl : 0 = v_1106 := (ev_1106.trans (by decide)).symm
                    refine lv_iload_n hx hb dX10_paste_134 rfl (lv_at hl 3 rfl) ?_
                    refine lv_iadd hx hb dX10_paste_135 ?_
                    refine lv_topi (fun v_1107 ev_1107 => ?_)
                    have qv_1107 := ba_add ev_1107 (bkc (x := 0) (c := 0) (by decide)) h_1029 (by decide)
                    have bv_1107 : (0 : Int) ≤ v_1107.toInt ∧ v_1107.toInt ≤ 60 := bq_add qv_1107 (bkc (x := 0) (c := 0) (by decide)) h_1029 _ _ (by decide)
                    have qv_1107 : v_1107.toInt = (0) + a2.toInt := qv_1107
                    refine lv_iload hx hb dX10_paste_136 (lv_at hl 0 rfl) ?_
                    refine lv_iadd hx hb dX10_paste_138 ?_
                    refine lv_topi (fun v_1108 ev_1108 => ?_)
                    have qv_1108 := ba_add ev_1108 bv_1107 nc_1065.1 (by decide)
                    have bv_1108 : (0 : Int) ≤ v_1108.toInt ∧ v_1108.toInt ≤ 119 := bq_add qv_1108 bv_1107 nc_1065.1 _ _ (by decide)
                    refine va_lald hx hb hK.1 hP 3 2 rfl rfl (vi bv_1108 (by decide)) dX10_paste_139 ?_
                    refine lv_topl (fun v_1109 ev_1109 => ?_)
                    refine va_last hx hb hK.1 hP hD hS 4 2 rfl rfl (vi nc_1065.1 (by decide)) dX10_paste_140 (fun H locs hP hD hS => ?_)
                    generalize hf_1110 : (vp_updL f_1057 (v_1056 : Int32).toNatClampNeg v_1109) = f_1110 at hP hD
                    obtain ⟨hP, hD⟩ : vPD G A H [(ce_X10 ob ob_thrown ob_world ob_images ob_hasImage ob_tape ob_taped ob_five ob_size ob_at ob_from ob_token ob_value ob_faultKind ob_faultPlace ob_fresh ob_parts ob_houses ob_houseMany ob_worthOf ob_byCall ob_over ob_bestSet ob_bestOver ob_bestWorth ob_row ob_tenDebts ob_tenMany ob_fewestBy ob_covered ob_queue ob_cameBy ob_parent ob_met ob_calls ob_callMany ob_calledOn ob_saved ob_many ob_width ob_numbers ob_moving), (ce_i4 y ob_many fob_many), (ce_i4 y ob_width fob_width), (ce_l240 y ob_numbers fob_numbers), (ce_l60 y ob_moving f_1110)] := ⟨hP, hD⟩
                    obtain ⟨v_1111, ev_1111⟩ : ∃ z : Int32, z = v_1056 + 1 := ⟨_, rfl⟩
                    have qv_1111 := ba_add ev_1111 nc_1065.1 (bkc (x := 1) (c := 1) (by decide)) (by decide)
                    have bv_1111 : (1 : Int) ≤ v_1111.toInt ∧ v_1111.toInt ≤ 60 := bq_add qv_1111 nc_1065.1 (bkc (x := 1) (c := 1) (by decide)) _ _ (by decide)
                    have qv_1111 : v_1111.toInt = v_1056.toInt + (1) := qv_1111
                    refine lv_iinc (v := v_1111) (lv' := [(6, .int v_1111), (0, .ref ob), (1, .int 0), (2, .int a2), (3, .int 0), (4, .int a4), (5, .int a5)]) hx hb dX10_paste_141 hl (k := 0) rfl (ev_1111.symm) (by decide) rfl (fun ls hl => ?_)
                    refine lv_goto (tgt := 113) hx hb dX10_paste_144 (by decide) ?_
                    exact ih_1064 _ (ml_inc (hi := 60) hn_1064 qv_1111 (by decide) ((bw (0) (60) bv_1111 (by decide))).2) _ _ _ _ ⟨v_1111, f_1110, rfl, (bw (0) (60) bv_1111 (by decide)), (ml_s rl1057_0 hf_1110 ev_1109 (by omega) (by omega) (by omega) (by omega)), rfl, ⟨hP, hD⟩, hS, lv_sub hl [0, 1, 2, 3, 4, 5, 6] rfl⟩
                · skip
                  have nc_1028 := jl_nle c_1028
                  refine lv_bipush (v := (-7)) hx hb dX10_paste_107 (by decide) ?_
                  exact W.iret (v := (-7)) hx hb hr (fun t ht hW => ⟨⟨(-7), _, rfl, Or.inr (Or.inl (⟨by have h90 : Int32.toInt (-7) = -7 := (by decide); have h91 : Int32.toInt 0 = 0 := (by decide); omega, rfl, rfl⟩)), by rw [ht]; exact hP, hD⟩, hS.F ht⟩) hS.2.2 dX10_paste_109

set_option maxHeartbeats 4000000 in
set_option maxRecDepth 100000 in
theorem fpasteM01 (l : Launch) (G : va_G) (y : Nat → ClassId) (sz : Nat) (ob : Nat) (a2 : Int32) (a4 : Int32) (a5 : Int32) (ob_thrown : Int32) (ob_world : Nat) (ob_images : Nat) (ob_hasImage : Nat) (ob_tape : Nat) (ob_taped : Int32) (ob_five : Nat) (ob_size : Int32) (ob_at : Int32) (ob_from : Int32) (ob_token : Int32) (ob_value : Int32) (ob_faultKind : Int32) (ob_faultPlace : Int32) (ob_fresh : Nat) (ob_parts : Nat) (ob_houses : Nat) (ob_houseMany : Int32) (ob_worthOf : Nat) (ob_byCall : Nat) (ob_over : Nat) (ob_bestSet : Int32) (ob_bestOver : Int32) (ob_bestWorth : Int32) (ob_row : Nat) (ob_tenDebts : Nat) (ob_tenMany : Int32) (ob_fewestBy : Nat) (ob_covered : Nat) (ob_queue : Nat) (ob_cameBy : Nat) (ob_parent : Nat) (ob_met : Nat) (ob_calls : Nat) (ob_callMany : Int32) (ob_calledOn : Nat) (ob_saved : Nat) (ob_many : Nat) (ob_width : Nat) (ob_numbers : Nat) (ob_moving : Nat) (fob_many : Nat → Int32) (fob_width : Nat → Int32) (fob_numbers : Nat → Int64) (fob_moving : Nat → Int64) (p_ob_taped : (0 : Int) ≤ ob_taped.toInt ∧ ob_taped.toInt ≤ 1400) (p_ob_size : (0 : Int) ≤ ob_size.toInt ∧ ob_size.toInt ≤ 1400) (p_ob_at : (0 : Int) ≤ ob_at.toInt ∧ ob_at.toInt ≤ 1400) (p_ob_from : (0 : Int) ≤ ob_from.toInt ∧ ob_from.toInt ≤ 1400) (p_ob_token : (0 : Int) ≤ ob_token.toInt ∧ ob_token.toInt ≤ 4) (p_ob_value : (0 : Int) ≤ ob_value.toInt ∧ ob_value.toInt ≤ 9999) (p_ob_faultKind : (0 : Int) ≤ ob_faultKind.toInt ∧ ob_faultKind.toInt ≤ 3) (p_ob_houseMany : (0 : Int) ≤ ob_houseMany.toInt ∧ ob_houseMany.toInt ≤ 10) (p_ob_bestSet : (0 : Int) ≤ ob_bestSet.toInt ∧ ob_bestSet.toInt ≤ 1023) (p_ob_bestOver : (-1 : Int) ≤ ob_bestOver.toInt ∧ ob_bestOver.toInt ≤ 180) (p_ob_tenMany : (0 : Int) ≤ ob_tenMany.toInt ∧ ob_tenMany.toInt ≤ 10) (p_ob_callMany : (0 : Int) ≤ ob_callMany.toInt ∧ ob_callMany.toInt ≤ 16) (p_fob_many : ∀ i, (-1 : Int) ≤ (fob_many i).toInt ∧ (fob_many i).toInt ≤ 60) (p_fob_width : ∀ i, (0 : Int) ≤ (fob_width i).toInt ∧ (fob_width i).toInt ≤ 3) : Met l yX10_paste (Cond.code yX10_paste cX10_paste 7 (some .int) :: wAll) ({ frames := 2, cells := 0, slots := 0, locals := 45 }) (va_Pc [.ref ob, .int 0, .int a2, .int 1, .int a4, .int a5] (kp G y sz [(ce_X10 ob ob_thrown ob_world ob_images ob_hasImage ob_tape ob_taped ob_five ob_size ob_at ob_from ob_token ob_value ob_faultKind ob_faultPlace ob_fresh ob_parts ob_houses ob_houseMany ob_worthOf ob_byCall ob_over ob_bestSet ob_bestOver ob_bestWorth ob_row ob_tenDebts ob_tenMany ob_fewestBy ob_covered ob_queue ob_cameBy ob_parent ob_met ob_calls ob_callMany ob_calledOn ob_saved ob_many ob_width ob_numbers ob_moving), (ce_i4 y ob_many fob_many), (ce_i4 y ob_width fob_width), (ce_l240 y ob_numbers fob_numbers), (ce_l60 y ob_moving fob_moving)])) (va_Qi (fun (r : Int32) (w : va_W) => (((fob_many 0).toInt = -1 ∨ (fob_many 1).toInt = -1) ∧ r = (-6) ∧ w = [(ce_X10 ob ob_thrown ob_world ob_images ob_hasImage ob_tape ob_taped ob_five ob_size ob_at ob_from ob_token ob_value ob_faultKind ob_faultPlace ob_fresh ob_parts ob_houses ob_houseMany ob_worthOf ob_byCall ob_over ob_bestSet ob_bestOver ob_bestWorth ob_row ob_tenDebts ob_tenMany ob_fewestBy ob_covered ob_queue ob_cameBy ob_parent ob_met ob_calls ob_callMany ob_calledOn ob_saved ob_many ob_width ob_numbers ob_moving), (ce_i4 y ob_many fob_many), (ce_i4 y ob_width fob_width), (ce_l240 y ob_numbers fob_numbers), (ce_l60 y ob_moving fob_moving)]) ∨ ((¬ (fob_many 0).toInt = -1 ∧ ¬ (fob_many 1).toInt = -1 ∧ (fob_width 0).toInt = (fob_width 1).toInt ∧ ¬ (0 ≤ a2.toInt ∧ 0 ≤ a4.toInt ∧ 0 ≤ a5.toInt ∧ a2.toInt + a5.toInt ≤ (fob_many 0).toInt ∧ a4.toInt + a5.toInt ≤ (fob_many 1).toInt)) ∧ r = (-7) ∧ w = [(ce_X10 ob ob_thrown ob_world ob_images ob_hasImage ob_tape ob_taped ob_five ob_size ob_at ob_from ob_token ob_value ob_faultKind ob_faultPlace ob_fresh ob_parts ob_houses ob_houseMany ob_worthOf ob_byCall ob_over ob_bestSet ob_bestOver ob_bestWorth ob_row ob_tenDebts ob_tenMany ob_fewestBy ob_covered ob_queue ob_cameBy ob_parent ob_met ob_calls ob_callMany ob_calledOn ob_saved ob_many ob_width ob_numbers ob_moving), (ce_i4 y ob_many fob_many), (ce_i4 y ob_width fob_width), (ce_l240 y ob_numbers fob_numbers), (ce_l60 y ob_moving fob_moving)]) ∨ ((¬ (fob_many 0).toInt = -1 ∧ ¬ (fob_many 1).toInt = -1 ∧ ¬ (fob_width 0).toInt = (fob_width 1).toInt) ∧ r = (-8) ∧ w = [(ce_X10 ob ob_thrown ob_world ob_images ob_hasImage ob_tape ob_taped ob_five ob_size ob_at ob_from ob_token ob_value ob_faultKind ob_faultPlace ob_fresh ob_parts ob_houses ob_houseMany ob_worthOf ob_byCall ob_over ob_bestSet ob_bestOver ob_bestWorth ob_row ob_tenDebts ob_tenMany ob_fewestBy ob_covered ob_queue ob_cameBy ob_parent ob_met ob_calls ob_callMany ob_calledOn ob_saved ob_many ob_width ob_numbers ob_moving), (ce_i4 y ob_many fob_many), (ce_i4 y ob_width fob_width), (ce_l240 y ob_numbers fob_numbers), (ce_l60 y ob_moving fob_moving)]) ∨ (∃ (f_227 : Nat → Int64) (f_228 : Nat → Int64), ((0 : Int) ≤ a2.toInt ∧ a2.toInt ≤ 60) ∧ ((0 : Int) ≤ a4.toInt ∧ a4.toInt ≤ 60) ∧ ((0 : Int) ≤ a5.toInt ∧ a5.toInt ≤ 60) ∧ (¬ (fob_many 0).toInt = -1 ∧ ¬ (fob_many 1).toInt = -1 ∧ (fob_width 0).toInt = (fob_width 1).toInt ∧ 0 ≤ a2.toInt ∧ 0 ≤ a4.toInt ∧ 0 ≤ a5.toInt ∧ a2.toInt + a5.toInt ≤ (fob_many 0).toInt ∧ a4.toInt + a5.toInt ≤ (fob_many 1).toInt) ∧ (pL f_227 fob_numbers (0 + a2.toInt.toNat) (60 + a4.toInt.toNat) a5.toInt) ∧ r = 0 ∧ w = [(ce_X10 ob ob_thrown ob_world ob_images ob_hasImage ob_tape ob_taped ob_five ob_size ob_at ob_from ob_token ob_value ob_faultKind ob_faultPlace ob_fresh ob_parts ob_houses ob_houseMany ob_worthOf ob_byCall ob_over ob_bestSet ob_bestOver ob_bestWorth ob_row ob_tenDebts ob_tenMany ob_fewestBy ob_covered ob_queue ob_cameBy ob_parent ob_met ob_calls ob_callMany ob_calledOn ob_saved ob_many ob_width ob_numbers ob_moving), (ce_i4 y ob_many fob_many), (ce_i4 y ob_width fob_width), (ce_l240 y ob_numbers f_227), (ce_l60 y ob_moving f_228)])) (kq G (va_A [(ce_X10 ob ob_thrown ob_world ob_images ob_hasImage ob_tape ob_taped ob_five ob_size ob_at ob_from ob_token ob_value ob_faultKind ob_faultPlace ob_fresh ob_parts ob_houses ob_houseMany ob_worthOf ob_byCall ob_over ob_bestSet ob_bestOver ob_bestWorth ob_row ob_tenDebts ob_tenMany ob_fewestBy ob_covered ob_queue ob_cameBy ob_parent ob_met ob_calls ob_callMany ob_calledOn ob_saved ob_many ob_width ob_numbers ob_moving), (ce_i4 y ob_many fob_many), (ce_i4 y ob_width fob_width), (ce_l240 y ob_numbers fob_numbers), (ce_l60 y ob_moving fob_moving)] sz)) (va_A [(ce_X10 ob ob_thrown ob_world ob_images ob_hasImage ob_tape ob_taped ob_five ob_size ob_at ob_from ob_token ob_value ob_faultKind ob_faultPlace ob_fresh ob_parts ob_houses ob_houseMany ob_worthOf ob_byCall ob_over ob_bestSet ob_bestOver ob_bestWorth ob_row ob_tenDebts ob_tenMany ob_fewestBy ob_covered ob_queue ob_cameBy ob_parent ob_met ob_calls ob_callMany ob_calledOn ob_saved ob_many ob_width ob_numbers ob_moving), (ce_i4 y ob_many fob_many), (ce_i4 y ob_width fob_width), (ce_l240 y ob_numbers fob_numbers), (ce_l60 y ob_moving fob_moving)] sz)) 0 0 (va_A [(ce_X10 ob ob_thrown ob_world ob_images ob_hasImage ob_tape ob_taped ob_five ob_size ob_at ob_from ob_token ob_value ob_faultKind ob_faultPlace ob_fresh ob_parts ob_houses ob_houseMany ob_worthOf ob_byCall ob_over ob_bestSet ob_bestOver ob_bestWorth ob_row ob_tenDebts ob_tenMany ob_fewestBy ob_covered ob_queue ob_cameBy ob_parent ob_met ob_calls ob_callMany ob_calledOn ob_saved ob_many ob_width ob_numbers ob_moving), (ce_i4 y ob_many fob_many), (ce_i4 y ob_width fob_width), (ce_l240 y ob_numbers fob_numbers), (ce_l60 y ob_moving fob_moving)] sz) := by
  refine Met.ofW (cc := cX10_paste) (maxL := 7) (ret := (some .int)) (by decide) rfl ?_
  intro p e s m args below meth c s₁ B hml hv
  obtain ⟨rfl, hsz, hP, hK, hD0⟩ := hv
  have hx := B.exec
  have hb := B.bytes
  have hr := B.returns
  have hw0 : ∀ w ∈ wAll, w.before _ s = true := fun w h => atoms_spec (ws := Cond.code yX10_paste cX10_paste 7 (some .int) :: wAll) B.pre w (List.mem_cons_of_mem _ h)
  have hown : s.vm.findClass RX10 = some m.cls := findClass_of_methodNamed B.named
  subst hsz
  have hD := hD0.self (sz := s.heap.size)
  generalize hAe : va_A [(ce_X10 ob ob_thrown ob_world ob_images ob_hasImage ob_tape ob_taped ob_five ob_size ob_at ob_from ob_token ob_value ob_faultKind ob_faultPlace ob_fresh ob_parts ob_houses ob_houseMany ob_worthOf ob_byCall ob_over ob_bestSet ob_bestOver ob_bestWorth ob_row ob_tenDebts ob_tenMany ob_fewestBy ob_covered ob_queue ob_cameBy ob_parent ob_met ob_calls ob_callMany ob_calledOn ob_saved ob_many ob_width ob_numbers ob_moving), (ce_i4 y ob_many fob_many), (ce_i4 y ob_width fob_width), (ce_l240 y ob_numbers fob_numbers), (ce_l60 y ob_moving fob_moving)] s.heap.size = A at hD ⊢
  have hA : ∀ q : Nat, s.heap.size ≤ q → A q := fun q h => by rw [← hAe]; exact Or.inr h
  have hS : va_S A s.heap s.heap [] := va_S.rf
  have hP : va_P G vwCl [(ce_X10 ob ob_thrown ob_world ob_images ob_hasImage ob_tape ob_taped ob_five ob_size ob_at ob_from ob_token ob_value ob_faultKind ob_faultPlace ob_fresh ob_parts ob_houses ob_houseMany ob_worthOf ob_byCall ob_over ob_bestSet ob_bestOver ob_bestWorth ob_row ob_tenDebts ob_tenMany ob_fewestBy ob_covered ob_queue ob_cameBy ob_parent ob_met ob_calls ob_callMany ob_calledOn ob_saved ob_many ob_width ob_numbers ob_moving), (ce_i4 y ob_many fob_many), (ce_i4 y ob_width fob_width), (ce_l240 y ob_numbers fob_numbers), (ce_l60 y ob_moving fob_moving)] s.heap := hP
  have hl := lv_entry ([.ref ob, .int 0, .int a2, .int 1, .int a4, .int a5]) (n := 7) (Nat.le_of_ble_eq_true rfl)
  rw [lg_entry_eq]
  generalize (lg_sl ([.ref ob, .int 0, .int a2, .int 1, .int a4, .int a5]) ++ List.replicate (7 - (lg_sl ([.ref ob, .int 0, .int a2, .int 1, .int a4, .int a5])).length) Slot.unset).toArray = ls at hl ⊢
  have hl : lv_has ls 7 [(0, .ref ob), (1, .int 0), (2, .int a2), (3, .int 1), (4, .int a4), (5, .int a5)] := hl
  refine lv_iload_n hx hb dX10_paste_0 rfl (lv_at hl 1 rfl) ?_
  refine cSim (As := [.int 0]) (rest := []) ⟨hx, hb, hml, hown, hw0⟩ hA hK hP hD hS [] (gisSlotM l G y _ 0 ) rfl ⟨(callB_of 1 hw0 (gA m_543) rfl rfl rfl (hw0 _ m_41) (hw0 _ m_433) cb_X10_isSlot ⟨Nat.le_of_ble_eq_true rfl, Nat.le_of_ble_eq_true rfl⟩), (hw0 _ m_434)⟩ rfl hl.1 (Nat.le_of_ble_eq_true rfl) dX10_paste_1 ⟨Nat.le_of_ble_eq_true rfl, Nat.le_of_ble_eq_true rfl⟩ (fun r_1001 w_1001 H locs hw_1001 hP hD hS => ?_)
  rcases hw_1001 with ⟨h_1002, rfl, rfl⟩ | ⟨h_1003, h_1004, rfl, rfl⟩
  · skip
    exact False.elim (by have h9 : Int32.toInt 0 = 0 := (by decide); omega)
  · skip
    obtain ⟨hP, hD⟩ : vPD G A H [(ce_X10 ob ob_thrown ob_world ob_images ob_hasImage ob_tape ob_taped ob_five ob_size ob_at ob_from ob_token ob_value ob_faultKind ob_faultPlace ob_fresh ob_parts ob_houses ob_houseMany ob_worthOf ob_byCall ob_over ob_bestSet ob_bestOver ob_bestWorth ob_row ob_tenDebts ob_tenMany ob_fewestBy ob_covered ob_queue ob_cameBy ob_parent ob_met ob_calls ob_callMany ob_calledOn ob_saved ob_many ob_width ob_numbers ob_moving), (ce_i4 y ob_many fob_many), (ce_i4 y ob_width fob_width), (ce_l240 y ob_numbers fob_numbers), (ce_l60 y ob_moving fob_moving)] := ⟨hP, hD⟩
    refine lv_if_eq (tgt := 14) hx hb dX10_paste_4 (by decide) (fun c9 => absurd c9 (by decide)) (fun _ => ?_)
    refine lv_iload_n hx hb dX10_paste_7 rfl (lv_at hl 3 rfl) ?_
    refine cSim (As := [.int 1]) (rest := []) ⟨hx, hb, hml, hown, hw0⟩ hA hK hP hD hS [] (gisSlotM l G y _ 1 ) rfl ⟨(callB_of 1 hw0 (gA m_543) rfl rfl rfl (hw0 _ m_41) (hw0 _ m_433) cb_X10_isSlot ⟨Nat.le_of_ble_eq_true rfl, Nat.le_of_ble_eq_true rfl⟩), (hw0 _ m_434)⟩ rfl hl.1 (Nat.le_of_ble_eq_true rfl) dX10_paste_8 ⟨Nat.le_of_ble_eq_true rfl, Nat.le_of_ble_eq_true rfl⟩ (fun r_1005 w_1005 H locs hw_1005 hP hD hS => ?_)
    rcases hw_1005 with ⟨h_1006, rfl, rfl⟩ | ⟨h_1007, h_1008, rfl, rfl⟩
    · skip
      exact False.elim (by have h9 : Int32.toInt 1 = 1 := (by decide); omega)
    · skip
      obtain ⟨hP, hD⟩ : vPD G A H [(ce_X10 ob ob_thrown ob_world ob_images ob_hasImage ob_tape ob_taped ob_five ob_size ob_at ob_from ob_token ob_value ob_faultKind ob_faultPlace ob_fresh ob_parts ob_houses ob_houseMany ob_worthOf ob_byCall ob_over ob_bestSet ob_bestOver ob_bestWorth ob_row ob_tenDebts ob_tenMany ob_fewestBy ob_covered ob_queue ob_cameBy ob_parent ob_met ob_calls ob_callMany ob_calledOn ob_saved ob_many ob_width ob_numbers ob_moving), (ce_i4 y ob_many fob_many), (ce_i4 y ob_width fob_width), (ce_l240 y ob_numbers fob_numbers), (ce_l60 y ob_moving fob_moving)] := ⟨hP, hD⟩
      refine lv_if_ne (tgt := 17) hx hb dX10_paste_11 (by decide) (fun _ => ?_) (fun c9 => absurd c9 (by decide))
      refine lv_aload_n hx hb dX10_paste_17 rfl (lv_at hl 0 rfl) ?_
      refine va_get (D := G) (ci := 10) (v := .ref ob_many) (C := RX10) (T := TX10) (N := 41) hx hb hw0 inA_wsX100 hown hK.1 hP 0 rfl rfl 37 (by decide) (hw0 _ m_406) (fun _ h9 => h9) rfl dX10_paste_18 ?_
      refine lv_iload_n hx hb dX10_paste_21 rfl (lv_at hl 1 rfl) ?_
      refine va_iald hx hb hK.1 hP 1 1 rfl rfl (vi (bkc (x := 0) (c := 0) (by decide)) (by decide)) dX10_paste_22 ?_
      refine lv_topi (fun v_1009 ev_1009 => ?_)
      have bv_1009 : (-1 : Int) ≤ v_1009.toInt ∧ v_1009.toInt ≤ 60 := rd_b ev_1009 p_fob_many
      have yv_1009 : v_1009.toInt = (fob_many 0).toInt := congrArg Int32.toInt ev_1009
      refine lv_iconst (v := (-1)) hx hb dX10_paste_23 (by decide) ?_
      refine lv_icmp_eq (tgt := 37) hx hb dX10_paste_24 (by decide) (fun c_1010 => ?_) (fun c_1010 => ?_)
      · skip
        have nc_1010 := nb_eq (-1) (-1) c_1010 bv_1009 (bkc (x := (-1)) (c := -1) (by decide)) (by decide)
        refine lv_bipush (v := (-6)) hx hb dX10_paste_37 (by decide) ?_
        exact W.iret (v := (-6)) hx hb hr (fun t ht hW => ⟨⟨(-6), _, rfl, Or.inl (⟨by have h90 : Int32.toInt (-6) = -6 := (by decide); have h91 : Int32.toInt 0 = 0 := (by decide); have h92 : Int32.toInt 1 = 1 := (by decide); omega, rfl, rfl⟩), by rw [ht]; exact hP, hD⟩, hS.F ht⟩) hS.2.2 dX10_paste_39
      · skip
        have nc_1010 := nb_ne (0) (60) c_1010 bv_1009 (k := -1) (by decide) (by decide)
        refine lv_aload_n hx hb dX10_paste_27 rfl (lv_at hl 0 rfl) ?_
        refine va_get (D := G) (ci := 10) (v := .ref ob_many) (C := RX10) (T := TX10) (N := 41) hx hb hw0 inA_wsX100 hown hK.1 hP 0 rfl rfl 37 (by decide) (hw0 _ m_406) (fun _ h9 => h9) rfl dX10_paste_28 ?_
        refine lv_iload_n hx hb dX10_paste_31 rfl (lv_at hl 3 rfl) ?_
        refine va_iald hx hb hK.1 hP 1 1 rfl rfl (vi (bkc (x := 1) (c := 1) (by decide)) (by decide)) dX10_paste_32 ?_
        refine lv_topi (fun v_1011 ev_1011 => ?_)
        have bv_1011 : (-1 : Int) ≤ v_1011.toInt ∧ v_1011.toInt ≤ 60 := rd_b ev_1011 p_fob_many
        have yv_1011 : v_1011.toInt = (fob_many 1).toInt := congrArg Int32.toInt ev_1011
        refine lv_iconst (v := (-1)) hx hb dX10_paste_33 (by decide) ?_
        refine lv_icmp_ne (tgt := 40) hx hb dX10_paste_34 (by decide) (fun c_1012 => ?_) (fun c_1012 => ?_)
        · skip
          have nc_1012 := nb_ne (0) (60) c_1012 bv_1011 (k := -1) (by decide) (by decide)
          refine lv_aload_n hx hb dX10_paste_40 rfl (lv_at hl 0 rfl) ?_
          refine va_get (D := G) (ci := 10) (v := .ref ob_width) (C := RX10) (T := TX10) (N := 41) hx hb hw0 inA_wsX100 hown hK.1 hP 0 rfl rfl 38 (by decide) (hw0 _ m_527) (fun _ h9 => h9) rfl dX10_paste_41 ?_
          refine lv_iload_n hx hb dX10_paste_44 rfl (lv_at hl 1 rfl) ?_
          refine va_iald hx hb hK.1 hP 2 1 rfl rfl (vi (bkc (x := 0) (c := 0) (by decide)) (by decide)) dX10_paste_45 ?_
          refine lv_topi (fun v_1013 ev_1013 => ?_)
          have bv_1013 : (0 : Int) ≤ v_1013.toInt ∧ v_1013.toInt ≤ 3 := rd_b ev_1013 p_fob_width
          have yv_1013 : v_1013.toInt = (fob_width 0).toInt := congrArg Int32.toInt ev_1013
          refine lv_aload_n hx hb dX10_paste_46 rfl (lv_at hl 0 rfl) ?_
          refine va_get (D := G) (ci := 10) (v := .ref ob_width) (C := RX10) (T := TX10) (N := 41) hx hb hw0 inA_wsX100 hown hK.1 hP 0 rfl rfl 38 (by decide) (hw0 _ m_527) (fun _ h9 => h9) rfl dX10_paste_47 ?_
          refine lv_iload_n hx hb dX10_paste_50 rfl (lv_at hl 3 rfl) ?_
          refine va_iald hx hb hK.1 hP 2 1 rfl rfl (vi (bkc (x := 1) (c := 1) (by decide)) (by decide)) dX10_paste_51 ?_
          refine lv_topi (fun v_1014 ev_1014 => ?_)
          have bv_1014 : (0 : Int) ≤ v_1014.toInt ∧ v_1014.toInt ≤ 3 := rd_b ev_1014 p_fob_width
          have yv_1014 : v_1014.toInt = (fob_width 1).toInt := congrArg Int32.toInt ev_1014
          refine lv_icmp_eq (tgt := 58) hx hb dX10_paste_52 (by decide) (fun c_1015 => ?_) (fun c_1015 => ?_)
          · skip
            have nc_1015 := nb_eq (0) (3) c_1015 bv_1013 bv_1014 (by decide)
            refine lv_iload_n hx hb dX10_paste_58 rfl (lv_at hl 2 rfl) ?_
            refine lv_if_lt (tgt := 107) hx hb dX10_paste_59 (by decide) (fun c_1016 => ?_) (fun c_1016 => ?_)
            · skip
              have nc_1016 := nb_lt (-1) (0) c_1016 (btop a2) (bkc (x := 0) (c := 0) (by decide)) (by decide)
              refine lv_bipush (v := (-7)) hx hb dX10_paste_107 (by decide) ?_
              exact W.iret (v := (-7)) hx hb hr (fun t ht hW => ⟨⟨(-7), _, rfl, Or.inr (Or.inl (⟨by have h90 : Int32.toInt (-7) = -7 := (by decide); have h91 : Int32.toInt 0 = 0 := (by decide); have h92 : Int32.toInt 1 = 1 := (by decide); omega, rfl, rfl⟩)), by rw [ht]; exact hP, hD⟩, hS.F ht⟩) hS.2.2 dX10_paste_109
            · skip
              have nc_1016 := nb_nlt (0) (0) c_1016 (bkc (x := 0) (c := 0) (by decide)) (btop a2) (by decide)
              refine lv_iload hx hb dX10_paste_62 (lv_at hl 4 rfl) ?_
              refine lv_if_lt (tgt := 107) hx hb dX10_paste_64 (by decide) (fun c_1017 => ?_) (fun c_1017 => ?_)
              · skip
                have nc_1017 := nb_lt (-1) (0) c_1017 (btop a4) (bkc (x := 0) (c := 0) (by decide)) (by decide)
                refine lv_bipush (v := (-7)) hx hb dX10_paste_107 (by decide) ?_
                exact W.iret (v := (-7)) hx hb hr (fun t ht hW => ⟨⟨(-7), _, rfl, Or.inr (Or.inl (⟨by have h90 : Int32.toInt (-7) = -7 := (by decide); have h91 : Int32.toInt 0 = 0 := (by decide); have h92 : Int32.toInt 1 = 1 := (by decide); omega, rfl, rfl⟩)), by rw [ht]; exact hP, hD⟩, hS.F ht⟩) hS.2.2 dX10_paste_109
              · skip
                have nc_1017 := nb_nlt (0) (0) c_1017 (bkc (x := 0) (c := 0) (by decide)) (btop a4) (by decide)
                refine lv_iload hx hb dX10_paste_67 (lv_at hl 5 rfl) ?_
                refine lv_if_lt (tgt := 107) hx hb dX10_paste_69 (by decide) (fun c_1018 => ?_) (fun c_1018 => ?_)
                · skip
                  have nc_1018 := nb_lt (-1) (0) c_1018 (btop a5) (bkc (x := 0) (c := 0) (by decide)) (by decide)
                  refine lv_bipush (v := (-7)) hx hb dX10_paste_107 (by decide) ?_
                  exact W.iret (v := (-7)) hx hb hr (fun t ht hW => ⟨⟨(-7), _, rfl, Or.inr (Or.inl (⟨by have h90 : Int32.toInt (-7) = -7 := (by decide); have h91 : Int32.toInt 0 = 0 := (by decide); have h92 : Int32.toInt 1 = 1 := (by decide); omega, rfl, rfl⟩)), by rw [ht]; exact hP, hD⟩, hS.F ht⟩) hS.2.2 dX10_paste_109
                · skip
                  have nc_1018 := nb_nlt (0) (0) c_1018 (bkc (x := 0) (c := 0) (by decide)) (btop a5) (by decide)
                  refine lv_iload_n hx hb dX10_paste_72 rfl (lv_at hl 2 rfl) ?_
                  refine lv_i2l hx hb dX10_paste_73 rfl ?_
                  have kk_1019 : ((a2).toInt64).toInt = (a2).toInt := Int32.toInt_toInt64 _
                  refine lv_iload hx hb dX10_paste_74 (lv_at hl 5 rfl) ?_
                  refine lv_i2l hx hb dX10_paste_76 rfl ?_
                  have kk_1020 : ((a5).toInt64).toInt = (a5).toInt := Int32.toInt_toInt64 _
                  refine lv_ladd hx hb dX10_paste_77 ?_
                  refine lv_topl (fun v_1021 ev_1021 => ?_)
                  have qv_1021 := la_add ev_1021
                  refine lv_aload_n hx hb dX10_paste_78 rfl (lv_at hl 0 rfl) ?_
                  refine va_get (D := G) (ci := 10) (v := .ref ob_many) (C := RX10) (T := TX10) (N := 41) hx hb hw0 inA_wsX100 hown hK.1 hP 0 rfl rfl 37 (by decide) (hw0 _ m_406) (fun _ h9 => h9) rfl dX10_paste_79 ?_
                  refine lv_iload_n hx hb dX10_paste_82 rfl (lv_at hl 1 rfl) ?_
                  refine va_iald hx hb hK.1 hP 1 1 rfl rfl (vi (bkc (x := 0) (c := 0) (by decide)) (by decide)) dX10_paste_83 ?_
                  refine lv_topi (fun v_1022 ev_1022 => ?_)
                  obtain rfl : v_1009 = v_1022 := (ev_1022.trans (ev_1009.symm)).symm
                  refine lv_i2l hx hb dX10_paste_84 rfl ?_
                  have kk_1023 : ((v_1009).toInt64).toInt = (v_1009).toInt := Int32.toInt_toInt64 _
                  refine W.lcmp hx hb dX10_paste_85 ?_
                  refine lv_if_gt (tgt := 107) hx hb dX10_paste_86 (by decide) (fun c_1024 => ?_) (fun c_1024 => ?_)
                  · skip
                    have nc_1024 := jl_gt c_1024
                    refine lv_bipush (v := (-7)) hx hb dX10_paste_107 (by decide) ?_
                    exact W.iret (v := (-7)) hx hb hr (fun t ht hW => ⟨⟨(-7), _, rfl, Or.inr (Or.inl (⟨by have h90 : Int32.toInt (-7) = -7 := (by decide); have h91 : Int32.toInt 0 = 0 := (by decide); have h92 : Int32.toInt 1 = 1 := (by decide); omega, rfl, rfl⟩)), by rw [ht]; exact hP, hD⟩, hS.F ht⟩) hS.2.2 dX10_paste_109
                  · skip
                    have nc_1024 := jl_ngt c_1024
                    refine lv_iload hx hb dX10_paste_89 (lv_at hl 4 rfl) ?_
                    refine lv_i2l hx hb dX10_paste_91 rfl ?_
                    have kk_1025 : ((a4).toInt64).toInt = (a4).toInt := Int32.toInt_toInt64 _
                    refine lv_iload hx hb dX10_paste_92 (lv_at hl 5 rfl) ?_
                    refine lv_i2l hx hb dX10_paste_94 rfl ?_
                    have kk_1026 : ((a5).toInt64).toInt = (a5).toInt := Int32.toInt_toInt64 _
                    refine lv_ladd hx hb dX10_paste_95 ?_
                    refine lv_topl (fun v_1027 ev_1027 => ?_)
                    have qv_1027 := la_add ev_1027
                    refine lv_aload_n hx hb dX10_paste_96 rfl (lv_at hl 0 rfl) ?_
                    refine va_get (D := G) (ci := 10) (v := .ref ob_many) (C := RX10) (T := TX10) (N := 41) hx hb hw0 inA_wsX100 hown hK.1 hP 0 rfl rfl 37 (by decide) (hw0 _ m_406) (fun _ h9 => h9) rfl dX10_paste_97 ?_
                    refine lv_iload_n hx hb dX10_paste_100 rfl (lv_at hl 3 rfl) ?_
                    refine va_iald hx hb hK.1 hP 1 1 rfl rfl (vi (bkc (x := 1) (c := 1) (by decide)) (by decide)) dX10_paste_101 ?_
                    refine lv_topi (fun v_1028 ev_1028 => ?_)
                    obtain rfl : v_1011 = v_1028 := (ev_1028.trans (ev_1011.symm)).symm
                    refine lv_i2l hx hb dX10_paste_102 rfl ?_
                    have kk_1029 : ((v_1011).toInt64).toInt = (v_1011).toInt := Int32.toInt_toInt64 _
                    refine W.lcmp hx hb dX10_paste_103 ?_
                    refine lv_if_le (tgt := 110) hx hb dX10_paste_104 (by decide) (fun c_1030 => ?_) (fun c_1030 => ?_)
                    · skip
                      have nc_1030 := jl_le c_1030
                      have h_1031 : (0 : Int) ≤ a2.toInt ∧ a2.toInt ≤ 60 := by omega
                      have h_1032 : (0 : Int) ≤ a4.toInt ∧ a4.toInt ≤ 60 := by omega
                      have h_1033 : (0 : Int) ≤ a5.toInt ∧ a5.toInt ≤ 60 := by omega
                      refine lv_iconst (v := 0) hx hb dX10_paste_110 (by decide) ?_
                      refine lv_istore (lv' := [(6, .int 0), (0, .ref ob), (1, .int 0), (2, .int a2), (3, .int 1), (4, .int a4), (5, .int a5)]) hx hb dX10_paste_111 hl (by decide) rfl (fun ls hl => ?_)
                      refine loopX (fun n H locs ls st => ∃ (v_1058 : Int32) (f_1059 : Nat → Int64), (60 - v_1058.toInt).toNat = n ∧ ((0 : Int) ≤ v_1058.toInt ∧ v_1058.toInt ≤ 60) ∧ (mL f_1059 fob_numbers (0 + a2.toInt.toNat) v_1058.toInt) ∧ st = [] ∧ vPD G A H [(ce_X10 ob ob_thrown ob_world ob_images ob_hasImage ob_tape ob_taped ob_five ob_size ob_at ob_from ob_token ob_value ob_faultKind ob_faultPlace ob_fresh ob_parts ob_houses ob_houseMany ob_worthOf ob_byCall ob_over ob_bestSet ob_bestOver ob_bestWorth ob_row ob_tenDebts ob_tenMany ob_fewestBy ob_covered ob_queue ob_cameBy ob_parent ob_met ob_calls ob_callMany ob_calledOn ob_saved ob_many ob_width ob_numbers ob_moving), (ce_i4 y ob_many fob_many), (ce_i4 y ob_width fob_width), (ce_l240 y ob_numbers fob_numbers), (ce_l60 y ob_moving f_1059)] ∧ va_S A s.heap H locs ∧ lv_has ls 7 [(6, .int v_1058), (0, .ref ob), (1, .int 0), (2, .int a2), (3, .int 1), (4, .int a4), (5, .int a5)]) ?_ (n := (60 - (0 : Int32).toInt).toNat) ⟨0, fob_moving, rfl, (bw (0) (60) (bkc (x := 0) (c := 0) (by decide)) (by decide)), (ml_0 (by have h90 : Int32.toInt 0 = 0 := (by decide); have h91 : Int32.toInt 1 = 1 := (by decide); omega)), rfl, ⟨hP, hD⟩, hS, lv_sub hl [0, 1, 2, 3, 4, 5, 6] rfl⟩
                      rintro n ih_1066 H locs ls st ⟨v_1058, f_1059, hn_1066, bv_1058, rl1059_0, rfl, ⟨hP, hD⟩, hS, hl⟩
                      refine lv_iload hx hb dX10_paste_113 (lv_at hl 0 rfl) ?_
                      refine lv_iload hx hb dX10_paste_115 (lv_at hl 6 rfl) ?_
                      refine lv_icmp_ge (tgt := 147) hx hb dX10_paste_117 (by decide) (fun c_1067 => ?_) (fun c_1067 => ?_)
                      · skip
                        have nc_1067 := nb_le (60) (0) c_1067 h_1033 bv_1058 (by decide)
                        refine lv_iconst (v := 0) hx hb dX10_paste_147 (by decide) ?_
                        refine lv_istore (lv' := [(6, .int 0), (0, .ref ob), (1, .int 0), (2, .int a2), (3, .int 1), (4, .int a4), (5, .int a5)]) hx hb dX10_paste_148 hl (by decide) rfl (fun ls hl => ?_)
                        refine loopX (fun n H locs ls st => ∃ (v_1092 : Int32) (f_1093 : Nat → Int64), (60 - v_1092.toInt).toNat = n ∧ ((0 : Int) ≤ v_1092.toInt ∧ v_1092.toInt ≤ 60) ∧ (nL f_1093 fob_numbers f_1059 (60 + a4.toInt.toNat) v_1092.toInt) ∧ (v_1092.toInt ≤ a5.toInt) ∧ st = [] ∧ vPD G A H [(ce_X10 ob ob_thrown ob_world ob_images ob_hasImage ob_tape ob_taped ob_five ob_size ob_at ob_from ob_token ob_value ob_faultKind ob_faultPlace ob_fresh ob_parts ob_houses ob_houseMany ob_worthOf ob_byCall ob_over ob_bestSet ob_bestOver ob_bestWorth ob_row ob_tenDebts ob_tenMany ob_fewestBy ob_covered ob_queue ob_cameBy ob_parent ob_met ob_calls ob_callMany ob_calledOn ob_saved ob_many ob_width ob_numbers ob_moving), (ce_i4 y ob_many fob_many), (ce_i4 y ob_width fob_width), (ce_l240 y ob_numbers f_1093), (ce_l60 y ob_moving f_1059)] ∧ va_S A s.heap H locs ∧ lv_has ls 7 [(6, .int v_1092), (0, .ref ob), (3, .int 1), (4, .int a4), (5, .int a5)]) ?_ (n := (60 - (0 : Int32).toInt).toNat) ⟨0, fob_numbers, rfl, (bw (0) (60) (bkc (x := 0) (c := 0) (by decide)) (by decide)), (nl_0 (by have h90 : Int32.toInt 0 = 0 := (by decide); have h91 : Int32.toInt 1 = 1 := (by decide); omega)), (by have h90 : Int32.toInt 0 = 0 := (by decide); omega), rfl, ⟨hP, hD⟩, hS, lv_sub hl [0, 1, 4, 5, 6] rfl⟩
                        rintro n ih_1100 H locs ls st ⟨v_1092, f_1093, hn_1100, bv_1092, rl1093_0, rl1093_1, rfl, ⟨hP, hD⟩, hS, hl⟩
                        refine lv_iload hx hb dX10_paste_150 (lv_at hl 0 rfl) ?_
                        refine lv_iload hx hb dX10_paste_152 (lv_at hl 4 rfl) ?_
                        refine lv_icmp_ge (tgt := 185) hx hb dX10_paste_154 (by decide) (fun c_1101 => ?_) (fun c_1101 => ?_)
                        · skip
                          have nc_1101 := nb_le (60) (0) c_1101 nc_1067.1 bv_1092 (by decide)
                          refine lv_iconst (v := 0) hx hb dX10_paste_185 (by decide) ?_
                          exact W.iret (v := 0) hx hb hr (fun t ht hW => ⟨⟨0, _, rfl, Or.inr (Or.inr (Or.inr (⟨f_1093, f_1059, h_1031, h_1032, nc_1101.1, by have h90 : Int32.toInt 0 = 0 := (by decide); have h91 : Int32.toInt 1 = 1 := (by decide); omega, (pl_e rl1059_0 rl1093_0 (by omega) (by omega)), rfl, rfl⟩))), by rw [ht]; exact hP, hD⟩, hS.F ht⟩) hS.2.2 dX10_paste_186
                        · skip
                          have nc_1101 := nb_nle (59) (1) c_1101 bv_1092 nc_1067.1 (by decide)
                          refine lv_aload_n hx hb dX10_paste_157 rfl (lv_at hl 1 rfl) ?_
                          refine va_get (D := G) (ci := 10) (v := .ref ob_numbers) (C := RX10) (T := TX10) (N := 41) hx hb hw0 inA_wsX100 hown hK.1 hP 0 rfl rfl 39 (by decide) (hw0 _ m_435) (fun _ h9 => h9) rfl dX10_paste_158 ?_
                          refine lv_bipush (v := 60) hx hb dX10_paste_161 (by decide) ?_
                          refine lv_iload_n hx hb dX10_paste_163 rfl (lv_at hl 2 rfl) ?_
                          refine lv_imul hx hb dX10_paste_164 ?_
                          refine lv_topi (fun v_1102 ev_1102 => ?_)
                          obtain rfl : 60 = v_1102 := (ev_1102.trans (by decide)).symm
                          refine lv_iload hx hb dX10_paste_165 (lv_at hl 3 rfl) ?_
                          refine lv_iadd hx hb dX10_paste_167 ?_
                          refine lv_topi (fun v_1103 ev_1103 => ?_)
                          have qv_1103 := ba_add ev_1103 (bkc (x := 60) (c := 60) (by decide)) h_1032 (by decide)
                          have bv_1103 : (60 : Int) ≤ v_1103.toInt ∧ v_1103.toInt ≤ 120 := bq_add qv_1103 (bkc (x := 60) (c := 60) (by decide)) h_1032 _ _ (by decide)
                          have qv_1103 : v_1103.toInt = (60) + a4.toInt := qv_1103
                          refine lv_iload hx hb dX10_paste_168 (lv_at hl 0 rfl) ?_
                          refine lv_iadd hx hb dX10_paste_170 ?_
                          refine lv_topi (fun v_1104 ev_1104 => ?_)
                          have qv_1104 := ba_add ev_1104 bv_1103 nc_1101.1 (by decide)
                          have bv_1104 : (60 : Int) ≤ v_1104.toInt ∧ v_1104.toInt ≤ 179 := bq_add qv_1104 bv_1103 nc_1101.1 _ _ (by decide)
                          refine lv_aload_n hx hb dX10_paste_171 rfl (lv_at hl 1 rfl) ?_
                          refine va_get (D := G) (ci := 10) (v := .ref ob_moving) (C := RX10) (T := TX10) (N := 41) hx hb hw0 inA_wsX100 hown hK.1 hP 0 rfl rfl 40 (by decide) (hw0 _ m_529) (fun _ h9 => h9) rfl dX10_paste_172 ?_
                          refine lv_iload hx hb dX10_paste_175 (lv_at hl 0 rfl) ?_
                          refine va_lald hx hb hK.1 hP 4 2 rfl rfl (vi nc_1101.1 (by decide)) dX10_paste_177 ?_
                          refine lv_topl (fun v_1105 ev_1105 => ?_)
                          refine va_last hx hb hK.1 hP hD hS 3 2 rfl rfl (vi bv_1104 (by decide)) dX10_paste_178 (fun H locs hP hD hS => ?_)
                          generalize hf_1106 : (vp_updL f_1093 (v_1104 : Int32).toNatClampNeg v_1105) = f_1106 at hP hD
                          obtain ⟨hP, hD⟩ : vPD G A H [(ce_X10 ob ob_thrown ob_world ob_images ob_hasImage ob_tape ob_taped ob_five ob_size ob_at ob_from ob_token ob_value ob_faultKind ob_faultPlace ob_fresh ob_parts ob_houses ob_houseMany ob_worthOf ob_byCall ob_over ob_bestSet ob_bestOver ob_bestWorth ob_row ob_tenDebts ob_tenMany ob_fewestBy ob_covered ob_queue ob_cameBy ob_parent ob_met ob_calls ob_callMany ob_calledOn ob_saved ob_many ob_width ob_numbers ob_moving), (ce_i4 y ob_many fob_many), (ce_i4 y ob_width fob_width), (ce_l240 y ob_numbers f_1106), (ce_l60 y ob_moving f_1059)] := ⟨hP, hD⟩
                          obtain ⟨v_1107, ev_1107⟩ : ∃ z : Int32, z = v_1092 + 1 := ⟨_, rfl⟩
                          have qv_1107 := ba_add ev_1107 nc_1101.1 (bkc (x := 1) (c := 1) (by decide)) (by decide)
                          have bv_1107 : (1 : Int) ≤ v_1107.toInt ∧ v_1107.toInt ≤ 60 := bq_add qv_1107 nc_1101.1 (bkc (x := 1) (c := 1) (by decide)) _ _ (by decide)
                          have qv_1107 : v_1107.toInt = v_1092.toInt + (1) := qv_1107
                          refine lv_iinc (v := v_1107) (lv' := [(6, .int v_1107), (0, .ref ob), (3, .int 1), (4, .int a4), (5, .int a5)]) hx hb dX10_paste_179 hl (k := 0) rfl (ev_1107.symm) (by decide) rfl (fun ls hl => ?_)
                          refine lv_goto (tgt := 150) hx hb dX10_paste_182 (by decide) ?_
                          exact ih_1100 _ (ml_inc (hi := 60) hn_1100 qv_1107 (by decide) ((bw (0) (60) bv_1107 (by decide))).2) _ _ _ _ ⟨v_1107, f_1106, rfl, (bw (0) (60) bv_1107 (by decide)), (nl_s rl1093_0 hf_1106 ev_1105 (by omega) (by omega) (by omega) (by omega)), (by omega), rfl, ⟨hP, hD⟩, hS, lv_sub hl [0, 1, 2, 3, 4] rfl⟩
                      · skip
                        have nc_1067 := nb_nle (59) (1) c_1067 bv_1058 h_1033 (by decide)
                        refine lv_aload_n hx hb dX10_paste_120 rfl (lv_at hl 1 rfl) ?_
                        refine va_get (D := G) (ci := 10) (v := .ref ob_moving) (C := RX10) (T := TX10) (N := 41) hx hb hw0 inA_wsX100 hown hK.1 hP 0 rfl rfl 40 (by decide) (hw0 _ m_529) (fun _ h9 => h9) rfl dX10_paste_121 ?_
                        refine lv_iload hx hb dX10_paste_124 (lv_at hl 0 rfl) ?_
                        refine lv_aload_n hx hb dX10_paste_126 rfl (lv_at hl 1 rfl) ?_
                        refine va_get (D := G) (ci := 10) (v := .ref ob_numbers) (C := RX10) (T := TX10) (N := 41) hx hb hw0 inA_wsX100 hown hK.1 hP 0 rfl rfl 39 (by decide) (hw0 _ m_435) (fun _ h9 => h9) rfl dX10_paste_127 ?_
                        refine lv_bipush (v := 60) hx hb dX10_paste_130 (by decide) ?_
                        refine lv_iload_n hx hb dX10_paste_132 rfl (lv_at hl 2 rfl) ?_
                        refine lv_imul hx hb dX10_paste_133 ?_
                        refine lv_topi (fun v_1108 ev_1108 => ?_)
                        obtain rfl : 0 = v_1108 := (ev_1108.trans (by decide)).symm
                        refine lv_iload_n hx hb dX10_paste_134 rfl (lv_at hl 3 rfl) ?_
                        refine lv_iadd hx hb dX10_paste_135 ?_
                        refine lv_topi (fun v_1109 ev_1109 => ?_)
                        have qv_1109 := ba_add ev_1109 (bkc (x := 0) (c := 0) (by decide)) h_1031 (by decide)
                        have bv_1109 : (0 : Int) ≤ v_1109.toInt ∧ v_1109.toInt ≤ 60 := bq_add qv_1109 (bkc (x := 0) (c := 0) (by decide)) h_1031 _ _ (by decide)
                        have qv_1109 : v_1109.toInt = (0) + a2.toInt := qv_1109
                        refine lv_iload hx hb dX10_paste_136 (lv_at hl 0 rfl) ?_
                        refine lv_iadd hx hb dX10_paste_138 ?_
                        refine lv_topi (fun v_1110 ev_1110 => ?_)
                        have qv_1110 := ba_add ev_1110 bv_1109 nc_1067.1 (by decide)
                        have bv_1110 : (0 : Int) ≤ v_1110.toInt ∧ v_1110.toInt ≤ 119 := bq_add qv_1110 bv_1109 nc_1067.1 _ _ (by decide)
                        refine va_lald hx hb hK.1 hP 3 2 rfl rfl (vi bv_1110 (by decide)) dX10_paste_139 ?_
                        refine lv_topl (fun v_1111 ev_1111 => ?_)
                        refine va_last hx hb hK.1 hP hD hS 4 2 rfl rfl (vi nc_1067.1 (by decide)) dX10_paste_140 (fun H locs hP hD hS => ?_)
                        generalize hf_1112 : (vp_updL f_1059 (v_1058 : Int32).toNatClampNeg v_1111) = f_1112 at hP hD
                        obtain ⟨hP, hD⟩ : vPD G A H [(ce_X10 ob ob_thrown ob_world ob_images ob_hasImage ob_tape ob_taped ob_five ob_size ob_at ob_from ob_token ob_value ob_faultKind ob_faultPlace ob_fresh ob_parts ob_houses ob_houseMany ob_worthOf ob_byCall ob_over ob_bestSet ob_bestOver ob_bestWorth ob_row ob_tenDebts ob_tenMany ob_fewestBy ob_covered ob_queue ob_cameBy ob_parent ob_met ob_calls ob_callMany ob_calledOn ob_saved ob_many ob_width ob_numbers ob_moving), (ce_i4 y ob_many fob_many), (ce_i4 y ob_width fob_width), (ce_l240 y ob_numbers fob_numbers), (ce_l60 y ob_moving f_1112)] := ⟨hP, hD⟩
                        obtain ⟨v_1113, ev_1113⟩ : ∃ z : Int32, z = v_1058 + 1 := ⟨_, rfl⟩
                        have qv_1113 := ba_add ev_1113 nc_1067.1 (bkc (x := 1) (c := 1) (by decide)) (by decide)
                        have bv_1113 : (1 : Int) ≤ v_1113.toInt ∧ v_1113.toInt ≤ 60 := bq_add qv_1113 nc_1067.1 (bkc (x := 1) (c := 1) (by decide)) _ _ (by decide)
                        have qv_1113 : v_1113.toInt = v_1058.toInt + (1) := qv_1113
                        refine lv_iinc (v := v_1113) (lv' := [(6, .int v_1113), (0, .ref ob), (1, .int 0), (2, .int a2), (3, .int 1), (4, .int a4), (5, .int a5)]) hx hb dX10_paste_141 hl (k := 0) rfl (ev_1113.symm) (by decide) rfl (fun ls hl => ?_)
                        refine lv_goto (tgt := 113) hx hb dX10_paste_144 (by decide) ?_
                        exact ih_1066 _ (ml_inc (hi := 60) hn_1066 qv_1113 (by decide) ((bw (0) (60) bv_1113 (by decide))).2) _ _ _ _ ⟨v_1113, f_1112, rfl, (bw (0) (60) bv_1113 (by decide)), (ml_s rl1059_0 hf_1112 ev_1111 (by omega) (by omega) (by omega) (by omega)), rfl, ⟨hP, hD⟩, hS, lv_sub hl [0, 1, 2, 3, 4, 5, 6] rfl⟩
                    · skip
                      have nc_1030 := jl_nle c_1030
                      refine lv_bipush (v := (-7)) hx hb dX10_paste_107 (by decide) ?_
                      exact W.iret (v := (-7)) hx hb hr (fun t ht hW => ⟨⟨(-7), _, rfl, Or.inr (Or.inl (⟨by have h90 : Int32.toInt (-7) = -7 := (by decide); have h91 : Int32.toInt 0 = 0 := (by decide); have h92 : Int32.toInt 1 = 1 := (by decide); omega, rfl, rfl⟩)), by rw [ht]; exact hP, hD⟩, hS.F ht⟩) hS.2.2 dX10_paste_109
          · skip
            have nc_1015 : v_1013.toInt ≠ v_1014.toInt := fun h9 => c_1015 (Int32.toInt_inj.mp h9)
            refine lv_bipush (v := (-8)) hx hb dX10_paste_55 (by decide) ?_
            exact W.iret (v := (-8)) hx hb hr (fun t ht hW => ⟨⟨(-8), _, rfl, Or.inr (Or.inr (Or.inl (⟨by have h90 : Int32.toInt (-8) = -8 := (by decide); have h91 : Int32.toInt 0 = 0 := (by decide); have h92 : Int32.toInt 1 = 1 := (by decide); omega, rfl, rfl⟩))), by rw [ht]; exact hP, hD⟩, hS.F ht⟩) hS.2.2 dX10_paste_57
        · skip
          have nc_1012 := nb_eq (-1) (-1) c_1012 bv_1011 (bkc (x := (-1)) (c := -1) (by decide)) (by decide)
          refine lv_bipush (v := (-6)) hx hb dX10_paste_37 (by decide) ?_
          exact W.iret (v := (-6)) hx hb hr (fun t ht hW => ⟨⟨(-6), _, rfl, Or.inl (⟨by have h90 : Int32.toInt (-6) = -6 := (by decide); have h91 : Int32.toInt 0 = 0 := (by decide); have h92 : Int32.toInt 1 = 1 := (by decide); omega, rfl, rfl⟩), by rw [ht]; exact hP, hD⟩, hS.F ht⟩) hS.2.2 dX10_paste_39

set_option maxHeartbeats 4000000 in
set_option maxRecDepth 100000 in
theorem fpasteM02 (l : Launch) (G : va_G) (y : Nat → ClassId) (sz : Nat) (ob : Nat) (a2 : Int32) (a4 : Int32) (a5 : Int32) (ob_thrown : Int32) (ob_world : Nat) (ob_images : Nat) (ob_hasImage : Nat) (ob_tape : Nat) (ob_taped : Int32) (ob_five : Nat) (ob_size : Int32) (ob_at : Int32) (ob_from : Int32) (ob_token : Int32) (ob_value : Int32) (ob_faultKind : Int32) (ob_faultPlace : Int32) (ob_fresh : Nat) (ob_parts : Nat) (ob_houses : Nat) (ob_houseMany : Int32) (ob_worthOf : Nat) (ob_byCall : Nat) (ob_over : Nat) (ob_bestSet : Int32) (ob_bestOver : Int32) (ob_bestWorth : Int32) (ob_row : Nat) (ob_tenDebts : Nat) (ob_tenMany : Int32) (ob_fewestBy : Nat) (ob_covered : Nat) (ob_queue : Nat) (ob_cameBy : Nat) (ob_parent : Nat) (ob_met : Nat) (ob_calls : Nat) (ob_callMany : Int32) (ob_calledOn : Nat) (ob_saved : Nat) (ob_many : Nat) (ob_width : Nat) (ob_numbers : Nat) (ob_moving : Nat) (fob_many : Nat → Int32) (fob_width : Nat → Int32) (fob_numbers : Nat → Int64) (fob_moving : Nat → Int64) (p_ob_taped : (0 : Int) ≤ ob_taped.toInt ∧ ob_taped.toInt ≤ 1400) (p_ob_size : (0 : Int) ≤ ob_size.toInt ∧ ob_size.toInt ≤ 1400) (p_ob_at : (0 : Int) ≤ ob_at.toInt ∧ ob_at.toInt ≤ 1400) (p_ob_from : (0 : Int) ≤ ob_from.toInt ∧ ob_from.toInt ≤ 1400) (p_ob_token : (0 : Int) ≤ ob_token.toInt ∧ ob_token.toInt ≤ 4) (p_ob_value : (0 : Int) ≤ ob_value.toInt ∧ ob_value.toInt ≤ 9999) (p_ob_faultKind : (0 : Int) ≤ ob_faultKind.toInt ∧ ob_faultKind.toInt ≤ 3) (p_ob_houseMany : (0 : Int) ≤ ob_houseMany.toInt ∧ ob_houseMany.toInt ≤ 10) (p_ob_bestSet : (0 : Int) ≤ ob_bestSet.toInt ∧ ob_bestSet.toInt ≤ 1023) (p_ob_bestOver : (-1 : Int) ≤ ob_bestOver.toInt ∧ ob_bestOver.toInt ≤ 180) (p_ob_tenMany : (0 : Int) ≤ ob_tenMany.toInt ∧ ob_tenMany.toInt ≤ 10) (p_ob_callMany : (0 : Int) ≤ ob_callMany.toInt ∧ ob_callMany.toInt ≤ 16) (p_fob_many : ∀ i, (-1 : Int) ≤ (fob_many i).toInt ∧ (fob_many i).toInt ≤ 60) (p_fob_width : ∀ i, (0 : Int) ≤ (fob_width i).toInt ∧ (fob_width i).toInt ≤ 3) : Met l yX10_paste (Cond.code yX10_paste cX10_paste 7 (some .int) :: wAll) ({ frames := 2, cells := 0, slots := 0, locals := 45 }) (va_Pc [.ref ob, .int 0, .int a2, .int 2, .int a4, .int a5] (kp G y sz [(ce_X10 ob ob_thrown ob_world ob_images ob_hasImage ob_tape ob_taped ob_five ob_size ob_at ob_from ob_token ob_value ob_faultKind ob_faultPlace ob_fresh ob_parts ob_houses ob_houseMany ob_worthOf ob_byCall ob_over ob_bestSet ob_bestOver ob_bestWorth ob_row ob_tenDebts ob_tenMany ob_fewestBy ob_covered ob_queue ob_cameBy ob_parent ob_met ob_calls ob_callMany ob_calledOn ob_saved ob_many ob_width ob_numbers ob_moving), (ce_i4 y ob_many fob_many), (ce_i4 y ob_width fob_width), (ce_l240 y ob_numbers fob_numbers), (ce_l60 y ob_moving fob_moving)])) (va_Qi (fun (r : Int32) (w : va_W) => (((fob_many 0).toInt = -1 ∨ (fob_many 2).toInt = -1) ∧ r = (-6) ∧ w = [(ce_X10 ob ob_thrown ob_world ob_images ob_hasImage ob_tape ob_taped ob_five ob_size ob_at ob_from ob_token ob_value ob_faultKind ob_faultPlace ob_fresh ob_parts ob_houses ob_houseMany ob_worthOf ob_byCall ob_over ob_bestSet ob_bestOver ob_bestWorth ob_row ob_tenDebts ob_tenMany ob_fewestBy ob_covered ob_queue ob_cameBy ob_parent ob_met ob_calls ob_callMany ob_calledOn ob_saved ob_many ob_width ob_numbers ob_moving), (ce_i4 y ob_many fob_many), (ce_i4 y ob_width fob_width), (ce_l240 y ob_numbers fob_numbers), (ce_l60 y ob_moving fob_moving)]) ∨ ((¬ (fob_many 0).toInt = -1 ∧ ¬ (fob_many 2).toInt = -1 ∧ (fob_width 0).toInt = (fob_width 2).toInt ∧ ¬ (0 ≤ a2.toInt ∧ 0 ≤ a4.toInt ∧ 0 ≤ a5.toInt ∧ a2.toInt + a5.toInt ≤ (fob_many 0).toInt ∧ a4.toInt + a5.toInt ≤ (fob_many 2).toInt)) ∧ r = (-7) ∧ w = [(ce_X10 ob ob_thrown ob_world ob_images ob_hasImage ob_tape ob_taped ob_five ob_size ob_at ob_from ob_token ob_value ob_faultKind ob_faultPlace ob_fresh ob_parts ob_houses ob_houseMany ob_worthOf ob_byCall ob_over ob_bestSet ob_bestOver ob_bestWorth ob_row ob_tenDebts ob_tenMany ob_fewestBy ob_covered ob_queue ob_cameBy ob_parent ob_met ob_calls ob_callMany ob_calledOn ob_saved ob_many ob_width ob_numbers ob_moving), (ce_i4 y ob_many fob_many), (ce_i4 y ob_width fob_width), (ce_l240 y ob_numbers fob_numbers), (ce_l60 y ob_moving fob_moving)]) ∨ ((¬ (fob_many 0).toInt = -1 ∧ ¬ (fob_many 2).toInt = -1 ∧ ¬ (fob_width 0).toInt = (fob_width 2).toInt) ∧ r = (-8) ∧ w = [(ce_X10 ob ob_thrown ob_world ob_images ob_hasImage ob_tape ob_taped ob_five ob_size ob_at ob_from ob_token ob_value ob_faultKind ob_faultPlace ob_fresh ob_parts ob_houses ob_houseMany ob_worthOf ob_byCall ob_over ob_bestSet ob_bestOver ob_bestWorth ob_row ob_tenDebts ob_tenMany ob_fewestBy ob_covered ob_queue ob_cameBy ob_parent ob_met ob_calls ob_callMany ob_calledOn ob_saved ob_many ob_width ob_numbers ob_moving), (ce_i4 y ob_many fob_many), (ce_i4 y ob_width fob_width), (ce_l240 y ob_numbers fob_numbers), (ce_l60 y ob_moving fob_moving)]) ∨ (∃ (f_227 : Nat → Int64) (f_228 : Nat → Int64), ((0 : Int) ≤ a2.toInt ∧ a2.toInt ≤ 60) ∧ ((0 : Int) ≤ a4.toInt ∧ a4.toInt ≤ 60) ∧ ((0 : Int) ≤ a5.toInt ∧ a5.toInt ≤ 60) ∧ (¬ (fob_many 0).toInt = -1 ∧ ¬ (fob_many 2).toInt = -1 ∧ (fob_width 0).toInt = (fob_width 2).toInt ∧ 0 ≤ a2.toInt ∧ 0 ≤ a4.toInt ∧ 0 ≤ a5.toInt ∧ a2.toInt + a5.toInt ≤ (fob_many 0).toInt ∧ a4.toInt + a5.toInt ≤ (fob_many 2).toInt) ∧ (pL f_227 fob_numbers (0 + a2.toInt.toNat) (120 + a4.toInt.toNat) a5.toInt) ∧ r = 0 ∧ w = [(ce_X10 ob ob_thrown ob_world ob_images ob_hasImage ob_tape ob_taped ob_five ob_size ob_at ob_from ob_token ob_value ob_faultKind ob_faultPlace ob_fresh ob_parts ob_houses ob_houseMany ob_worthOf ob_byCall ob_over ob_bestSet ob_bestOver ob_bestWorth ob_row ob_tenDebts ob_tenMany ob_fewestBy ob_covered ob_queue ob_cameBy ob_parent ob_met ob_calls ob_callMany ob_calledOn ob_saved ob_many ob_width ob_numbers ob_moving), (ce_i4 y ob_many fob_many), (ce_i4 y ob_width fob_width), (ce_l240 y ob_numbers f_227), (ce_l60 y ob_moving f_228)])) (kq G (va_A [(ce_X10 ob ob_thrown ob_world ob_images ob_hasImage ob_tape ob_taped ob_five ob_size ob_at ob_from ob_token ob_value ob_faultKind ob_faultPlace ob_fresh ob_parts ob_houses ob_houseMany ob_worthOf ob_byCall ob_over ob_bestSet ob_bestOver ob_bestWorth ob_row ob_tenDebts ob_tenMany ob_fewestBy ob_covered ob_queue ob_cameBy ob_parent ob_met ob_calls ob_callMany ob_calledOn ob_saved ob_many ob_width ob_numbers ob_moving), (ce_i4 y ob_many fob_many), (ce_i4 y ob_width fob_width), (ce_l240 y ob_numbers fob_numbers), (ce_l60 y ob_moving fob_moving)] sz)) (va_A [(ce_X10 ob ob_thrown ob_world ob_images ob_hasImage ob_tape ob_taped ob_five ob_size ob_at ob_from ob_token ob_value ob_faultKind ob_faultPlace ob_fresh ob_parts ob_houses ob_houseMany ob_worthOf ob_byCall ob_over ob_bestSet ob_bestOver ob_bestWorth ob_row ob_tenDebts ob_tenMany ob_fewestBy ob_covered ob_queue ob_cameBy ob_parent ob_met ob_calls ob_callMany ob_calledOn ob_saved ob_many ob_width ob_numbers ob_moving), (ce_i4 y ob_many fob_many), (ce_i4 y ob_width fob_width), (ce_l240 y ob_numbers fob_numbers), (ce_l60 y ob_moving fob_moving)] sz)) 0 0 (va_A [(ce_X10 ob ob_thrown ob_world ob_images ob_hasImage ob_tape ob_taped ob_five ob_size ob_at ob_from ob_token ob_value ob_faultKind ob_faultPlace ob_fresh ob_parts ob_houses ob_houseMany ob_worthOf ob_byCall ob_over ob_bestSet ob_bestOver ob_bestWorth ob_row ob_tenDebts ob_tenMany ob_fewestBy ob_covered ob_queue ob_cameBy ob_parent ob_met ob_calls ob_callMany ob_calledOn ob_saved ob_many ob_width ob_numbers ob_moving), (ce_i4 y ob_many fob_many), (ce_i4 y ob_width fob_width), (ce_l240 y ob_numbers fob_numbers), (ce_l60 y ob_moving fob_moving)] sz) := by
  refine Met.ofW (cc := cX10_paste) (maxL := 7) (ret := (some .int)) (by decide) rfl ?_
  intro p e s m args below meth c s₁ B hml hv
  obtain ⟨rfl, hsz, hP, hK, hD0⟩ := hv
  have hx := B.exec
  have hb := B.bytes
  have hr := B.returns
  have hw0 : ∀ w ∈ wAll, w.before _ s = true := fun w h => atoms_spec (ws := Cond.code yX10_paste cX10_paste 7 (some .int) :: wAll) B.pre w (List.mem_cons_of_mem _ h)
  have hown : s.vm.findClass RX10 = some m.cls := findClass_of_methodNamed B.named
  subst hsz
  have hD := hD0.self (sz := s.heap.size)
  generalize hAe : va_A [(ce_X10 ob ob_thrown ob_world ob_images ob_hasImage ob_tape ob_taped ob_five ob_size ob_at ob_from ob_token ob_value ob_faultKind ob_faultPlace ob_fresh ob_parts ob_houses ob_houseMany ob_worthOf ob_byCall ob_over ob_bestSet ob_bestOver ob_bestWorth ob_row ob_tenDebts ob_tenMany ob_fewestBy ob_covered ob_queue ob_cameBy ob_parent ob_met ob_calls ob_callMany ob_calledOn ob_saved ob_many ob_width ob_numbers ob_moving), (ce_i4 y ob_many fob_many), (ce_i4 y ob_width fob_width), (ce_l240 y ob_numbers fob_numbers), (ce_l60 y ob_moving fob_moving)] s.heap.size = A at hD ⊢
  have hA : ∀ q : Nat, s.heap.size ≤ q → A q := fun q h => by rw [← hAe]; exact Or.inr h
  have hS : va_S A s.heap s.heap [] := va_S.rf
  have hP : va_P G vwCl [(ce_X10 ob ob_thrown ob_world ob_images ob_hasImage ob_tape ob_taped ob_five ob_size ob_at ob_from ob_token ob_value ob_faultKind ob_faultPlace ob_fresh ob_parts ob_houses ob_houseMany ob_worthOf ob_byCall ob_over ob_bestSet ob_bestOver ob_bestWorth ob_row ob_tenDebts ob_tenMany ob_fewestBy ob_covered ob_queue ob_cameBy ob_parent ob_met ob_calls ob_callMany ob_calledOn ob_saved ob_many ob_width ob_numbers ob_moving), (ce_i4 y ob_many fob_many), (ce_i4 y ob_width fob_width), (ce_l240 y ob_numbers fob_numbers), (ce_l60 y ob_moving fob_moving)] s.heap := hP
  have hl := lv_entry ([.ref ob, .int 0, .int a2, .int 2, .int a4, .int a5]) (n := 7) (Nat.le_of_ble_eq_true rfl)
  rw [lg_entry_eq]
  generalize (lg_sl ([.ref ob, .int 0, .int a2, .int 2, .int a4, .int a5]) ++ List.replicate (7 - (lg_sl ([.ref ob, .int 0, .int a2, .int 2, .int a4, .int a5])).length) Slot.unset).toArray = ls at hl ⊢
  have hl : lv_has ls 7 [(0, .ref ob), (1, .int 0), (2, .int a2), (3, .int 2), (4, .int a4), (5, .int a5)] := hl
  refine lv_iload_n hx hb dX10_paste_0 rfl (lv_at hl 1 rfl) ?_
  refine cSim (As := [.int 0]) (rest := []) ⟨hx, hb, hml, hown, hw0⟩ hA hK hP hD hS [] (gisSlotM l G y _ 0 ) rfl ⟨(callB_of 1 hw0 (gA m_543) rfl rfl rfl (hw0 _ m_41) (hw0 _ m_433) cb_X10_isSlot ⟨Nat.le_of_ble_eq_true rfl, Nat.le_of_ble_eq_true rfl⟩), (hw0 _ m_434)⟩ rfl hl.1 (Nat.le_of_ble_eq_true rfl) dX10_paste_1 ⟨Nat.le_of_ble_eq_true rfl, Nat.le_of_ble_eq_true rfl⟩ (fun r_1001 w_1001 H locs hw_1001 hP hD hS => ?_)
  rcases hw_1001 with ⟨h_1002, rfl, rfl⟩ | ⟨h_1003, h_1004, rfl, rfl⟩
  · skip
    exact False.elim (by have h9 : Int32.toInt 0 = 0 := (by decide); omega)
  · skip
    obtain ⟨hP, hD⟩ : vPD G A H [(ce_X10 ob ob_thrown ob_world ob_images ob_hasImage ob_tape ob_taped ob_five ob_size ob_at ob_from ob_token ob_value ob_faultKind ob_faultPlace ob_fresh ob_parts ob_houses ob_houseMany ob_worthOf ob_byCall ob_over ob_bestSet ob_bestOver ob_bestWorth ob_row ob_tenDebts ob_tenMany ob_fewestBy ob_covered ob_queue ob_cameBy ob_parent ob_met ob_calls ob_callMany ob_calledOn ob_saved ob_many ob_width ob_numbers ob_moving), (ce_i4 y ob_many fob_many), (ce_i4 y ob_width fob_width), (ce_l240 y ob_numbers fob_numbers), (ce_l60 y ob_moving fob_moving)] := ⟨hP, hD⟩
    refine lv_if_eq (tgt := 14) hx hb dX10_paste_4 (by decide) (fun c9 => absurd c9 (by decide)) (fun _ => ?_)
    refine lv_iload_n hx hb dX10_paste_7 rfl (lv_at hl 3 rfl) ?_
    refine cSim (As := [.int 2]) (rest := []) ⟨hx, hb, hml, hown, hw0⟩ hA hK hP hD hS [] (gisSlotM l G y _ 2 ) rfl ⟨(callB_of 1 hw0 (gA m_543) rfl rfl rfl (hw0 _ m_41) (hw0 _ m_433) cb_X10_isSlot ⟨Nat.le_of_ble_eq_true rfl, Nat.le_of_ble_eq_true rfl⟩), (hw0 _ m_434)⟩ rfl hl.1 (Nat.le_of_ble_eq_true rfl) dX10_paste_8 ⟨Nat.le_of_ble_eq_true rfl, Nat.le_of_ble_eq_true rfl⟩ (fun r_1005 w_1005 H locs hw_1005 hP hD hS => ?_)
    rcases hw_1005 with ⟨h_1006, rfl, rfl⟩ | ⟨h_1007, h_1008, rfl, rfl⟩
    · skip
      exact False.elim (by have h9 : Int32.toInt 2 = 2 := (by decide); omega)
    · skip
      obtain ⟨hP, hD⟩ : vPD G A H [(ce_X10 ob ob_thrown ob_world ob_images ob_hasImage ob_tape ob_taped ob_five ob_size ob_at ob_from ob_token ob_value ob_faultKind ob_faultPlace ob_fresh ob_parts ob_houses ob_houseMany ob_worthOf ob_byCall ob_over ob_bestSet ob_bestOver ob_bestWorth ob_row ob_tenDebts ob_tenMany ob_fewestBy ob_covered ob_queue ob_cameBy ob_parent ob_met ob_calls ob_callMany ob_calledOn ob_saved ob_many ob_width ob_numbers ob_moving), (ce_i4 y ob_many fob_many), (ce_i4 y ob_width fob_width), (ce_l240 y ob_numbers fob_numbers), (ce_l60 y ob_moving fob_moving)] := ⟨hP, hD⟩
      refine lv_if_ne (tgt := 17) hx hb dX10_paste_11 (by decide) (fun _ => ?_) (fun c9 => absurd c9 (by decide))
      refine lv_aload_n hx hb dX10_paste_17 rfl (lv_at hl 0 rfl) ?_
      refine va_get (D := G) (ci := 10) (v := .ref ob_many) (C := RX10) (T := TX10) (N := 41) hx hb hw0 inA_wsX100 hown hK.1 hP 0 rfl rfl 37 (by decide) (hw0 _ m_406) (fun _ h9 => h9) rfl dX10_paste_18 ?_
      refine lv_iload_n hx hb dX10_paste_21 rfl (lv_at hl 1 rfl) ?_
      refine va_iald hx hb hK.1 hP 1 1 rfl rfl (vi (bkc (x := 0) (c := 0) (by decide)) (by decide)) dX10_paste_22 ?_
      refine lv_topi (fun v_1009 ev_1009 => ?_)
      have bv_1009 : (-1 : Int) ≤ v_1009.toInt ∧ v_1009.toInt ≤ 60 := rd_b ev_1009 p_fob_many
      have yv_1009 : v_1009.toInt = (fob_many 0).toInt := congrArg Int32.toInt ev_1009
      refine lv_iconst (v := (-1)) hx hb dX10_paste_23 (by decide) ?_
      refine lv_icmp_eq (tgt := 37) hx hb dX10_paste_24 (by decide) (fun c_1010 => ?_) (fun c_1010 => ?_)
      · skip
        have nc_1010 := nb_eq (-1) (-1) c_1010 bv_1009 (bkc (x := (-1)) (c := -1) (by decide)) (by decide)
        refine lv_bipush (v := (-6)) hx hb dX10_paste_37 (by decide) ?_
        exact W.iret (v := (-6)) hx hb hr (fun t ht hW => ⟨⟨(-6), _, rfl, Or.inl (⟨by have h90 : Int32.toInt (-6) = -6 := (by decide); have h91 : Int32.toInt 0 = 0 := (by decide); have h92 : Int32.toInt 2 = 2 := (by decide); omega, rfl, rfl⟩), by rw [ht]; exact hP, hD⟩, hS.F ht⟩) hS.2.2 dX10_paste_39
      · skip
        have nc_1010 := nb_ne (0) (60) c_1010 bv_1009 (k := -1) (by decide) (by decide)
        refine lv_aload_n hx hb dX10_paste_27 rfl (lv_at hl 0 rfl) ?_
        refine va_get (D := G) (ci := 10) (v := .ref ob_many) (C := RX10) (T := TX10) (N := 41) hx hb hw0 inA_wsX100 hown hK.1 hP 0 rfl rfl 37 (by decide) (hw0 _ m_406) (fun _ h9 => h9) rfl dX10_paste_28 ?_
        refine lv_iload_n hx hb dX10_paste_31 rfl (lv_at hl 3 rfl) ?_
        refine va_iald hx hb hK.1 hP 1 1 rfl rfl (vi (bkc (x := 2) (c := 2) (by decide)) (by decide)) dX10_paste_32 ?_
        refine lv_topi (fun v_1011 ev_1011 => ?_)
        have bv_1011 : (-1 : Int) ≤ v_1011.toInt ∧ v_1011.toInt ≤ 60 := rd_b ev_1011 p_fob_many
        have yv_1011 : v_1011.toInt = (fob_many 2).toInt := congrArg Int32.toInt ev_1011
        refine lv_iconst (v := (-1)) hx hb dX10_paste_33 (by decide) ?_
        refine lv_icmp_ne (tgt := 40) hx hb dX10_paste_34 (by decide) (fun c_1012 => ?_) (fun c_1012 => ?_)
        · skip
          have nc_1012 := nb_ne (0) (60) c_1012 bv_1011 (k := -1) (by decide) (by decide)
          refine lv_aload_n hx hb dX10_paste_40 rfl (lv_at hl 0 rfl) ?_
          refine va_get (D := G) (ci := 10) (v := .ref ob_width) (C := RX10) (T := TX10) (N := 41) hx hb hw0 inA_wsX100 hown hK.1 hP 0 rfl rfl 38 (by decide) (hw0 _ m_527) (fun _ h9 => h9) rfl dX10_paste_41 ?_
          refine lv_iload_n hx hb dX10_paste_44 rfl (lv_at hl 1 rfl) ?_
          refine va_iald hx hb hK.1 hP 2 1 rfl rfl (vi (bkc (x := 0) (c := 0) (by decide)) (by decide)) dX10_paste_45 ?_
          refine lv_topi (fun v_1013 ev_1013 => ?_)
          have bv_1013 : (0 : Int) ≤ v_1013.toInt ∧ v_1013.toInt ≤ 3 := rd_b ev_1013 p_fob_width
          have yv_1013 : v_1013.toInt = (fob_width 0).toInt := congrArg Int32.toInt ev_1013
          refine lv_aload_n hx hb dX10_paste_46 rfl (lv_at hl 0 rfl) ?_
          refine va_get (D := G) (ci := 10) (v := .ref ob_width) (C := RX10) (T := TX10) (N := 41) hx hb hw0 inA_wsX100 hown hK.1 hP 0 rfl rfl 38 (by decide) (hw0 _ m_527) (fun _ h9 => h9) rfl dX10_paste_47 ?_
          refine lv_iload_n hx hb dX10_paste_50 rfl (lv_at hl 3 rfl) ?_
          refine va_iald hx hb hK.1 hP 2 1 rfl rfl (vi (bkc (x := 2) (c := 2) (by decide)) (by decide)) dX10_paste_51 ?_
          refine lv_topi (fun v_1014 ev_1014 => ?_)
          have bv_1014 : (0 : Int) ≤ v_1014.toInt ∧ v_1014.toInt ≤ 3 := rd_b ev_1014 p_fob_width
          have yv_1014 : v_1014.toInt = (fob_width 2).toInt := congrArg Int32.toInt ev_1014
          refine lv_icmp_eq (tgt := 58) hx hb dX10_paste_52 (by decide) (fun c_1015 => ?_) (fun c_1015 => ?_)
          · skip
            have nc_1015 := nb_eq (0) (3) c_1015 bv_1013 bv_1014 (by decide)
            refine lv_iload_n hx hb dX10_paste_58 rfl (lv_at hl 2 rfl) ?_
            refine lv_if_lt (tgt := 107) hx hb dX10_paste_59 (by decide) (fun c_1016 => ?_) (fun c_1016 => ?_)
            · skip
              have nc_1016 := nb_lt (-1) (0) c_1016 (btop a2) (bkc (x := 0) (c := 0) (by decide)) (by decide)
              refine lv_bipush (v := (-7)) hx hb dX10_paste_107 (by decide) ?_
              exact W.iret (v := (-7)) hx hb hr (fun t ht hW => ⟨⟨(-7), _, rfl, Or.inr (Or.inl (⟨by have h90 : Int32.toInt (-7) = -7 := (by decide); have h91 : Int32.toInt 0 = 0 := (by decide); have h92 : Int32.toInt 2 = 2 := (by decide); omega, rfl, rfl⟩)), by rw [ht]; exact hP, hD⟩, hS.F ht⟩) hS.2.2 dX10_paste_109
            · skip
              have nc_1016 := nb_nlt (0) (0) c_1016 (bkc (x := 0) (c := 0) (by decide)) (btop a2) (by decide)
              refine lv_iload hx hb dX10_paste_62 (lv_at hl 4 rfl) ?_
              refine lv_if_lt (tgt := 107) hx hb dX10_paste_64 (by decide) (fun c_1017 => ?_) (fun c_1017 => ?_)
              · skip
                have nc_1017 := nb_lt (-1) (0) c_1017 (btop a4) (bkc (x := 0) (c := 0) (by decide)) (by decide)
                refine lv_bipush (v := (-7)) hx hb dX10_paste_107 (by decide) ?_
                exact W.iret (v := (-7)) hx hb hr (fun t ht hW => ⟨⟨(-7), _, rfl, Or.inr (Or.inl (⟨by have h90 : Int32.toInt (-7) = -7 := (by decide); have h91 : Int32.toInt 0 = 0 := (by decide); have h92 : Int32.toInt 2 = 2 := (by decide); omega, rfl, rfl⟩)), by rw [ht]; exact hP, hD⟩, hS.F ht⟩) hS.2.2 dX10_paste_109
              · skip
                have nc_1017 := nb_nlt (0) (0) c_1017 (bkc (x := 0) (c := 0) (by decide)) (btop a4) (by decide)
                refine lv_iload hx hb dX10_paste_67 (lv_at hl 5 rfl) ?_
                refine lv_if_lt (tgt := 107) hx hb dX10_paste_69 (by decide) (fun c_1018 => ?_) (fun c_1018 => ?_)
                · skip
                  have nc_1018 := nb_lt (-1) (0) c_1018 (btop a5) (bkc (x := 0) (c := 0) (by decide)) (by decide)
                  refine lv_bipush (v := (-7)) hx hb dX10_paste_107 (by decide) ?_
                  exact W.iret (v := (-7)) hx hb hr (fun t ht hW => ⟨⟨(-7), _, rfl, Or.inr (Or.inl (⟨by have h90 : Int32.toInt (-7) = -7 := (by decide); have h91 : Int32.toInt 0 = 0 := (by decide); have h92 : Int32.toInt 2 = 2 := (by decide); omega, rfl, rfl⟩)), by rw [ht]; exact hP, hD⟩, hS.F ht⟩) hS.2.2 dX10_paste_109
                · skip
                  have nc_1018 := nb_nlt (0) (0) c_1018 (bkc (x := 0) (c := 0) (by decide)) (btop a5) (by decide)
                  refine lv_iload_n hx hb dX10_paste_72 rfl (lv_at hl 2 rfl) ?_
                  refine lv_i2l hx hb dX10_paste_73 rfl ?_
                  have kk_1019 : ((a2).toInt64).toInt = (a2).toInt := Int32.toInt_toInt64 _
                  refine lv_iload hx hb dX10_paste_74 (lv_at hl 5 rfl) ?_
                  refine lv_i2l hx hb dX10_paste_76 rfl ?_
                  have kk_1020 : ((a5).toInt64).toInt = (a5).toInt := Int32.toInt_toInt64 _
                  refine lv_ladd hx hb dX10_paste_77 ?_
                  refine lv_topl (fun v_1021 ev_1021 => ?_)
                  have qv_1021 := la_add ev_1021
                  refine lv_aload_n hx hb dX10_paste_78 rfl (lv_at hl 0 rfl) ?_
                  refine va_get (D := G) (ci := 10) (v := .ref ob_many) (C := RX10) (T := TX10) (N := 41) hx hb hw0 inA_wsX100 hown hK.1 hP 0 rfl rfl 37 (by decide) (hw0 _ m_406) (fun _ h9 => h9) rfl dX10_paste_79 ?_
                  refine lv_iload_n hx hb dX10_paste_82 rfl (lv_at hl 1 rfl) ?_
                  refine va_iald hx hb hK.1 hP 1 1 rfl rfl (vi (bkc (x := 0) (c := 0) (by decide)) (by decide)) dX10_paste_83 ?_
                  refine lv_topi (fun v_1022 ev_1022 => ?_)
                  obtain rfl : v_1009 = v_1022 := (ev_1022.trans (ev_1009.symm)).symm
                  refine lv_i2l hx hb dX10_paste_84 rfl ?_
                  have kk_1023 : ((v_1009).toInt64).toInt = (v_1009).toInt := Int32.toInt_toInt64 _
                  refine W.lcmp hx hb dX10_paste_85 ?_
                  refine lv_if_gt (tgt := 107) hx hb dX10_paste_86 (by decide) (fun c_1024 => ?_) (fun c_1024 => ?_)
                  · skip
                    have nc_1024 := jl_gt c_1024
                    refine lv_bipush (v := (-7)) hx hb dX10_paste_107 (by decide) ?_
                    exact W.iret (v := (-7)) hx hb hr (fun t ht hW => ⟨⟨(-7), _, rfl, Or.inr (Or.inl (⟨by have h90 : Int32.toInt (-7) = -7 := (by decide); have h91 : Int32.toInt 0 = 0 := (by decide); have h92 : Int32.toInt 2 = 2 := (by decide); omega, rfl, rfl⟩)), by rw [ht]; exact hP, hD⟩, hS.F ht⟩) hS.2.2 dX10_paste_109
                  · skip
                    have nc_1024 := jl_ngt c_1024
                    refine lv_iload hx hb dX10_paste_89 (lv_at hl 4 rfl) ?_
                    refine lv_i2l hx hb dX10_paste_91 rfl ?_
                    have kk_1025 : ((a4).toInt64).toInt = (a4).toInt := Int32.toInt_toInt64 _
                    refine lv_iload hx hb dX10_paste_92 (lv_at hl 5 rfl) ?_
                    refine lv_i2l hx hb dX10_paste_94 rfl ?_
                    have kk_1026 : ((a5).toInt64).toInt = (a5).toInt := Int32.toInt_toInt64 _
                    refine lv_ladd hx hb dX10_paste_95 ?_
                    refine lv_topl (fun v_1027 ev_1027 => ?_)
                    have qv_1027 := la_add ev_1027
                    refine lv_aload_n hx hb dX10_paste_96 rfl (lv_at hl 0 rfl) ?_
                    refine va_get (D := G) (ci := 10) (v := .ref ob_many) (C := RX10) (T := TX10) (N := 41) hx hb hw0 inA_wsX100 hown hK.1 hP 0 rfl rfl 37 (by decide) (hw0 _ m_406) (fun _ h9 => h9) rfl dX10_paste_97 ?_
                    refine lv_iload_n hx hb dX10_paste_100 rfl (lv_at hl 3 rfl) ?_
                    refine va_iald hx hb hK.1 hP 1 1 rfl rfl (vi (bkc (x := 2) (c := 2) (by decide)) (by decide)) dX10_paste_101 ?_
                    refine lv_topi (fun v_1028 ev_1028 => ?_)
                    obtain rfl : v_1011 = v_1028 := (ev_1028.trans (ev_1011.symm)).symm
                    refine lv_i2l hx hb dX10_paste_102 rfl ?_
                    have kk_1029 : ((v_1011).toInt64).toInt = (v_1011).toInt := Int32.toInt_toInt64 _
                    refine W.lcmp hx hb dX10_paste_103 ?_
                    refine lv_if_le (tgt := 110) hx hb dX10_paste_104 (by decide) (fun c_1030 => ?_) (fun c_1030 => ?_)
                    · skip
                      have nc_1030 := jl_le c_1030
                      have h_1031 : (0 : Int) ≤ a2.toInt ∧ a2.toInt ≤ 60 := by omega
                      have h_1032 : (0 : Int) ≤ a4.toInt ∧ a4.toInt ≤ 60 := by omega
                      have h_1033 : (0 : Int) ≤ a5.toInt ∧ a5.toInt ≤ 60 := by omega
                      refine lv_iconst (v := 0) hx hb dX10_paste_110 (by decide) ?_
                      refine lv_istore (lv' := [(6, .int 0), (0, .ref ob), (1, .int 0), (2, .int a2), (3, .int 2), (4, .int a4), (5, .int a5)]) hx hb dX10_paste_111 hl (by decide) rfl (fun ls hl => ?_)
                      refine loopX (fun n H locs ls st => ∃ (v_1058 : Int32) (f_1059 : Nat → Int64), (60 - v_1058.toInt).toNat = n ∧ ((0 : Int) ≤ v_1058.toInt ∧ v_1058.toInt ≤ 60) ∧ (mL f_1059 fob_numbers (0 + a2.toInt.toNat) v_1058.toInt) ∧ st = [] ∧ vPD G A H [(ce_X10 ob ob_thrown ob_world ob_images ob_hasImage ob_tape ob_taped ob_five ob_size ob_at ob_from ob_token ob_value ob_faultKind ob_faultPlace ob_fresh ob_parts ob_houses ob_houseMany ob_worthOf ob_byCall ob_over ob_bestSet ob_bestOver ob_bestWorth ob_row ob_tenDebts ob_tenMany ob_fewestBy ob_covered ob_queue ob_cameBy ob_parent ob_met ob_calls ob_callMany ob_calledOn ob_saved ob_many ob_width ob_numbers ob_moving), (ce_i4 y ob_many fob_many), (ce_i4 y ob_width fob_width), (ce_l240 y ob_numbers fob_numbers), (ce_l60 y ob_moving f_1059)] ∧ va_S A s.heap H locs ∧ lv_has ls 7 [(6, .int v_1058), (0, .ref ob), (1, .int 0), (2, .int a2), (3, .int 2), (4, .int a4), (5, .int a5)]) ?_ (n := (60 - (0 : Int32).toInt).toNat) ⟨0, fob_moving, rfl, (bw (0) (60) (bkc (x := 0) (c := 0) (by decide)) (by decide)), (ml_0 (by have h90 : Int32.toInt 0 = 0 := (by decide); have h91 : Int32.toInt 2 = 2 := (by decide); omega)), rfl, ⟨hP, hD⟩, hS, lv_sub hl [0, 1, 2, 3, 4, 5, 6] rfl⟩
                      rintro n ih_1066 H locs ls st ⟨v_1058, f_1059, hn_1066, bv_1058, rl1059_0, rfl, ⟨hP, hD⟩, hS, hl⟩
                      refine lv_iload hx hb dX10_paste_113 (lv_at hl 0 rfl) ?_
                      refine lv_iload hx hb dX10_paste_115 (lv_at hl 6 rfl) ?_
                      refine lv_icmp_ge (tgt := 147) hx hb dX10_paste_117 (by decide) (fun c_1067 => ?_) (fun c_1067 => ?_)
                      · skip
                        have nc_1067 := nb_le (60) (0) c_1067 h_1033 bv_1058 (by decide)
                        refine lv_iconst (v := 0) hx hb dX10_paste_147 (by decide) ?_
                        refine lv_istore (lv' := [(6, .int 0), (0, .ref ob), (1, .int 0), (2, .int a2), (3, .int 2), (4, .int a4), (5, .int a5)]) hx hb dX10_paste_148 hl (by decide) rfl (fun ls hl => ?_)
                        refine loopX (fun n H locs ls st => ∃ (v_1092 : Int32) (f_1093 : Nat → Int64), (60 - v_1092.toInt).toNat = n ∧ ((0 : Int) ≤ v_1092.toInt ∧ v_1092.toInt ≤ 60) ∧ (nL f_1093 fob_numbers f_1059 (120 + a4.toInt.toNat) v_1092.toInt) ∧ (v_1092.toInt ≤ a5.toInt) ∧ st = [] ∧ vPD G A H [(ce_X10 ob ob_thrown ob_world ob_images ob_hasImage ob_tape ob_taped ob_five ob_size ob_at ob_from ob_token ob_value ob_faultKind ob_faultPlace ob_fresh ob_parts ob_houses ob_houseMany ob_worthOf ob_byCall ob_over ob_bestSet ob_bestOver ob_bestWorth ob_row ob_tenDebts ob_tenMany ob_fewestBy ob_covered ob_queue ob_cameBy ob_parent ob_met ob_calls ob_callMany ob_calledOn ob_saved ob_many ob_width ob_numbers ob_moving), (ce_i4 y ob_many fob_many), (ce_i4 y ob_width fob_width), (ce_l240 y ob_numbers f_1093), (ce_l60 y ob_moving f_1059)] ∧ va_S A s.heap H locs ∧ lv_has ls 7 [(6, .int v_1092), (0, .ref ob), (3, .int 2), (4, .int a4), (5, .int a5)]) ?_ (n := (60 - (0 : Int32).toInt).toNat) ⟨0, fob_numbers, rfl, (bw (0) (60) (bkc (x := 0) (c := 0) (by decide)) (by decide)), (nl_0 (by have h90 : Int32.toInt 0 = 0 := (by decide); have h91 : Int32.toInt 2 = 2 := (by decide); omega)), (by have h90 : Int32.toInt 0 = 0 := (by decide); omega), rfl, ⟨hP, hD⟩, hS, lv_sub hl [0, 1, 4, 5, 6] rfl⟩
                        rintro n ih_1100 H locs ls st ⟨v_1092, f_1093, hn_1100, bv_1092, rl1093_0, rl1093_1, rfl, ⟨hP, hD⟩, hS, hl⟩
                        refine lv_iload hx hb dX10_paste_150 (lv_at hl 0 rfl) ?_
                        refine lv_iload hx hb dX10_paste_152 (lv_at hl 4 rfl) ?_
                        refine lv_icmp_ge (tgt := 185) hx hb dX10_paste_154 (by decide) (fun c_1101 => ?_) (fun c_1101 => ?_)
                        · skip
                          have nc_1101 := nb_le (60) (0) c_1101 nc_1067.1 bv_1092 (by decide)
                          refine lv_iconst (v := 0) hx hb dX10_paste_185 (by decide) ?_
                          exact W.iret (v := 0) hx hb hr (fun t ht hW => ⟨⟨0, _, rfl, Or.inr (Or.inr (Or.inr (⟨f_1093, f_1059, h_1031, h_1032, nc_1101.1, by have h90 : Int32.toInt 0 = 0 := (by decide); have h91 : Int32.toInt 2 = 2 := (by decide); omega, (pl_e rl1059_0 rl1093_0 (by omega) (by omega)), rfl, rfl⟩))), by rw [ht]; exact hP, hD⟩, hS.F ht⟩) hS.2.2 dX10_paste_186
                        · skip
                          have nc_1101 := nb_nle (59) (1) c_1101 bv_1092 nc_1067.1 (by decide)
                          refine lv_aload_n hx hb dX10_paste_157 rfl (lv_at hl 1 rfl) ?_
                          refine va_get (D := G) (ci := 10) (v := .ref ob_numbers) (C := RX10) (T := TX10) (N := 41) hx hb hw0 inA_wsX100 hown hK.1 hP 0 rfl rfl 39 (by decide) (hw0 _ m_435) (fun _ h9 => h9) rfl dX10_paste_158 ?_
                          refine lv_bipush (v := 60) hx hb dX10_paste_161 (by decide) ?_
                          refine lv_iload_n hx hb dX10_paste_163 rfl (lv_at hl 2 rfl) ?_
                          refine lv_imul hx hb dX10_paste_164 ?_
                          refine lv_topi (fun v_1102 ev_1102 => ?_)
                          obtain rfl : 120 = v_1102 := (ev_1102.trans (by decide)).symm
                          refine lv_iload hx hb dX10_paste_165 (lv_at hl 3 rfl) ?_
                          refine lv_iadd hx hb dX10_paste_167 ?_
                          refine lv_topi (fun v_1103 ev_1103 => ?_)
                          have qv_1103 := ba_add ev_1103 (bkc (x := 120) (c := 120) (by decide)) h_1032 (by decide)
                          have bv_1103 : (120 : Int) ≤ v_1103.toInt ∧ v_1103.toInt ≤ 180 := bq_add qv_1103 (bkc (x := 120) (c := 120) (by decide)) h_1032 _ _ (by decide)
                          have qv_1103 : v_1103.toInt = (120) + a4.toInt := qv_1103
                          refine lv_iload hx hb dX10_paste_168 (lv_at hl 0 rfl) ?_
                          refine lv_iadd hx hb dX10_paste_170 ?_
                          refine lv_topi (fun v_1104 ev_1104 => ?_)
                          have qv_1104 := ba_add ev_1104 bv_1103 nc_1101.1 (by decide)
                          have bv_1104 : (120 : Int) ≤ v_1104.toInt ∧ v_1104.toInt ≤ 239 := bq_add qv_1104 bv_1103 nc_1101.1 _ _ (by decide)
                          refine lv_aload_n hx hb dX10_paste_171 rfl (lv_at hl 1 rfl) ?_
                          refine va_get (D := G) (ci := 10) (v := .ref ob_moving) (C := RX10) (T := TX10) (N := 41) hx hb hw0 inA_wsX100 hown hK.1 hP 0 rfl rfl 40 (by decide) (hw0 _ m_529) (fun _ h9 => h9) rfl dX10_paste_172 ?_
                          refine lv_iload hx hb dX10_paste_175 (lv_at hl 0 rfl) ?_
                          refine va_lald hx hb hK.1 hP 4 2 rfl rfl (vi nc_1101.1 (by decide)) dX10_paste_177 ?_
                          refine lv_topl (fun v_1105 ev_1105 => ?_)
                          refine va_last hx hb hK.1 hP hD hS 3 2 rfl rfl (vi bv_1104 (by decide)) dX10_paste_178 (fun H locs hP hD hS => ?_)
                          generalize hf_1106 : (vp_updL f_1093 (v_1104 : Int32).toNatClampNeg v_1105) = f_1106 at hP hD
                          obtain ⟨hP, hD⟩ : vPD G A H [(ce_X10 ob ob_thrown ob_world ob_images ob_hasImage ob_tape ob_taped ob_five ob_size ob_at ob_from ob_token ob_value ob_faultKind ob_faultPlace ob_fresh ob_parts ob_houses ob_houseMany ob_worthOf ob_byCall ob_over ob_bestSet ob_bestOver ob_bestWorth ob_row ob_tenDebts ob_tenMany ob_fewestBy ob_covered ob_queue ob_cameBy ob_parent ob_met ob_calls ob_callMany ob_calledOn ob_saved ob_many ob_width ob_numbers ob_moving), (ce_i4 y ob_many fob_many), (ce_i4 y ob_width fob_width), (ce_l240 y ob_numbers f_1106), (ce_l60 y ob_moving f_1059)] := ⟨hP, hD⟩
                          obtain ⟨v_1107, ev_1107⟩ : ∃ z : Int32, z = v_1092 + 1 := ⟨_, rfl⟩
                          have qv_1107 := ba_add ev_1107 nc_1101.1 (bkc (x := 1) (c := 1) (by decide)) (by decide)
                          have bv_1107 : (1 : Int) ≤ v_1107.toInt ∧ v_1107.toInt ≤ 60 := bq_add qv_1107 nc_1101.1 (bkc (x := 1) (c := 1) (by decide)) _ _ (by decide)
                          have qv_1107 : v_1107.toInt = v_1092.toInt + (1) := qv_1107
                          refine lv_iinc (v := v_1107) (lv' := [(6, .int v_1107), (0, .ref ob), (3, .int 2), (4, .int a4), (5, .int a5)]) hx hb dX10_paste_179 hl (k := 0) rfl (ev_1107.symm) (by decide) rfl (fun ls hl => ?_)
                          refine lv_goto (tgt := 150) hx hb dX10_paste_182 (by decide) ?_
                          exact ih_1100 _ (ml_inc (hi := 60) hn_1100 qv_1107 (by decide) ((bw (0) (60) bv_1107 (by decide))).2) _ _ _ _ ⟨v_1107, f_1106, rfl, (bw (0) (60) bv_1107 (by decide)), (nl_s rl1093_0 hf_1106 ev_1105 (by omega) (by omega) (by omega) (by omega)), (by omega), rfl, ⟨hP, hD⟩, hS, lv_sub hl [0, 1, 2, 3, 4] rfl⟩
                      · skip
                        have nc_1067 := nb_nle (59) (1) c_1067 bv_1058 h_1033 (by decide)
                        refine lv_aload_n hx hb dX10_paste_120 rfl (lv_at hl 1 rfl) ?_
                        refine va_get (D := G) (ci := 10) (v := .ref ob_moving) (C := RX10) (T := TX10) (N := 41) hx hb hw0 inA_wsX100 hown hK.1 hP 0 rfl rfl 40 (by decide) (hw0 _ m_529) (fun _ h9 => h9) rfl dX10_paste_121 ?_
                        refine lv_iload hx hb dX10_paste_124 (lv_at hl 0 rfl) ?_
                        refine lv_aload_n hx hb dX10_paste_126 rfl (lv_at hl 1 rfl) ?_
                        refine va_get (D := G) (ci := 10) (v := .ref ob_numbers) (C := RX10) (T := TX10) (N := 41) hx hb hw0 inA_wsX100 hown hK.1 hP 0 rfl rfl 39 (by decide) (hw0 _ m_435) (fun _ h9 => h9) rfl dX10_paste_127 ?_
                        refine lv_bipush (v := 60) hx hb dX10_paste_130 (by decide) ?_
                        refine lv_iload_n hx hb dX10_paste_132 rfl (lv_at hl 2 rfl) ?_
                        refine lv_imul hx hb dX10_paste_133 ?_
                        refine lv_topi (fun v_1108 ev_1108 => ?_)
                        obtain rfl : 0 = v_1108 := (ev_1108.trans (by decide)).symm
                        refine lv_iload_n hx hb dX10_paste_134 rfl (lv_at hl 3 rfl) ?_
                        refine lv_iadd hx hb dX10_paste_135 ?_
                        refine lv_topi (fun v_1109 ev_1109 => ?_)
                        have qv_1109 := ba_add ev_1109 (bkc (x := 0) (c := 0) (by decide)) h_1031 (by decide)
                        have bv_1109 : (0 : Int) ≤ v_1109.toInt ∧ v_1109.toInt ≤ 60 := bq_add qv_1109 (bkc (x := 0) (c := 0) (by decide)) h_1031 _ _ (by decide)
                        have qv_1109 : v_1109.toInt = (0) + a2.toInt := qv_1109
                        refine lv_iload hx hb dX10_paste_136 (lv_at hl 0 rfl) ?_
                        refine lv_iadd hx hb dX10_paste_138 ?_
                        refine lv_topi (fun v_1110 ev_1110 => ?_)
                        have qv_1110 := ba_add ev_1110 bv_1109 nc_1067.1 (by decide)
                        have bv_1110 : (0 : Int) ≤ v_1110.toInt ∧ v_1110.toInt ≤ 119 := bq_add qv_1110 bv_1109 nc_1067.1 _ _ (by decide)
                        refine va_lald hx hb hK.1 hP 3 2 rfl rfl (vi bv_1110 (by decide)) dX10_paste_139 ?_
                        refine lv_topl (fun v_1111 ev_1111 => ?_)
                        refine va_last hx hb hK.1 hP hD hS 4 2 rfl rfl (vi nc_1067.1 (by decide)) dX10_paste_140 (fun H locs hP hD hS => ?_)
                        generalize hf_1112 : (vp_updL f_1059 (v_1058 : Int32).toNatClampNeg v_1111) = f_1112 at hP hD
                        obtain ⟨hP, hD⟩ : vPD G A H [(ce_X10 ob ob_thrown ob_world ob_images ob_hasImage ob_tape ob_taped ob_five ob_size ob_at ob_from ob_token ob_value ob_faultKind ob_faultPlace ob_fresh ob_parts ob_houses ob_houseMany ob_worthOf ob_byCall ob_over ob_bestSet ob_bestOver ob_bestWorth ob_row ob_tenDebts ob_tenMany ob_fewestBy ob_covered ob_queue ob_cameBy ob_parent ob_met ob_calls ob_callMany ob_calledOn ob_saved ob_many ob_width ob_numbers ob_moving), (ce_i4 y ob_many fob_many), (ce_i4 y ob_width fob_width), (ce_l240 y ob_numbers fob_numbers), (ce_l60 y ob_moving f_1112)] := ⟨hP, hD⟩
                        obtain ⟨v_1113, ev_1113⟩ : ∃ z : Int32, z = v_1058 + 1 := ⟨_, rfl⟩
                        have qv_1113 := ba_add ev_1113 nc_1067.1 (bkc (x := 1) (c := 1) (by decide)) (by decide)
                        have bv_1113 : (1 : Int) ≤ v_1113.toInt ∧ v_1113.toInt ≤ 60 := bq_add qv_1113 nc_1067.1 (bkc (x := 1) (c := 1) (by decide)) _ _ (by decide)
                        have qv_1113 : v_1113.toInt = v_1058.toInt + (1) := qv_1113
                        refine lv_iinc (v := v_1113) (lv' := [(6, .int v_1113), (0, .ref ob), (1, .int 0), (2, .int a2), (3, .int 2), (4, .int a4), (5, .int a5)]) hx hb dX10_paste_141 hl (k := 0) rfl (ev_1113.symm) (by decide) rfl (fun ls hl => ?_)
                        refine lv_goto (tgt := 113) hx hb dX10_paste_144 (by decide) ?_
                        exact ih_1066 _ (ml_inc (hi := 60) hn_1066 qv_1113 (by decide) ((bw (0) (60) bv_1113 (by decide))).2) _ _ _ _ ⟨v_1113, f_1112, rfl, (bw (0) (60) bv_1113 (by decide)), (ml_s rl1059_0 hf_1112 ev_1111 (by omega) (by omega) (by omega) (by omega)), rfl, ⟨hP, hD⟩, hS, lv_sub hl [0, 1, 2, 3, 4, 5, 6] rfl⟩
                    · skip
                      have nc_1030 := jl_nle c_1030
                      refine lv_bipush (v := (-7)) hx hb dX10_paste_107 (by decide) ?_
                      exact W.iret (v := (-7)) hx hb hr (fun t ht hW => ⟨⟨(-7), _, rfl, Or.inr (Or.inl (⟨by have h90 : Int32.toInt (-7) = -7 := (by decide); have h91 : Int32.toInt 0 = 0 := (by decide); have h92 : Int32.toInt 2 = 2 := (by decide); omega, rfl, rfl⟩)), by rw [ht]; exact hP, hD⟩, hS.F ht⟩) hS.2.2 dX10_paste_109
          · skip
            have nc_1015 : v_1013.toInt ≠ v_1014.toInt := fun h9 => c_1015 (Int32.toInt_inj.mp h9)
            refine lv_bipush (v := (-8)) hx hb dX10_paste_55 (by decide) ?_
            exact W.iret (v := (-8)) hx hb hr (fun t ht hW => ⟨⟨(-8), _, rfl, Or.inr (Or.inr (Or.inl (⟨by have h90 : Int32.toInt (-8) = -8 := (by decide); have h91 : Int32.toInt 0 = 0 := (by decide); have h92 : Int32.toInt 2 = 2 := (by decide); omega, rfl, rfl⟩))), by rw [ht]; exact hP, hD⟩, hS.F ht⟩) hS.2.2 dX10_paste_57
        · skip
          have nc_1012 := nb_eq (-1) (-1) c_1012 bv_1011 (bkc (x := (-1)) (c := -1) (by decide)) (by decide)
          refine lv_bipush (v := (-6)) hx hb dX10_paste_37 (by decide) ?_
          exact W.iret (v := (-6)) hx hb hr (fun t ht hW => ⟨⟨(-6), _, rfl, Or.inl (⟨by have h90 : Int32.toInt (-6) = -6 := (by decide); have h91 : Int32.toInt 0 = 0 := (by decide); have h92 : Int32.toInt 2 = 2 := (by decide); omega, rfl, rfl⟩), by rw [ht]; exact hP, hD⟩, hS.F ht⟩) hS.2.2 dX10_paste_39

set_option maxHeartbeats 4000000 in
set_option maxRecDepth 100000 in
theorem fpasteM03 (l : Launch) (G : va_G) (y : Nat → ClassId) (sz : Nat) (ob : Nat) (a2 : Int32) (a4 : Int32) (a5 : Int32) (ob_thrown : Int32) (ob_world : Nat) (ob_images : Nat) (ob_hasImage : Nat) (ob_tape : Nat) (ob_taped : Int32) (ob_five : Nat) (ob_size : Int32) (ob_at : Int32) (ob_from : Int32) (ob_token : Int32) (ob_value : Int32) (ob_faultKind : Int32) (ob_faultPlace : Int32) (ob_fresh : Nat) (ob_parts : Nat) (ob_houses : Nat) (ob_houseMany : Int32) (ob_worthOf : Nat) (ob_byCall : Nat) (ob_over : Nat) (ob_bestSet : Int32) (ob_bestOver : Int32) (ob_bestWorth : Int32) (ob_row : Nat) (ob_tenDebts : Nat) (ob_tenMany : Int32) (ob_fewestBy : Nat) (ob_covered : Nat) (ob_queue : Nat) (ob_cameBy : Nat) (ob_parent : Nat) (ob_met : Nat) (ob_calls : Nat) (ob_callMany : Int32) (ob_calledOn : Nat) (ob_saved : Nat) (ob_many : Nat) (ob_width : Nat) (ob_numbers : Nat) (ob_moving : Nat) (fob_many : Nat → Int32) (fob_width : Nat → Int32) (fob_numbers : Nat → Int64) (fob_moving : Nat → Int64) (p_ob_taped : (0 : Int) ≤ ob_taped.toInt ∧ ob_taped.toInt ≤ 1400) (p_ob_size : (0 : Int) ≤ ob_size.toInt ∧ ob_size.toInt ≤ 1400) (p_ob_at : (0 : Int) ≤ ob_at.toInt ∧ ob_at.toInt ≤ 1400) (p_ob_from : (0 : Int) ≤ ob_from.toInt ∧ ob_from.toInt ≤ 1400) (p_ob_token : (0 : Int) ≤ ob_token.toInt ∧ ob_token.toInt ≤ 4) (p_ob_value : (0 : Int) ≤ ob_value.toInt ∧ ob_value.toInt ≤ 9999) (p_ob_faultKind : (0 : Int) ≤ ob_faultKind.toInt ∧ ob_faultKind.toInt ≤ 3) (p_ob_houseMany : (0 : Int) ≤ ob_houseMany.toInt ∧ ob_houseMany.toInt ≤ 10) (p_ob_bestSet : (0 : Int) ≤ ob_bestSet.toInt ∧ ob_bestSet.toInt ≤ 1023) (p_ob_bestOver : (-1 : Int) ≤ ob_bestOver.toInt ∧ ob_bestOver.toInt ≤ 180) (p_ob_tenMany : (0 : Int) ≤ ob_tenMany.toInt ∧ ob_tenMany.toInt ≤ 10) (p_ob_callMany : (0 : Int) ≤ ob_callMany.toInt ∧ ob_callMany.toInt ≤ 16) (p_fob_many : ∀ i, (-1 : Int) ≤ (fob_many i).toInt ∧ (fob_many i).toInt ≤ 60) (p_fob_width : ∀ i, (0 : Int) ≤ (fob_width i).toInt ∧ (fob_width i).toInt ≤ 3) : Met l yX10_paste (Cond.code yX10_paste cX10_paste 7 (some .int) :: wAll) ({ frames := 2, cells := 0, slots := 0, locals := 45 }) (va_Pc [.ref ob, .int 0, .int a2, .int 3, .int a4, .int a5] (kp G y sz [(ce_X10 ob ob_thrown ob_world ob_images ob_hasImage ob_tape ob_taped ob_five ob_size ob_at ob_from ob_token ob_value ob_faultKind ob_faultPlace ob_fresh ob_parts ob_houses ob_houseMany ob_worthOf ob_byCall ob_over ob_bestSet ob_bestOver ob_bestWorth ob_row ob_tenDebts ob_tenMany ob_fewestBy ob_covered ob_queue ob_cameBy ob_parent ob_met ob_calls ob_callMany ob_calledOn ob_saved ob_many ob_width ob_numbers ob_moving), (ce_i4 y ob_many fob_many), (ce_i4 y ob_width fob_width), (ce_l240 y ob_numbers fob_numbers), (ce_l60 y ob_moving fob_moving)])) (va_Qi (fun (r : Int32) (w : va_W) => (((fob_many 0).toInt = -1 ∨ (fob_many 3).toInt = -1) ∧ r = (-6) ∧ w = [(ce_X10 ob ob_thrown ob_world ob_images ob_hasImage ob_tape ob_taped ob_five ob_size ob_at ob_from ob_token ob_value ob_faultKind ob_faultPlace ob_fresh ob_parts ob_houses ob_houseMany ob_worthOf ob_byCall ob_over ob_bestSet ob_bestOver ob_bestWorth ob_row ob_tenDebts ob_tenMany ob_fewestBy ob_covered ob_queue ob_cameBy ob_parent ob_met ob_calls ob_callMany ob_calledOn ob_saved ob_many ob_width ob_numbers ob_moving), (ce_i4 y ob_many fob_many), (ce_i4 y ob_width fob_width), (ce_l240 y ob_numbers fob_numbers), (ce_l60 y ob_moving fob_moving)]) ∨ ((¬ (fob_many 0).toInt = -1 ∧ ¬ (fob_many 3).toInt = -1 ∧ (fob_width 0).toInt = (fob_width 3).toInt ∧ ¬ (0 ≤ a2.toInt ∧ 0 ≤ a4.toInt ∧ 0 ≤ a5.toInt ∧ a2.toInt + a5.toInt ≤ (fob_many 0).toInt ∧ a4.toInt + a5.toInt ≤ (fob_many 3).toInt)) ∧ r = (-7) ∧ w = [(ce_X10 ob ob_thrown ob_world ob_images ob_hasImage ob_tape ob_taped ob_five ob_size ob_at ob_from ob_token ob_value ob_faultKind ob_faultPlace ob_fresh ob_parts ob_houses ob_houseMany ob_worthOf ob_byCall ob_over ob_bestSet ob_bestOver ob_bestWorth ob_row ob_tenDebts ob_tenMany ob_fewestBy ob_covered ob_queue ob_cameBy ob_parent ob_met ob_calls ob_callMany ob_calledOn ob_saved ob_many ob_width ob_numbers ob_moving), (ce_i4 y ob_many fob_many), (ce_i4 y ob_width fob_width), (ce_l240 y ob_numbers fob_numbers), (ce_l60 y ob_moving fob_moving)]) ∨ ((¬ (fob_many 0).toInt = -1 ∧ ¬ (fob_many 3).toInt = -1 ∧ ¬ (fob_width 0).toInt = (fob_width 3).toInt) ∧ r = (-8) ∧ w = [(ce_X10 ob ob_thrown ob_world ob_images ob_hasImage ob_tape ob_taped ob_five ob_size ob_at ob_from ob_token ob_value ob_faultKind ob_faultPlace ob_fresh ob_parts ob_houses ob_houseMany ob_worthOf ob_byCall ob_over ob_bestSet ob_bestOver ob_bestWorth ob_row ob_tenDebts ob_tenMany ob_fewestBy ob_covered ob_queue ob_cameBy ob_parent ob_met ob_calls ob_callMany ob_calledOn ob_saved ob_many ob_width ob_numbers ob_moving), (ce_i4 y ob_many fob_many), (ce_i4 y ob_width fob_width), (ce_l240 y ob_numbers fob_numbers), (ce_l60 y ob_moving fob_moving)]) ∨ (∃ (f_237 : Nat → Int64) (f_238 : Nat → Int64), ((0 : Int) ≤ a2.toInt ∧ a2.toInt ≤ 60) ∧ ((0 : Int) ≤ a4.toInt ∧ a4.toInt ≤ 60) ∧ ((0 : Int) ≤ a5.toInt ∧ a5.toInt ≤ 60) ∧ (¬ (fob_many 0).toInt = -1 ∧ ¬ (fob_many 3).toInt = -1 ∧ (fob_width 0).toInt = (fob_width 3).toInt ∧ 0 ≤ a2.toInt ∧ 0 ≤ a4.toInt ∧ 0 ≤ a5.toInt ∧ a2.toInt + a5.toInt ≤ (fob_many 0).toInt ∧ a4.toInt + a5.toInt ≤ (fob_many 3).toInt) ∧ (pL f_237 fob_numbers (0 + a2.toInt.toNat) (180 + a4.toInt.toNat) a5.toInt) ∧ r = 0 ∧ w = [(ce_X10 ob ob_thrown ob_world ob_images ob_hasImage ob_tape ob_taped ob_five ob_size ob_at ob_from ob_token ob_value ob_faultKind ob_faultPlace ob_fresh ob_parts ob_houses ob_houseMany ob_worthOf ob_byCall ob_over ob_bestSet ob_bestOver ob_bestWorth ob_row ob_tenDebts ob_tenMany ob_fewestBy ob_covered ob_queue ob_cameBy ob_parent ob_met ob_calls ob_callMany ob_calledOn ob_saved ob_many ob_width ob_numbers ob_moving), (ce_i4 y ob_many fob_many), (ce_i4 y ob_width fob_width), (ce_l240 y ob_numbers f_237), (ce_l60 y ob_moving f_238)])) (kq G (va_A [(ce_X10 ob ob_thrown ob_world ob_images ob_hasImage ob_tape ob_taped ob_five ob_size ob_at ob_from ob_token ob_value ob_faultKind ob_faultPlace ob_fresh ob_parts ob_houses ob_houseMany ob_worthOf ob_byCall ob_over ob_bestSet ob_bestOver ob_bestWorth ob_row ob_tenDebts ob_tenMany ob_fewestBy ob_covered ob_queue ob_cameBy ob_parent ob_met ob_calls ob_callMany ob_calledOn ob_saved ob_many ob_width ob_numbers ob_moving), (ce_i4 y ob_many fob_many), (ce_i4 y ob_width fob_width), (ce_l240 y ob_numbers fob_numbers), (ce_l60 y ob_moving fob_moving)] sz)) (va_A [(ce_X10 ob ob_thrown ob_world ob_images ob_hasImage ob_tape ob_taped ob_five ob_size ob_at ob_from ob_token ob_value ob_faultKind ob_faultPlace ob_fresh ob_parts ob_houses ob_houseMany ob_worthOf ob_byCall ob_over ob_bestSet ob_bestOver ob_bestWorth ob_row ob_tenDebts ob_tenMany ob_fewestBy ob_covered ob_queue ob_cameBy ob_parent ob_met ob_calls ob_callMany ob_calledOn ob_saved ob_many ob_width ob_numbers ob_moving), (ce_i4 y ob_many fob_many), (ce_i4 y ob_width fob_width), (ce_l240 y ob_numbers fob_numbers), (ce_l60 y ob_moving fob_moving)] sz)) 0 0 (va_A [(ce_X10 ob ob_thrown ob_world ob_images ob_hasImage ob_tape ob_taped ob_five ob_size ob_at ob_from ob_token ob_value ob_faultKind ob_faultPlace ob_fresh ob_parts ob_houses ob_houseMany ob_worthOf ob_byCall ob_over ob_bestSet ob_bestOver ob_bestWorth ob_row ob_tenDebts ob_tenMany ob_fewestBy ob_covered ob_queue ob_cameBy ob_parent ob_met ob_calls ob_callMany ob_calledOn ob_saved ob_many ob_width ob_numbers ob_moving), (ce_i4 y ob_many fob_many), (ce_i4 y ob_width fob_width), (ce_l240 y ob_numbers fob_numbers), (ce_l60 y ob_moving fob_moving)] sz) := by
  refine Met.ofW (cc := cX10_paste) (maxL := 7) (ret := (some .int)) (by decide) rfl ?_
  intro p e s m args below meth c s₁ B hml hv
  obtain ⟨rfl, hsz, hP, hK, hD0⟩ := hv
  have hx := B.exec
  have hb := B.bytes
  have hr := B.returns
  have hw0 : ∀ w ∈ wAll, w.before _ s = true := fun w h => atoms_spec (ws := Cond.code yX10_paste cX10_paste 7 (some .int) :: wAll) B.pre w (List.mem_cons_of_mem _ h)
  have hown : s.vm.findClass RX10 = some m.cls := findClass_of_methodNamed B.named
  subst hsz
  have hD := hD0.self (sz := s.heap.size)
  generalize hAe : va_A [(ce_X10 ob ob_thrown ob_world ob_images ob_hasImage ob_tape ob_taped ob_five ob_size ob_at ob_from ob_token ob_value ob_faultKind ob_faultPlace ob_fresh ob_parts ob_houses ob_houseMany ob_worthOf ob_byCall ob_over ob_bestSet ob_bestOver ob_bestWorth ob_row ob_tenDebts ob_tenMany ob_fewestBy ob_covered ob_queue ob_cameBy ob_parent ob_met ob_calls ob_callMany ob_calledOn ob_saved ob_many ob_width ob_numbers ob_moving), (ce_i4 y ob_many fob_many), (ce_i4 y ob_width fob_width), (ce_l240 y ob_numbers fob_numbers), (ce_l60 y ob_moving fob_moving)] s.heap.size = A at hD ⊢
  have hA : ∀ q : Nat, s.heap.size ≤ q → A q := fun q h => by rw [← hAe]; exact Or.inr h
  have hS : va_S A s.heap s.heap [] := va_S.rf
  have hP : va_P G vwCl [(ce_X10 ob ob_thrown ob_world ob_images ob_hasImage ob_tape ob_taped ob_five ob_size ob_at ob_from ob_token ob_value ob_faultKind ob_faultPlace ob_fresh ob_parts ob_houses ob_houseMany ob_worthOf ob_byCall ob_over ob_bestSet ob_bestOver ob_bestWorth ob_row ob_tenDebts ob_tenMany ob_fewestBy ob_covered ob_queue ob_cameBy ob_parent ob_met ob_calls ob_callMany ob_calledOn ob_saved ob_many ob_width ob_numbers ob_moving), (ce_i4 y ob_many fob_many), (ce_i4 y ob_width fob_width), (ce_l240 y ob_numbers fob_numbers), (ce_l60 y ob_moving fob_moving)] s.heap := hP
  have hl := lv_entry ([.ref ob, .int 0, .int a2, .int 3, .int a4, .int a5]) (n := 7) (Nat.le_of_ble_eq_true rfl)
  rw [lg_entry_eq]
  generalize (lg_sl ([.ref ob, .int 0, .int a2, .int 3, .int a4, .int a5]) ++ List.replicate (7 - (lg_sl ([.ref ob, .int 0, .int a2, .int 3, .int a4, .int a5])).length) Slot.unset).toArray = ls at hl ⊢
  have hl : lv_has ls 7 [(0, .ref ob), (1, .int 0), (2, .int a2), (3, .int 3), (4, .int a4), (5, .int a5)] := hl
  refine lv_iload_n hx hb dX10_paste_0 rfl (lv_at hl 1 rfl) ?_
  refine cSim (As := [.int 0]) (rest := []) ⟨hx, hb, hml, hown, hw0⟩ hA hK hP hD hS [] (gisSlotM l G y _ 0 ) rfl ⟨(callB_of 1 hw0 (gA m_543) rfl rfl rfl (hw0 _ m_41) (hw0 _ m_433) cb_X10_isSlot ⟨Nat.le_of_ble_eq_true rfl, Nat.le_of_ble_eq_true rfl⟩), (hw0 _ m_434)⟩ rfl hl.1 (Nat.le_of_ble_eq_true rfl) dX10_paste_1 ⟨Nat.le_of_ble_eq_true rfl, Nat.le_of_ble_eq_true rfl⟩ (fun r_1001 w_1001 H locs hw_1001 hP hD hS => ?_)
  rcases hw_1001 with ⟨h_1002, rfl, rfl⟩ | ⟨h_1003, h_1004, rfl, rfl⟩
  · skip
    exact False.elim (by have h9 : Int32.toInt 0 = 0 := (by decide); omega)
  · skip
    obtain ⟨hP, hD⟩ : vPD G A H [(ce_X10 ob ob_thrown ob_world ob_images ob_hasImage ob_tape ob_taped ob_five ob_size ob_at ob_from ob_token ob_value ob_faultKind ob_faultPlace ob_fresh ob_parts ob_houses ob_houseMany ob_worthOf ob_byCall ob_over ob_bestSet ob_bestOver ob_bestWorth ob_row ob_tenDebts ob_tenMany ob_fewestBy ob_covered ob_queue ob_cameBy ob_parent ob_met ob_calls ob_callMany ob_calledOn ob_saved ob_many ob_width ob_numbers ob_moving), (ce_i4 y ob_many fob_many), (ce_i4 y ob_width fob_width), (ce_l240 y ob_numbers fob_numbers), (ce_l60 y ob_moving fob_moving)] := ⟨hP, hD⟩
    refine lv_if_eq (tgt := 14) hx hb dX10_paste_4 (by decide) (fun c9 => absurd c9 (by decide)) (fun _ => ?_)
    refine lv_iload_n hx hb dX10_paste_7 rfl (lv_at hl 3 rfl) ?_
    refine cSim (As := [.int 3]) (rest := []) ⟨hx, hb, hml, hown, hw0⟩ hA hK hP hD hS [] (gisSlotM l G y _ 3 ) rfl ⟨(callB_of 1 hw0 (gA m_543) rfl rfl rfl (hw0 _ m_41) (hw0 _ m_433) cb_X10_isSlot ⟨Nat.le_of_ble_eq_true rfl, Nat.le_of_ble_eq_true rfl⟩), (hw0 _ m_434)⟩ rfl hl.1 (Nat.le_of_ble_eq_true rfl) dX10_paste_8 ⟨Nat.le_of_ble_eq_true rfl, Nat.le_of_ble_eq_true rfl⟩ (fun r_1005 w_1005 H locs hw_1005 hP hD hS => ?_)
    rcases hw_1005 with ⟨h_1006, rfl, rfl⟩ | ⟨h_1007, h_1008, rfl, rfl⟩
    · skip
      exact False.elim (by have h9 : Int32.toInt 3 = 3 := (by decide); omega)
    · skip
      obtain ⟨hP, hD⟩ : vPD G A H [(ce_X10 ob ob_thrown ob_world ob_images ob_hasImage ob_tape ob_taped ob_five ob_size ob_at ob_from ob_token ob_value ob_faultKind ob_faultPlace ob_fresh ob_parts ob_houses ob_houseMany ob_worthOf ob_byCall ob_over ob_bestSet ob_bestOver ob_bestWorth ob_row ob_tenDebts ob_tenMany ob_fewestBy ob_covered ob_queue ob_cameBy ob_parent ob_met ob_calls ob_callMany ob_calledOn ob_saved ob_many ob_width ob_numbers ob_moving), (ce_i4 y ob_many fob_many), (ce_i4 y ob_width fob_width), (ce_l240 y ob_numbers fob_numbers), (ce_l60 y ob_moving fob_moving)] := ⟨hP, hD⟩
      refine lv_if_ne (tgt := 17) hx hb dX10_paste_11 (by decide) (fun _ => ?_) (fun c9 => absurd c9 (by decide))
      refine lv_aload_n hx hb dX10_paste_17 rfl (lv_at hl 0 rfl) ?_
      refine va_get (D := G) (ci := 10) (v := .ref ob_many) (C := RX10) (T := TX10) (N := 41) hx hb hw0 inA_wsX100 hown hK.1 hP 0 rfl rfl 37 (by decide) (hw0 _ m_406) (fun _ h9 => h9) rfl dX10_paste_18 ?_
      refine lv_iload_n hx hb dX10_paste_21 rfl (lv_at hl 1 rfl) ?_
      refine va_iald hx hb hK.1 hP 1 1 rfl rfl (vi (bkc (x := 0) (c := 0) (by decide)) (by decide)) dX10_paste_22 ?_
      refine lv_topi (fun v_1009 ev_1009 => ?_)
      have bv_1009 : (-1 : Int) ≤ v_1009.toInt ∧ v_1009.toInt ≤ 60 := rd_b ev_1009 p_fob_many
      have yv_1009 : v_1009.toInt = (fob_many 0).toInt := congrArg Int32.toInt ev_1009
      refine lv_iconst (v := (-1)) hx hb dX10_paste_23 (by decide) ?_
      refine lv_icmp_eq (tgt := 37) hx hb dX10_paste_24 (by decide) (fun c_1010 => ?_) (fun c_1010 => ?_)
      · skip
        have nc_1010 := nb_eq (-1) (-1) c_1010 bv_1009 (bkc (x := (-1)) (c := -1) (by decide)) (by decide)
        refine lv_bipush (v := (-6)) hx hb dX10_paste_37 (by decide) ?_
        exact W.iret (v := (-6)) hx hb hr (fun t ht hW => ⟨⟨(-6), _, rfl, Or.inl (⟨by have h90 : Int32.toInt (-6) = -6 := (by decide); have h91 : Int32.toInt 0 = 0 := (by decide); have h92 : Int32.toInt 3 = 3 := (by decide); omega, rfl, rfl⟩), by rw [ht]; exact hP, hD⟩, hS.F ht⟩) hS.2.2 dX10_paste_39
      · skip
        have nc_1010 := nb_ne (0) (60) c_1010 bv_1009 (k := -1) (by decide) (by decide)
        refine lv_aload_n hx hb dX10_paste_27 rfl (lv_at hl 0 rfl) ?_
        refine va_get (D := G) (ci := 10) (v := .ref ob_many) (C := RX10) (T := TX10) (N := 41) hx hb hw0 inA_wsX100 hown hK.1 hP 0 rfl rfl 37 (by decide) (hw0 _ m_406) (fun _ h9 => h9) rfl dX10_paste_28 ?_
        refine lv_iload_n hx hb dX10_paste_31 rfl (lv_at hl 3 rfl) ?_
        refine va_iald hx hb hK.1 hP 1 1 rfl rfl (vi (bkc (x := 3) (c := 3) (by decide)) (by decide)) dX10_paste_32 ?_
        refine lv_topi (fun v_1011 ev_1011 => ?_)
        have bv_1011 : (-1 : Int) ≤ v_1011.toInt ∧ v_1011.toInt ≤ 60 := rd_b ev_1011 p_fob_many
        have yv_1011 : v_1011.toInt = (fob_many 3).toInt := congrArg Int32.toInt ev_1011
        refine lv_iconst (v := (-1)) hx hb dX10_paste_33 (by decide) ?_
        refine lv_icmp_ne (tgt := 40) hx hb dX10_paste_34 (by decide) (fun c_1012 => ?_) (fun c_1012 => ?_)
        · skip
          have nc_1012 := nb_ne (0) (60) c_1012 bv_1011 (k := -1) (by decide) (by decide)
          refine lv_aload_n hx hb dX10_paste_40 rfl (lv_at hl 0 rfl) ?_
          refine va_get (D := G) (ci := 10) (v := .ref ob_width) (C := RX10) (T := TX10) (N := 41) hx hb hw0 inA_wsX100 hown hK.1 hP 0 rfl rfl 38 (by decide) (hw0 _ m_527) (fun _ h9 => h9) rfl dX10_paste_41 ?_
          refine lv_iload_n hx hb dX10_paste_44 rfl (lv_at hl 1 rfl) ?_
          refine va_iald hx hb hK.1 hP 2 1 rfl rfl (vi (bkc (x := 0) (c := 0) (by decide)) (by decide)) dX10_paste_45 ?_
          refine lv_topi (fun v_1013 ev_1013 => ?_)
          have bv_1013 : (0 : Int) ≤ v_1013.toInt ∧ v_1013.toInt ≤ 3 := rd_b ev_1013 p_fob_width
          have yv_1013 : v_1013.toInt = (fob_width 0).toInt := congrArg Int32.toInt ev_1013
          refine lv_aload_n hx hb dX10_paste_46 rfl (lv_at hl 0 rfl) ?_
          refine va_get (D := G) (ci := 10) (v := .ref ob_width) (C := RX10) (T := TX10) (N := 41) hx hb hw0 inA_wsX100 hown hK.1 hP 0 rfl rfl 38 (by decide) (hw0 _ m_527) (fun _ h9 => h9) rfl dX10_paste_47 ?_
          refine lv_iload_n hx hb dX10_paste_50 rfl (lv_at hl 3 rfl) ?_
          refine va_iald hx hb hK.1 hP 2 1 rfl rfl (vi (bkc (x := 3) (c := 3) (by decide)) (by decide)) dX10_paste_51 ?_
          refine lv_topi (fun v_1014 ev_1014 => ?_)
          have bv_1014 : (0 : Int) ≤ v_1014.toInt ∧ v_1014.toInt ≤ 3 := rd_b ev_1014 p_fob_width
          have yv_1014 : v_1014.toInt = (fob_width 3).toInt := congrArg Int32.toInt ev_1014
          refine lv_icmp_eq (tgt := 58) hx hb dX10_paste_52 (by decide) (fun c_1015 => ?_) (fun c_1015 => ?_)
          · skip
            have nc_1015 := nb_eq (0) (3) c_1015 bv_1013 bv_1014 (by decide)
            refine lv_iload_n hx hb dX10_paste_58 rfl (lv_at hl 2 rfl) ?_
            refine lv_if_lt (tgt := 107) hx hb dX10_paste_59 (by decide) (fun c_1016 => ?_) (fun c_1016 => ?_)
            · skip
              have nc_1016 := nb_lt (-1) (0) c_1016 (btop a2) (bkc (x := 0) (c := 0) (by decide)) (by decide)
              refine lv_bipush (v := (-7)) hx hb dX10_paste_107 (by decide) ?_
              exact W.iret (v := (-7)) hx hb hr (fun t ht hW => ⟨⟨(-7), _, rfl, Or.inr (Or.inl (⟨by have h90 : Int32.toInt (-7) = -7 := (by decide); have h91 : Int32.toInt 0 = 0 := (by decide); have h92 : Int32.toInt 3 = 3 := (by decide); omega, rfl, rfl⟩)), by rw [ht]; exact hP, hD⟩, hS.F ht⟩) hS.2.2 dX10_paste_109
            · skip
              have nc_1016 := nb_nlt (0) (0) c_1016 (bkc (x := 0) (c := 0) (by decide)) (btop a2) (by decide)
              refine lv_iload hx hb dX10_paste_62 (lv_at hl 4 rfl) ?_
              refine lv_if_lt (tgt := 107) hx hb dX10_paste_64 (by decide) (fun c_1017 => ?_) (fun c_1017 => ?_)
              · skip
                have nc_1017 := nb_lt (-1) (0) c_1017 (btop a4) (bkc (x := 0) (c := 0) (by decide)) (by decide)
                refine lv_bipush (v := (-7)) hx hb dX10_paste_107 (by decide) ?_
                exact W.iret (v := (-7)) hx hb hr (fun t ht hW => ⟨⟨(-7), _, rfl, Or.inr (Or.inl (⟨by have h90 : Int32.toInt (-7) = -7 := (by decide); have h91 : Int32.toInt 0 = 0 := (by decide); have h92 : Int32.toInt 3 = 3 := (by decide); omega, rfl, rfl⟩)), by rw [ht]; exact hP, hD⟩, hS.F ht⟩) hS.2.2 dX10_paste_109
              · skip
                have nc_1017 := nb_nlt (0) (0) c_1017 (bkc (x := 0) (c := 0) (by decide)) (btop a4) (by decide)
                refine lv_iload hx hb dX10_paste_67 (lv_at hl 5 rfl) ?_
                refine lv_if_lt (tgt := 107) hx hb dX10_paste_69 (by decide) (fun c_1018 => ?_) (fun c_1018 => ?_)
                · skip
                  have nc_1018 := nb_lt (-1) (0) c_1018 (btop a5) (bkc (x := 0) (c := 0) (by decide)) (by decide)
                  refine lv_bipush (v := (-7)) hx hb dX10_paste_107 (by decide) ?_
                  exact W.iret (v := (-7)) hx hb hr (fun t ht hW => ⟨⟨(-7), _, rfl, Or.inr (Or.inl (⟨by have h90 : Int32.toInt (-7) = -7 := (by decide); have h91 : Int32.toInt 0 = 0 := (by decide); have h92 : Int32.toInt 3 = 3 := (by decide); omega, rfl, rfl⟩)), by rw [ht]; exact hP, hD⟩, hS.F ht⟩) hS.2.2 dX10_paste_109
                · skip
                  have nc_1018 := nb_nlt (0) (0) c_1018 (bkc (x := 0) (c := 0) (by decide)) (btop a5) (by decide)
                  refine lv_iload_n hx hb dX10_paste_72 rfl (lv_at hl 2 rfl) ?_
                  refine lv_i2l hx hb dX10_paste_73 rfl ?_
                  have kk_1019 : ((a2).toInt64).toInt = (a2).toInt := Int32.toInt_toInt64 _
                  refine lv_iload hx hb dX10_paste_74 (lv_at hl 5 rfl) ?_
                  refine lv_i2l hx hb dX10_paste_76 rfl ?_
                  have kk_1020 : ((a5).toInt64).toInt = (a5).toInt := Int32.toInt_toInt64 _
                  refine lv_ladd hx hb dX10_paste_77 ?_
                  refine lv_topl (fun v_1021 ev_1021 => ?_)
                  have qv_1021 := la_add ev_1021
                  refine lv_aload_n hx hb dX10_paste_78 rfl (lv_at hl 0 rfl) ?_
                  refine va_get (D := G) (ci := 10) (v := .ref ob_many) (C := RX10) (T := TX10) (N := 41) hx hb hw0 inA_wsX100 hown hK.1 hP 0 rfl rfl 37 (by decide) (hw0 _ m_406) (fun _ h9 => h9) rfl dX10_paste_79 ?_
                  refine lv_iload_n hx hb dX10_paste_82 rfl (lv_at hl 1 rfl) ?_
                  refine va_iald hx hb hK.1 hP 1 1 rfl rfl (vi (bkc (x := 0) (c := 0) (by decide)) (by decide)) dX10_paste_83 ?_
                  refine lv_topi (fun v_1022 ev_1022 => ?_)
                  obtain rfl : v_1009 = v_1022 := (ev_1022.trans (ev_1009.symm)).symm
                  refine lv_i2l hx hb dX10_paste_84 rfl ?_
                  have kk_1023 : ((v_1009).toInt64).toInt = (v_1009).toInt := Int32.toInt_toInt64 _
                  refine W.lcmp hx hb dX10_paste_85 ?_
                  refine lv_if_gt (tgt := 107) hx hb dX10_paste_86 (by decide) (fun c_1024 => ?_) (fun c_1024 => ?_)
                  · skip
                    have nc_1024 := jl_gt c_1024
                    refine lv_bipush (v := (-7)) hx hb dX10_paste_107 (by decide) ?_
                    exact W.iret (v := (-7)) hx hb hr (fun t ht hW => ⟨⟨(-7), _, rfl, Or.inr (Or.inl (⟨by have h90 : Int32.toInt (-7) = -7 := (by decide); have h91 : Int32.toInt 0 = 0 := (by decide); have h92 : Int32.toInt 3 = 3 := (by decide); omega, rfl, rfl⟩)), by rw [ht]; exact hP, hD⟩, hS.F ht⟩) hS.2.2 dX10_paste_109
                  · skip
                    have nc_1024 := jl_ngt c_1024
                    refine lv_iload hx hb dX10_paste_89 (lv_at hl 4 rfl) ?_
                    refine lv_i2l hx hb dX10_paste_91 rfl ?_
                    have kk_1025 : ((a4).toInt64).toInt = (a4).toInt := Int32.toInt_toInt64 _
                    refine lv_iload hx hb dX10_paste_92 (lv_at hl 5 rfl) ?_
                    refine lv_i2l hx hb dX10_paste_94 rfl ?_
                    have kk_1026 : ((a5).toInt64).toInt = (a5).toInt := Int32.toInt_toInt64 _
                    refine lv_ladd hx hb dX10_paste_95 ?_
                    refine lv_topl (fun v_1027 ev_1027 => ?_)
                    have qv_1027 := la_add ev_1027
                    refine lv_aload_n hx hb dX10_paste_96 rfl (lv_at hl 0 rfl) ?_
                    refine va_get (D := G) (ci := 10) (v := .ref ob_many) (C := RX10) (T := TX10) (N := 41) hx hb hw0 inA_wsX100 hown hK.1 hP 0 rfl rfl 37 (by decide) (hw0 _ m_406) (fun _ h9 => h9) rfl dX10_paste_97 ?_
                    refine lv_iload_n hx hb dX10_paste_100 rfl (lv_at hl 3 rfl) ?_
                    refine va_iald hx hb hK.1 hP 1 1 rfl rfl (vi (bkc (x := 3) (c := 3) (by decide)) (by decide)) dX10_paste_101 ?_
                    refine lv_topi (fun v_1028 ev_1028 => ?_)
                    obtain rfl : v_1011 = v_1028 := (ev_1028.trans (ev_1011.symm)).symm
                    refine lv_i2l hx hb dX10_paste_102 rfl ?_
                    have kk_1029 : ((v_1011).toInt64).toInt = (v_1011).toInt := Int32.toInt_toInt64 _
                    refine W.lcmp hx hb dX10_paste_103 ?_
                    refine lv_if_le (tgt := 110) hx hb dX10_paste_104 (by decide) (fun c_1030 => ?_) (fun c_1030 => ?_)
                    · skip
                      have nc_1030 := jl_le c_1030
                      have h_1031 : (0 : Int) ≤ a2.toInt ∧ a2.toInt ≤ 60 := by omega
                      have h_1032 : (0 : Int) ≤ a4.toInt ∧ a4.toInt ≤ 60 := by omega
                      have h_1033 : (0 : Int) ≤ a5.toInt ∧ a5.toInt ≤ 60 := by omega
                      refine lv_iconst (v := 0) hx hb dX10_paste_110 (by decide) ?_
                      refine lv_istore (lv' := [(6, .int 0), (0, .ref ob), (1, .int 0), (2, .int a2), (3, .int 3), (4, .int a4), (5, .int a5)]) hx hb dX10_paste_111 hl (by decide) rfl (fun ls hl => ?_)
                      refine loopX (fun n H locs ls st => ∃ (v_1058 : Int32) (f_1059 : Nat → Int64), (60 - v_1058.toInt).toNat = n ∧ ((0 : Int) ≤ v_1058.toInt ∧ v_1058.toInt ≤ 60) ∧ (mL f_1059 fob_numbers (0 + a2.toInt.toNat) v_1058.toInt) ∧ st = [] ∧ vPD G A H [(ce_X10 ob ob_thrown ob_world ob_images ob_hasImage ob_tape ob_taped ob_five ob_size ob_at ob_from ob_token ob_value ob_faultKind ob_faultPlace ob_fresh ob_parts ob_houses ob_houseMany ob_worthOf ob_byCall ob_over ob_bestSet ob_bestOver ob_bestWorth ob_row ob_tenDebts ob_tenMany ob_fewestBy ob_covered ob_queue ob_cameBy ob_parent ob_met ob_calls ob_callMany ob_calledOn ob_saved ob_many ob_width ob_numbers ob_moving), (ce_i4 y ob_many fob_many), (ce_i4 y ob_width fob_width), (ce_l240 y ob_numbers fob_numbers), (ce_l60 y ob_moving f_1059)] ∧ va_S A s.heap H locs ∧ lv_has ls 7 [(6, .int v_1058), (0, .ref ob), (1, .int 0), (2, .int a2), (3, .int 3), (4, .int a4), (5, .int a5)]) ?_ (n := (60 - (0 : Int32).toInt).toNat) ⟨0, fob_moving, rfl, (bw (0) (60) (bkc (x := 0) (c := 0) (by decide)) (by decide)), (ml_0 (by have h90 : Int32.toInt 0 = 0 := (by decide); have h91 : Int32.toInt 3 = 3 := (by decide); omega)), rfl, ⟨hP, hD⟩, hS, lv_sub hl [0, 1, 2, 3, 4, 5, 6] rfl⟩
                      rintro n ih_1066 H locs ls st ⟨v_1058, f_1059, hn_1066, bv_1058, rl1059_0, rfl, ⟨hP, hD⟩, hS, hl⟩
                      refine lv_iload hx hb dX10_paste_113 (lv_at hl 0 rfl) ?_
                      refine lv_iload hx hb dX10_paste_115 (lv_at hl 6 rfl) ?_
                      refine lv_icmp_ge (tgt := 147) hx hb dX10_paste_117 (by decide) (fun c_1067 => ?_) (fun c_1067 => ?_)
                      · skip
                        have nc_1067 := nb_le (60) (0) c_1067 h_1033 bv_1058 (by decide)
                        refine lv_iconst (v := 0) hx hb dX10_paste_147 (by decide) ?_
                        refine lv_istore (lv' := [(6, .int 0), (0, .ref ob), (1, .int 0), (2, .int a2), (3, .int 3), (4, .int a4), (5, .int a5)]) hx hb dX10_paste_148 hl (by decide) rfl (fun ls hl => ?_)
                        refine loopX (fun n H locs ls st => ∃ (v_1095 : Int32) (f_1096 : Nat → Int64), (60 - v_1095.toInt).toNat = n ∧ ((0 : Int) ≤ v_1095.toInt ∧ v_1095.toInt ≤ 60) ∧ (nL f_1096 fob_numbers f_1059 (180 + a4.toInt.toNat) v_1095.toInt) ∧ (v_1095.toInt ≤ a5.toInt) ∧ st = [] ∧ vPD G A H [(ce_X10 ob ob_thrown ob_world ob_images ob_hasImage ob_tape ob_taped ob_five ob_size ob_at ob_from ob_token ob_value ob_faultKind ob_faultPlace ob_fresh ob_parts ob_houses ob_houseMany ob_worthOf ob_byCall ob_over ob_bestSet ob_bestOver ob_bestWorth ob_row ob_tenDebts ob_tenMany ob_fewestBy ob_covered ob_queue ob_cameBy ob_parent ob_met ob_calls ob_callMany ob_calledOn ob_saved ob_many ob_width ob_numbers ob_moving), (ce_i4 y ob_many fob_many), (ce_i4 y ob_width fob_width), (ce_l240 y ob_numbers f_1096), (ce_l60 y ob_moving f_1059)] ∧ va_S A s.heap H locs ∧ lv_has ls 7 [(6, .int v_1095), (0, .ref ob), (3, .int 3), (4, .int a4), (5, .int a5)]) ?_ (n := (60 - (0 : Int32).toInt).toNat) ⟨0, fob_numbers, rfl, (bw (0) (60) (bkc (x := 0) (c := 0) (by decide)) (by decide)), (nl_0 (by have h90 : Int32.toInt 0 = 0 := (by decide); have h91 : Int32.toInt 3 = 3 := (by decide); omega)), (by have h90 : Int32.toInt 0 = 0 := (by decide); omega), rfl, ⟨hP, hD⟩, hS, lv_sub hl [0, 1, 4, 5, 6] rfl⟩
                        rintro n ih_1104 H locs ls st ⟨v_1095, f_1096, hn_1104, bv_1095, rl1096_0, rl1096_1, rfl, ⟨hP, hD⟩, hS, hl⟩
                        refine lv_iload hx hb dX10_paste_150 (lv_at hl 0 rfl) ?_
                        refine lv_iload hx hb dX10_paste_152 (lv_at hl 4 rfl) ?_
                        refine lv_icmp_ge (tgt := 185) hx hb dX10_paste_154 (by decide) (fun c_1105 => ?_) (fun c_1105 => ?_)
                        · skip
                          have nc_1105 := nb_le (60) (0) c_1105 nc_1067.1 bv_1095 (by decide)
                          refine lv_iconst (v := 0) hx hb dX10_paste_185 (by decide) ?_
                          exact W.iret (v := 0) hx hb hr (fun t ht hW => ⟨⟨0, _, rfl, Or.inr (Or.inr (Or.inr (⟨f_1096, f_1059, h_1031, h_1032, nc_1105.1, by have h90 : Int32.toInt 0 = 0 := (by decide); have h91 : Int32.toInt 3 = 3 := (by decide); omega, (pl_e rl1059_0 rl1096_0 (by omega) (by omega)), rfl, rfl⟩))), by rw [ht]; exact hP, hD⟩, hS.F ht⟩) hS.2.2 dX10_paste_186
                        · skip
                          have nc_1105 := nb_nle (59) (1) c_1105 bv_1095 nc_1067.1 (by decide)
                          refine lv_aload_n hx hb dX10_paste_157 rfl (lv_at hl 1 rfl) ?_
                          refine va_get (D := G) (ci := 10) (v := .ref ob_numbers) (C := RX10) (T := TX10) (N := 41) hx hb hw0 inA_wsX100 hown hK.1 hP 0 rfl rfl 39 (by decide) (hw0 _ m_435) (fun _ h9 => h9) rfl dX10_paste_158 ?_
                          refine lv_bipush (v := 60) hx hb dX10_paste_161 (by decide) ?_
                          refine lv_iload_n hx hb dX10_paste_163 rfl (lv_at hl 2 rfl) ?_
                          refine lv_imul hx hb dX10_paste_164 ?_
                          refine lv_topi (fun v_1106 ev_1106 => ?_)
                          obtain rfl : 180 = v_1106 := (ev_1106.trans (by decide)).symm
                          refine lv_iload hx hb dX10_paste_165 (lv_at hl 3 rfl) ?_
                          refine lv_iadd hx hb dX10_paste_167 ?_
                          refine lv_topi (fun v_1107 ev_1107 => ?_)
                          have qv_1107 := ba_add ev_1107 (bkc (x := 180) (c := 180) (by decide)) h_1032 (by decide)
                          have bv_1107 : (180 : Int) ≤ v_1107.toInt ∧ v_1107.toInt ≤ 240 := bq_add qv_1107 (bkc (x := 180) (c := 180) (by decide)) h_1032 _ _ (by decide)
                          have qv_1107 : v_1107.toInt = (180) + a4.toInt := qv_1107
                          refine lv_iload hx hb dX10_paste_168 (lv_at hl 0 rfl) ?_
                          refine lv_iadd hx hb dX10_paste_170 ?_
                          refine lv_topi (fun v_1108 ev_1108 => ?_)
                          have qv_1108 := ba_add ev_1108 bv_1107 nc_1105.1 (by decide)
                          have bv_1108 : (180 : Int) ≤ v_1108.toInt ∧ v_1108.toInt ≤ 299 := bq_add qv_1108 bv_1107 nc_1105.1 _ _ (by decide)
                          have h_1109 : (0 : Int) ≤ v_1108.toInt ∧ v_1108.toInt ≤ 239 := by omega
                          refine lv_aload_n hx hb dX10_paste_171 rfl (lv_at hl 1 rfl) ?_
                          refine va_get (D := G) (ci := 10) (v := .ref ob_moving) (C := RX10) (T := TX10) (N := 41) hx hb hw0 inA_wsX100 hown hK.1 hP 0 rfl rfl 40 (by decide) (hw0 _ m_529) (fun _ h9 => h9) rfl dX10_paste_172 ?_
                          refine lv_iload hx hb dX10_paste_175 (lv_at hl 0 rfl) ?_
                          refine va_lald hx hb hK.1 hP 4 2 rfl rfl (vi nc_1105.1 (by decide)) dX10_paste_177 ?_
                          refine lv_topl (fun v_1110 ev_1110 => ?_)
                          refine va_last hx hb hK.1 hP hD hS 3 2 rfl rfl (vi h_1109 (by decide)) dX10_paste_178 (fun H locs hP hD hS => ?_)
                          generalize hf_1111 : (vp_updL f_1096 (v_1108 : Int32).toNatClampNeg v_1110) = f_1111 at hP hD
                          obtain ⟨hP, hD⟩ : vPD G A H [(ce_X10 ob ob_thrown ob_world ob_images ob_hasImage ob_tape ob_taped ob_five ob_size ob_at ob_from ob_token ob_value ob_faultKind ob_faultPlace ob_fresh ob_parts ob_houses ob_houseMany ob_worthOf ob_byCall ob_over ob_bestSet ob_bestOver ob_bestWorth ob_row ob_tenDebts ob_tenMany ob_fewestBy ob_covered ob_queue ob_cameBy ob_parent ob_met ob_calls ob_callMany ob_calledOn ob_saved ob_many ob_width ob_numbers ob_moving), (ce_i4 y ob_many fob_many), (ce_i4 y ob_width fob_width), (ce_l240 y ob_numbers f_1111), (ce_l60 y ob_moving f_1059)] := ⟨hP, hD⟩
                          obtain ⟨v_1112, ev_1112⟩ : ∃ z : Int32, z = v_1095 + 1 := ⟨_, rfl⟩
                          have qv_1112 := ba_add ev_1112 nc_1105.1 (bkc (x := 1) (c := 1) (by decide)) (by decide)
                          have bv_1112 : (1 : Int) ≤ v_1112.toInt ∧ v_1112.toInt ≤ 60 := bq_add qv_1112 nc_1105.1 (bkc (x := 1) (c := 1) (by decide)) _ _ (by decide)
                          have qv_1112 : v_1112.toInt = v_1095.toInt + (1) := qv_1112
                          refine lv_iinc (v := v_1112) (lv' := [(6, .int v_1112), (0, .ref ob), (3, .int 3), (4, .int a4), (5, .int a5)]) hx hb dX10_paste_179 hl (k := 0) rfl (ev_1112.symm) (by decide) rfl (fun ls hl => ?_)
                          refine lv_goto (tgt := 150) hx hb dX10_paste_182 (by decide) ?_
                          exact ih_1104 _ (ml_inc (hi := 60) hn_1104 qv_1112 (by decide) ((bw (0) (60) bv_1112 (by decide))).2) _ _ _ _ ⟨v_1112, f_1111, rfl, (bw (0) (60) bv_1112 (by decide)), (nl_s rl1096_0 hf_1111 ev_1110 (by omega) (by omega) (by omega) (by omega)), (by omega), rfl, ⟨hP, hD⟩, hS, lv_sub hl [0, 1, 2, 3, 4] rfl⟩
                      · skip
                        have nc_1067 := nb_nle (59) (1) c_1067 bv_1058 h_1033 (by decide)
                        refine lv_aload_n hx hb dX10_paste_120 rfl (lv_at hl 1 rfl) ?_
                        refine va_get (D := G) (ci := 10) (v := .ref ob_moving) (C := RX10) (T := TX10) (N := 41) hx hb hw0 inA_wsX100 hown hK.1 hP 0 rfl rfl 40 (by decide) (hw0 _ m_529) (fun _ h9 => h9) rfl dX10_paste_121 ?_
                        refine lv_iload hx hb dX10_paste_124 (lv_at hl 0 rfl) ?_
                        refine lv_aload_n hx hb dX10_paste_126 rfl (lv_at hl 1 rfl) ?_
                        refine va_get (D := G) (ci := 10) (v := .ref ob_numbers) (C := RX10) (T := TX10) (N := 41) hx hb hw0 inA_wsX100 hown hK.1 hP 0 rfl rfl 39 (by decide) (hw0 _ m_435) (fun _ h9 => h9) rfl dX10_paste_127 ?_
                        refine lv_bipush (v := 60) hx hb dX10_paste_130 (by decide) ?_
                        refine lv_iload_n hx hb dX10_paste_132 rfl (lv_at hl 2 rfl) ?_
                        refine lv_imul hx hb dX10_paste_133 ?_
                        refine lv_topi (fun v_1113 ev_1113 => ?_)
                        obtain rfl : 0 = v_1113 := (ev_1113.trans (by decide)).symm
                        refine lv_iload_n hx hb dX10_paste_134 rfl (lv_at hl 3 rfl) ?_
                        refine lv_iadd hx hb dX10_paste_135 ?_
                        refine lv_topi (fun v_1114 ev_1114 => ?_)
                        have qv_1114 := ba_add ev_1114 (bkc (x := 0) (c := 0) (by decide)) h_1031 (by decide)
                        have bv_1114 : (0 : Int) ≤ v_1114.toInt ∧ v_1114.toInt ≤ 60 := bq_add qv_1114 (bkc (x := 0) (c := 0) (by decide)) h_1031 _ _ (by decide)
                        have qv_1114 : v_1114.toInt = (0) + a2.toInt := qv_1114
                        refine lv_iload hx hb dX10_paste_136 (lv_at hl 0 rfl) ?_
                        refine lv_iadd hx hb dX10_paste_138 ?_
                        refine lv_topi (fun v_1115 ev_1115 => ?_)
                        have qv_1115 := ba_add ev_1115 bv_1114 nc_1067.1 (by decide)
                        have bv_1115 : (0 : Int) ≤ v_1115.toInt ∧ v_1115.toInt ≤ 119 := bq_add qv_1115 bv_1114 nc_1067.1 _ _ (by decide)
                        refine va_lald hx hb hK.1 hP 3 2 rfl rfl (vi bv_1115 (by decide)) dX10_paste_139 ?_
                        refine lv_topl (fun v_1116 ev_1116 => ?_)
                        refine va_last hx hb hK.1 hP hD hS 4 2 rfl rfl (vi nc_1067.1 (by decide)) dX10_paste_140 (fun H locs hP hD hS => ?_)
                        generalize hf_1117 : (vp_updL f_1059 (v_1058 : Int32).toNatClampNeg v_1116) = f_1117 at hP hD
                        obtain ⟨hP, hD⟩ : vPD G A H [(ce_X10 ob ob_thrown ob_world ob_images ob_hasImage ob_tape ob_taped ob_five ob_size ob_at ob_from ob_token ob_value ob_faultKind ob_faultPlace ob_fresh ob_parts ob_houses ob_houseMany ob_worthOf ob_byCall ob_over ob_bestSet ob_bestOver ob_bestWorth ob_row ob_tenDebts ob_tenMany ob_fewestBy ob_covered ob_queue ob_cameBy ob_parent ob_met ob_calls ob_callMany ob_calledOn ob_saved ob_many ob_width ob_numbers ob_moving), (ce_i4 y ob_many fob_many), (ce_i4 y ob_width fob_width), (ce_l240 y ob_numbers fob_numbers), (ce_l60 y ob_moving f_1117)] := ⟨hP, hD⟩
                        obtain ⟨v_1118, ev_1118⟩ : ∃ z : Int32, z = v_1058 + 1 := ⟨_, rfl⟩
                        have qv_1118 := ba_add ev_1118 nc_1067.1 (bkc (x := 1) (c := 1) (by decide)) (by decide)
                        have bv_1118 : (1 : Int) ≤ v_1118.toInt ∧ v_1118.toInt ≤ 60 := bq_add qv_1118 nc_1067.1 (bkc (x := 1) (c := 1) (by decide)) _ _ (by decide)
                        have qv_1118 : v_1118.toInt = v_1058.toInt + (1) := qv_1118
                        refine lv_iinc (v := v_1118) (lv' := [(6, .int v_1118), (0, .ref ob), (1, .int 0), (2, .int a2), (3, .int 3), (4, .int a4), (5, .int a5)]) hx hb dX10_paste_141 hl (k := 0) rfl (ev_1118.symm) (by decide) rfl (fun ls hl => ?_)
                        refine lv_goto (tgt := 113) hx hb dX10_paste_144 (by decide) ?_
                        exact ih_1066 _ (ml_inc (hi := 60) hn_1066 qv_1118 (by decide) ((bw (0) (60) bv_1118 (by decide))).2) _ _ _ _ ⟨v_1118, f_1117, rfl, (bw (0) (60) bv_1118 (by decide)), (ml_s rl1059_0 hf_1117 ev_1116 (by omega) (by omega) (by omega) (by omega)), rfl, ⟨hP, hD⟩, hS, lv_sub hl [0, 1, 2, 3, 4, 5, 6] rfl⟩
                    · skip
                      have nc_1030 := jl_nle c_1030
                      refine lv_bipush (v := (-7)) hx hb dX10_paste_107 (by decide) ?_
                      exact W.iret (v := (-7)) hx hb hr (fun t ht hW => ⟨⟨(-7), _, rfl, Or.inr (Or.inl (⟨by have h90 : Int32.toInt (-7) = -7 := (by decide); have h91 : Int32.toInt 0 = 0 := (by decide); have h92 : Int32.toInt 3 = 3 := (by decide); omega, rfl, rfl⟩)), by rw [ht]; exact hP, hD⟩, hS.F ht⟩) hS.2.2 dX10_paste_109
          · skip
            have nc_1015 : v_1013.toInt ≠ v_1014.toInt := fun h9 => c_1015 (Int32.toInt_inj.mp h9)
            refine lv_bipush (v := (-8)) hx hb dX10_paste_55 (by decide) ?_
            exact W.iret (v := (-8)) hx hb hr (fun t ht hW => ⟨⟨(-8), _, rfl, Or.inr (Or.inr (Or.inl (⟨by have h90 : Int32.toInt (-8) = -8 := (by decide); have h91 : Int32.toInt 0 = 0 := (by decide); have h92 : Int32.toInt 3 = 3 := (by decide); omega, rfl, rfl⟩))), by rw [ht]; exact hP, hD⟩, hS.F ht⟩) hS.2.2 dX10_paste_57
        · skip
          have nc_1012 := nb_eq (-1) (-1) c_1012 bv_1011 (bkc (x := (-1)) (c := -1) (by decide)) (by decide)
          refine lv_bipush (v := (-6)) hx hb dX10_paste_37 (by decide) ?_
          exact W.iret (v := (-6)) hx hb hr (fun t ht hW => ⟨⟨(-6), _, rfl, Or.inl (⟨by have h90 : Int32.toInt (-6) = -6 := (by decide); have h91 : Int32.toInt 0 = 0 := (by decide); have h92 : Int32.toInt 3 = 3 := (by decide); omega, rfl, rfl⟩), by rw [ht]; exact hP, hD⟩, hS.F ht⟩) hS.2.2 dX10_paste_39

set_option maxHeartbeats 4000000 in
set_option maxRecDepth 100000 in
theorem fpasteM10 (l : Launch) (G : va_G) (y : Nat → ClassId) (sz : Nat) (ob : Nat) (a2 : Int32) (a4 : Int32) (a5 : Int32) (ob_thrown : Int32) (ob_world : Nat) (ob_images : Nat) (ob_hasImage : Nat) (ob_tape : Nat) (ob_taped : Int32) (ob_five : Nat) (ob_size : Int32) (ob_at : Int32) (ob_from : Int32) (ob_token : Int32) (ob_value : Int32) (ob_faultKind : Int32) (ob_faultPlace : Int32) (ob_fresh : Nat) (ob_parts : Nat) (ob_houses : Nat) (ob_houseMany : Int32) (ob_worthOf : Nat) (ob_byCall : Nat) (ob_over : Nat) (ob_bestSet : Int32) (ob_bestOver : Int32) (ob_bestWorth : Int32) (ob_row : Nat) (ob_tenDebts : Nat) (ob_tenMany : Int32) (ob_fewestBy : Nat) (ob_covered : Nat) (ob_queue : Nat) (ob_cameBy : Nat) (ob_parent : Nat) (ob_met : Nat) (ob_calls : Nat) (ob_callMany : Int32) (ob_calledOn : Nat) (ob_saved : Nat) (ob_many : Nat) (ob_width : Nat) (ob_numbers : Nat) (ob_moving : Nat) (fob_many : Nat → Int32) (fob_width : Nat → Int32) (fob_numbers : Nat → Int64) (fob_moving : Nat → Int64) (p_ob_taped : (0 : Int) ≤ ob_taped.toInt ∧ ob_taped.toInt ≤ 1400) (p_ob_size : (0 : Int) ≤ ob_size.toInt ∧ ob_size.toInt ≤ 1400) (p_ob_at : (0 : Int) ≤ ob_at.toInt ∧ ob_at.toInt ≤ 1400) (p_ob_from : (0 : Int) ≤ ob_from.toInt ∧ ob_from.toInt ≤ 1400) (p_ob_token : (0 : Int) ≤ ob_token.toInt ∧ ob_token.toInt ≤ 4) (p_ob_value : (0 : Int) ≤ ob_value.toInt ∧ ob_value.toInt ≤ 9999) (p_ob_faultKind : (0 : Int) ≤ ob_faultKind.toInt ∧ ob_faultKind.toInt ≤ 3) (p_ob_houseMany : (0 : Int) ≤ ob_houseMany.toInt ∧ ob_houseMany.toInt ≤ 10) (p_ob_bestSet : (0 : Int) ≤ ob_bestSet.toInt ∧ ob_bestSet.toInt ≤ 1023) (p_ob_bestOver : (-1 : Int) ≤ ob_bestOver.toInt ∧ ob_bestOver.toInt ≤ 180) (p_ob_tenMany : (0 : Int) ≤ ob_tenMany.toInt ∧ ob_tenMany.toInt ≤ 10) (p_ob_callMany : (0 : Int) ≤ ob_callMany.toInt ∧ ob_callMany.toInt ≤ 16) (p_fob_many : ∀ i, (-1 : Int) ≤ (fob_many i).toInt ∧ (fob_many i).toInt ≤ 60) (p_fob_width : ∀ i, (0 : Int) ≤ (fob_width i).toInt ∧ (fob_width i).toInt ≤ 3) : Met l yX10_paste (Cond.code yX10_paste cX10_paste 7 (some .int) :: wAll) ({ frames := 2, cells := 0, slots := 0, locals := 45 }) (va_Pc [.ref ob, .int 1, .int a2, .int 0, .int a4, .int a5] (kp G y sz [(ce_X10 ob ob_thrown ob_world ob_images ob_hasImage ob_tape ob_taped ob_five ob_size ob_at ob_from ob_token ob_value ob_faultKind ob_faultPlace ob_fresh ob_parts ob_houses ob_houseMany ob_worthOf ob_byCall ob_over ob_bestSet ob_bestOver ob_bestWorth ob_row ob_tenDebts ob_tenMany ob_fewestBy ob_covered ob_queue ob_cameBy ob_parent ob_met ob_calls ob_callMany ob_calledOn ob_saved ob_many ob_width ob_numbers ob_moving), (ce_i4 y ob_many fob_many), (ce_i4 y ob_width fob_width), (ce_l240 y ob_numbers fob_numbers), (ce_l60 y ob_moving fob_moving)])) (va_Qi (fun (r : Int32) (w : va_W) => (((fob_many 1).toInt = -1 ∨ (fob_many 0).toInt = -1) ∧ r = (-6) ∧ w = [(ce_X10 ob ob_thrown ob_world ob_images ob_hasImage ob_tape ob_taped ob_five ob_size ob_at ob_from ob_token ob_value ob_faultKind ob_faultPlace ob_fresh ob_parts ob_houses ob_houseMany ob_worthOf ob_byCall ob_over ob_bestSet ob_bestOver ob_bestWorth ob_row ob_tenDebts ob_tenMany ob_fewestBy ob_covered ob_queue ob_cameBy ob_parent ob_met ob_calls ob_callMany ob_calledOn ob_saved ob_many ob_width ob_numbers ob_moving), (ce_i4 y ob_many fob_many), (ce_i4 y ob_width fob_width), (ce_l240 y ob_numbers fob_numbers), (ce_l60 y ob_moving fob_moving)]) ∨ ((¬ (fob_many 1).toInt = -1 ∧ ¬ (fob_many 0).toInt = -1 ∧ (fob_width 1).toInt = (fob_width 0).toInt ∧ ¬ (0 ≤ a2.toInt ∧ 0 ≤ a4.toInt ∧ 0 ≤ a5.toInt ∧ a2.toInt + a5.toInt ≤ (fob_many 1).toInt ∧ a4.toInt + a5.toInt ≤ (fob_many 0).toInt)) ∧ r = (-7) ∧ w = [(ce_X10 ob ob_thrown ob_world ob_images ob_hasImage ob_tape ob_taped ob_five ob_size ob_at ob_from ob_token ob_value ob_faultKind ob_faultPlace ob_fresh ob_parts ob_houses ob_houseMany ob_worthOf ob_byCall ob_over ob_bestSet ob_bestOver ob_bestWorth ob_row ob_tenDebts ob_tenMany ob_fewestBy ob_covered ob_queue ob_cameBy ob_parent ob_met ob_calls ob_callMany ob_calledOn ob_saved ob_many ob_width ob_numbers ob_moving), (ce_i4 y ob_many fob_many), (ce_i4 y ob_width fob_width), (ce_l240 y ob_numbers fob_numbers), (ce_l60 y ob_moving fob_moving)]) ∨ ((¬ (fob_many 1).toInt = -1 ∧ ¬ (fob_many 0).toInt = -1 ∧ ¬ (fob_width 1).toInt = (fob_width 0).toInt) ∧ r = (-8) ∧ w = [(ce_X10 ob ob_thrown ob_world ob_images ob_hasImage ob_tape ob_taped ob_five ob_size ob_at ob_from ob_token ob_value ob_faultKind ob_faultPlace ob_fresh ob_parts ob_houses ob_houseMany ob_worthOf ob_byCall ob_over ob_bestSet ob_bestOver ob_bestWorth ob_row ob_tenDebts ob_tenMany ob_fewestBy ob_covered ob_queue ob_cameBy ob_parent ob_met ob_calls ob_callMany ob_calledOn ob_saved ob_many ob_width ob_numbers ob_moving), (ce_i4 y ob_many fob_many), (ce_i4 y ob_width fob_width), (ce_l240 y ob_numbers fob_numbers), (ce_l60 y ob_moving fob_moving)]) ∨ (∃ (f_227 : Nat → Int64) (f_228 : Nat → Int64), ((0 : Int) ≤ a2.toInt ∧ a2.toInt ≤ 60) ∧ ((0 : Int) ≤ a4.toInt ∧ a4.toInt ≤ 60) ∧ ((0 : Int) ≤ a5.toInt ∧ a5.toInt ≤ 60) ∧ (¬ (fob_many 1).toInt = -1 ∧ ¬ (fob_many 0).toInt = -1 ∧ (fob_width 1).toInt = (fob_width 0).toInt ∧ 0 ≤ a2.toInt ∧ 0 ≤ a4.toInt ∧ 0 ≤ a5.toInt ∧ a2.toInt + a5.toInt ≤ (fob_many 1).toInt ∧ a4.toInt + a5.toInt ≤ (fob_many 0).toInt) ∧ (pL f_227 fob_numbers (60 + a2.toInt.toNat) (0 + a4.toInt.toNat) a5.toInt) ∧ r = 0 ∧ w = [(ce_X10 ob ob_thrown ob_world ob_images ob_hasImage ob_tape ob_taped ob_five ob_size ob_at ob_from ob_token ob_value ob_faultKind ob_faultPlace ob_fresh ob_parts ob_houses ob_houseMany ob_worthOf ob_byCall ob_over ob_bestSet ob_bestOver ob_bestWorth ob_row ob_tenDebts ob_tenMany ob_fewestBy ob_covered ob_queue ob_cameBy ob_parent ob_met ob_calls ob_callMany ob_calledOn ob_saved ob_many ob_width ob_numbers ob_moving), (ce_i4 y ob_many fob_many), (ce_i4 y ob_width fob_width), (ce_l240 y ob_numbers f_227), (ce_l60 y ob_moving f_228)])) (kq G (va_A [(ce_X10 ob ob_thrown ob_world ob_images ob_hasImage ob_tape ob_taped ob_five ob_size ob_at ob_from ob_token ob_value ob_faultKind ob_faultPlace ob_fresh ob_parts ob_houses ob_houseMany ob_worthOf ob_byCall ob_over ob_bestSet ob_bestOver ob_bestWorth ob_row ob_tenDebts ob_tenMany ob_fewestBy ob_covered ob_queue ob_cameBy ob_parent ob_met ob_calls ob_callMany ob_calledOn ob_saved ob_many ob_width ob_numbers ob_moving), (ce_i4 y ob_many fob_many), (ce_i4 y ob_width fob_width), (ce_l240 y ob_numbers fob_numbers), (ce_l60 y ob_moving fob_moving)] sz)) (va_A [(ce_X10 ob ob_thrown ob_world ob_images ob_hasImage ob_tape ob_taped ob_five ob_size ob_at ob_from ob_token ob_value ob_faultKind ob_faultPlace ob_fresh ob_parts ob_houses ob_houseMany ob_worthOf ob_byCall ob_over ob_bestSet ob_bestOver ob_bestWorth ob_row ob_tenDebts ob_tenMany ob_fewestBy ob_covered ob_queue ob_cameBy ob_parent ob_met ob_calls ob_callMany ob_calledOn ob_saved ob_many ob_width ob_numbers ob_moving), (ce_i4 y ob_many fob_many), (ce_i4 y ob_width fob_width), (ce_l240 y ob_numbers fob_numbers), (ce_l60 y ob_moving fob_moving)] sz)) 0 0 (va_A [(ce_X10 ob ob_thrown ob_world ob_images ob_hasImage ob_tape ob_taped ob_five ob_size ob_at ob_from ob_token ob_value ob_faultKind ob_faultPlace ob_fresh ob_parts ob_houses ob_houseMany ob_worthOf ob_byCall ob_over ob_bestSet ob_bestOver ob_bestWorth ob_row ob_tenDebts ob_tenMany ob_fewestBy ob_covered ob_queue ob_cameBy ob_parent ob_met ob_calls ob_callMany ob_calledOn ob_saved ob_many ob_width ob_numbers ob_moving), (ce_i4 y ob_many fob_many), (ce_i4 y ob_width fob_width), (ce_l240 y ob_numbers fob_numbers), (ce_l60 y ob_moving fob_moving)] sz) := by
  refine Met.ofW (cc := cX10_paste) (maxL := 7) (ret := (some .int)) (by decide) rfl ?_
  intro p e s m args below meth c s₁ B hml hv
  obtain ⟨rfl, hsz, hP, hK, hD0⟩ := hv
  have hx := B.exec
  have hb := B.bytes
  have hr := B.returns
  have hw0 : ∀ w ∈ wAll, w.before _ s = true := fun w h => atoms_spec (ws := Cond.code yX10_paste cX10_paste 7 (some .int) :: wAll) B.pre w (List.mem_cons_of_mem _ h)
  have hown : s.vm.findClass RX10 = some m.cls := findClass_of_methodNamed B.named
  subst hsz
  have hD := hD0.self (sz := s.heap.size)
  generalize hAe : va_A [(ce_X10 ob ob_thrown ob_world ob_images ob_hasImage ob_tape ob_taped ob_five ob_size ob_at ob_from ob_token ob_value ob_faultKind ob_faultPlace ob_fresh ob_parts ob_houses ob_houseMany ob_worthOf ob_byCall ob_over ob_bestSet ob_bestOver ob_bestWorth ob_row ob_tenDebts ob_tenMany ob_fewestBy ob_covered ob_queue ob_cameBy ob_parent ob_met ob_calls ob_callMany ob_calledOn ob_saved ob_many ob_width ob_numbers ob_moving), (ce_i4 y ob_many fob_many), (ce_i4 y ob_width fob_width), (ce_l240 y ob_numbers fob_numbers), (ce_l60 y ob_moving fob_moving)] s.heap.size = A at hD ⊢
  have hA : ∀ q : Nat, s.heap.size ≤ q → A q := fun q h => by rw [← hAe]; exact Or.inr h
  have hS : va_S A s.heap s.heap [] := va_S.rf
  have hP : va_P G vwCl [(ce_X10 ob ob_thrown ob_world ob_images ob_hasImage ob_tape ob_taped ob_five ob_size ob_at ob_from ob_token ob_value ob_faultKind ob_faultPlace ob_fresh ob_parts ob_houses ob_houseMany ob_worthOf ob_byCall ob_over ob_bestSet ob_bestOver ob_bestWorth ob_row ob_tenDebts ob_tenMany ob_fewestBy ob_covered ob_queue ob_cameBy ob_parent ob_met ob_calls ob_callMany ob_calledOn ob_saved ob_many ob_width ob_numbers ob_moving), (ce_i4 y ob_many fob_many), (ce_i4 y ob_width fob_width), (ce_l240 y ob_numbers fob_numbers), (ce_l60 y ob_moving fob_moving)] s.heap := hP
  have hl := lv_entry ([.ref ob, .int 1, .int a2, .int 0, .int a4, .int a5]) (n := 7) (Nat.le_of_ble_eq_true rfl)
  rw [lg_entry_eq]
  generalize (lg_sl ([.ref ob, .int 1, .int a2, .int 0, .int a4, .int a5]) ++ List.replicate (7 - (lg_sl ([.ref ob, .int 1, .int a2, .int 0, .int a4, .int a5])).length) Slot.unset).toArray = ls at hl ⊢
  have hl : lv_has ls 7 [(0, .ref ob), (1, .int 1), (2, .int a2), (3, .int 0), (4, .int a4), (5, .int a5)] := hl
  refine lv_iload_n hx hb dX10_paste_0 rfl (lv_at hl 1 rfl) ?_
  refine cSim (As := [.int 1]) (rest := []) ⟨hx, hb, hml, hown, hw0⟩ hA hK hP hD hS [] (gisSlotM l G y _ 1 ) rfl ⟨(callB_of 1 hw0 (gA m_543) rfl rfl rfl (hw0 _ m_41) (hw0 _ m_433) cb_X10_isSlot ⟨Nat.le_of_ble_eq_true rfl, Nat.le_of_ble_eq_true rfl⟩), (hw0 _ m_434)⟩ rfl hl.1 (Nat.le_of_ble_eq_true rfl) dX10_paste_1 ⟨Nat.le_of_ble_eq_true rfl, Nat.le_of_ble_eq_true rfl⟩ (fun r_1001 w_1001 H locs hw_1001 hP hD hS => ?_)
  rcases hw_1001 with ⟨h_1002, rfl, rfl⟩ | ⟨h_1003, h_1004, rfl, rfl⟩
  · skip
    exact False.elim (by have h9 : Int32.toInt 1 = 1 := (by decide); omega)
  · skip
    obtain ⟨hP, hD⟩ : vPD G A H [(ce_X10 ob ob_thrown ob_world ob_images ob_hasImage ob_tape ob_taped ob_five ob_size ob_at ob_from ob_token ob_value ob_faultKind ob_faultPlace ob_fresh ob_parts ob_houses ob_houseMany ob_worthOf ob_byCall ob_over ob_bestSet ob_bestOver ob_bestWorth ob_row ob_tenDebts ob_tenMany ob_fewestBy ob_covered ob_queue ob_cameBy ob_parent ob_met ob_calls ob_callMany ob_calledOn ob_saved ob_many ob_width ob_numbers ob_moving), (ce_i4 y ob_many fob_many), (ce_i4 y ob_width fob_width), (ce_l240 y ob_numbers fob_numbers), (ce_l60 y ob_moving fob_moving)] := ⟨hP, hD⟩
    refine lv_if_eq (tgt := 14) hx hb dX10_paste_4 (by decide) (fun c9 => absurd c9 (by decide)) (fun _ => ?_)
    refine lv_iload_n hx hb dX10_paste_7 rfl (lv_at hl 3 rfl) ?_
    refine cSim (As := [.int 0]) (rest := []) ⟨hx, hb, hml, hown, hw0⟩ hA hK hP hD hS [] (gisSlotM l G y _ 0 ) rfl ⟨(callB_of 1 hw0 (gA m_543) rfl rfl rfl (hw0 _ m_41) (hw0 _ m_433) cb_X10_isSlot ⟨Nat.le_of_ble_eq_true rfl, Nat.le_of_ble_eq_true rfl⟩), (hw0 _ m_434)⟩ rfl hl.1 (Nat.le_of_ble_eq_true rfl) dX10_paste_8 ⟨Nat.le_of_ble_eq_true rfl, Nat.le_of_ble_eq_true rfl⟩ (fun r_1005 w_1005 H locs hw_1005 hP hD hS => ?_)
    rcases hw_1005 with ⟨h_1006, rfl, rfl⟩ | ⟨h_1007, h_1008, rfl, rfl⟩
    · skip
      exact False.elim (by have h9 : Int32.toInt 0 = 0 := (by decide); omega)
    · skip
      obtain ⟨hP, hD⟩ : vPD G A H [(ce_X10 ob ob_thrown ob_world ob_images ob_hasImage ob_tape ob_taped ob_five ob_size ob_at ob_from ob_token ob_value ob_faultKind ob_faultPlace ob_fresh ob_parts ob_houses ob_houseMany ob_worthOf ob_byCall ob_over ob_bestSet ob_bestOver ob_bestWorth ob_row ob_tenDebts ob_tenMany ob_fewestBy ob_covered ob_queue ob_cameBy ob_parent ob_met ob_calls ob_callMany ob_calledOn ob_saved ob_many ob_width ob_numbers ob_moving), (ce_i4 y ob_many fob_many), (ce_i4 y ob_width fob_width), (ce_l240 y ob_numbers fob_numbers), (ce_l60 y ob_moving fob_moving)] := ⟨hP, hD⟩
      refine lv_if_ne (tgt := 17) hx hb dX10_paste_11 (by decide) (fun _ => ?_) (fun c9 => absurd c9 (by decide))
      refine lv_aload_n hx hb dX10_paste_17 rfl (lv_at hl 0 rfl) ?_
      refine va_get (D := G) (ci := 10) (v := .ref ob_many) (C := RX10) (T := TX10) (N := 41) hx hb hw0 inA_wsX100 hown hK.1 hP 0 rfl rfl 37 (by decide) (hw0 _ m_406) (fun _ h9 => h9) rfl dX10_paste_18 ?_
      refine lv_iload_n hx hb dX10_paste_21 rfl (lv_at hl 1 rfl) ?_
      refine va_iald hx hb hK.1 hP 1 1 rfl rfl (vi (bkc (x := 1) (c := 1) (by decide)) (by decide)) dX10_paste_22 ?_
      refine lv_topi (fun v_1009 ev_1009 => ?_)
      have bv_1009 : (-1 : Int) ≤ v_1009.toInt ∧ v_1009.toInt ≤ 60 := rd_b ev_1009 p_fob_many
      have yv_1009 : v_1009.toInt = (fob_many 1).toInt := congrArg Int32.toInt ev_1009
      refine lv_iconst (v := (-1)) hx hb dX10_paste_23 (by decide) ?_
      refine lv_icmp_eq (tgt := 37) hx hb dX10_paste_24 (by decide) (fun c_1010 => ?_) (fun c_1010 => ?_)
      · skip
        have nc_1010 := nb_eq (-1) (-1) c_1010 bv_1009 (bkc (x := (-1)) (c := -1) (by decide)) (by decide)
        refine lv_bipush (v := (-6)) hx hb dX10_paste_37 (by decide) ?_
        exact W.iret (v := (-6)) hx hb hr (fun t ht hW => ⟨⟨(-6), _, rfl, Or.inl (⟨by have h90 : Int32.toInt (-6) = -6 := (by decide); have h91 : Int32.toInt 0 = 0 := (by decide); have h92 : Int32.toInt 1 = 1 := (by decide); omega, rfl, rfl⟩), by rw [ht]; exact hP, hD⟩, hS.F ht⟩) hS.2.2 dX10_paste_39
      · skip
        have nc_1010 := nb_ne (0) (60) c_1010 bv_1009 (k := -1) (by decide) (by decide)
        refine lv_aload_n hx hb dX10_paste_27 rfl (lv_at hl 0 rfl) ?_
        refine va_get (D := G) (ci := 10) (v := .ref ob_many) (C := RX10) (T := TX10) (N := 41) hx hb hw0 inA_wsX100 hown hK.1 hP 0 rfl rfl 37 (by decide) (hw0 _ m_406) (fun _ h9 => h9) rfl dX10_paste_28 ?_
        refine lv_iload_n hx hb dX10_paste_31 rfl (lv_at hl 3 rfl) ?_
        refine va_iald hx hb hK.1 hP 1 1 rfl rfl (vi (bkc (x := 0) (c := 0) (by decide)) (by decide)) dX10_paste_32 ?_
        refine lv_topi (fun v_1011 ev_1011 => ?_)
        have bv_1011 : (-1 : Int) ≤ v_1011.toInt ∧ v_1011.toInt ≤ 60 := rd_b ev_1011 p_fob_many
        have yv_1011 : v_1011.toInt = (fob_many 0).toInt := congrArg Int32.toInt ev_1011
        refine lv_iconst (v := (-1)) hx hb dX10_paste_33 (by decide) ?_
        refine lv_icmp_ne (tgt := 40) hx hb dX10_paste_34 (by decide) (fun c_1012 => ?_) (fun c_1012 => ?_)
        · skip
          have nc_1012 := nb_ne (0) (60) c_1012 bv_1011 (k := -1) (by decide) (by decide)
          refine lv_aload_n hx hb dX10_paste_40 rfl (lv_at hl 0 rfl) ?_
          refine va_get (D := G) (ci := 10) (v := .ref ob_width) (C := RX10) (T := TX10) (N := 41) hx hb hw0 inA_wsX100 hown hK.1 hP 0 rfl rfl 38 (by decide) (hw0 _ m_527) (fun _ h9 => h9) rfl dX10_paste_41 ?_
          refine lv_iload_n hx hb dX10_paste_44 rfl (lv_at hl 1 rfl) ?_
          refine va_iald hx hb hK.1 hP 2 1 rfl rfl (vi (bkc (x := 1) (c := 1) (by decide)) (by decide)) dX10_paste_45 ?_
          refine lv_topi (fun v_1013 ev_1013 => ?_)
          have bv_1013 : (0 : Int) ≤ v_1013.toInt ∧ v_1013.toInt ≤ 3 := rd_b ev_1013 p_fob_width
          have yv_1013 : v_1013.toInt = (fob_width 1).toInt := congrArg Int32.toInt ev_1013
          refine lv_aload_n hx hb dX10_paste_46 rfl (lv_at hl 0 rfl) ?_
          refine va_get (D := G) (ci := 10) (v := .ref ob_width) (C := RX10) (T := TX10) (N := 41) hx hb hw0 inA_wsX100 hown hK.1 hP 0 rfl rfl 38 (by decide) (hw0 _ m_527) (fun _ h9 => h9) rfl dX10_paste_47 ?_
          refine lv_iload_n hx hb dX10_paste_50 rfl (lv_at hl 3 rfl) ?_
          refine va_iald hx hb hK.1 hP 2 1 rfl rfl (vi (bkc (x := 0) (c := 0) (by decide)) (by decide)) dX10_paste_51 ?_
          refine lv_topi (fun v_1014 ev_1014 => ?_)
          have bv_1014 : (0 : Int) ≤ v_1014.toInt ∧ v_1014.toInt ≤ 3 := rd_b ev_1014 p_fob_width
          have yv_1014 : v_1014.toInt = (fob_width 0).toInt := congrArg Int32.toInt ev_1014
          refine lv_icmp_eq (tgt := 58) hx hb dX10_paste_52 (by decide) (fun c_1015 => ?_) (fun c_1015 => ?_)
          · skip
            have nc_1015 := nb_eq (0) (3) c_1015 bv_1013 bv_1014 (by decide)
            refine lv_iload_n hx hb dX10_paste_58 rfl (lv_at hl 2 rfl) ?_
            refine lv_if_lt (tgt := 107) hx hb dX10_paste_59 (by decide) (fun c_1016 => ?_) (fun c_1016 => ?_)
            · skip
              have nc_1016 := nb_lt (-1) (0) c_1016 (btop a2) (bkc (x := 0) (c := 0) (by decide)) (by decide)
              refine lv_bipush (v := (-7)) hx hb dX10_paste_107 (by decide) ?_
              exact W.iret (v := (-7)) hx hb hr (fun t ht hW => ⟨⟨(-7), _, rfl, Or.inr (Or.inl (⟨by have h90 : Int32.toInt (-7) = -7 := (by decide); have h91 : Int32.toInt 0 = 0 := (by decide); have h92 : Int32.toInt 1 = 1 := (by decide); omega, rfl, rfl⟩)), by rw [ht]; exact hP, hD⟩, hS.F ht⟩) hS.2.2 dX10_paste_109
            · skip
              have nc_1016 := nb_nlt (0) (0) c_1016 (bkc (x := 0) (c := 0) (by decide)) (btop a2) (by decide)
              refine lv_iload hx hb dX10_paste_62 (lv_at hl 4 rfl) ?_
              refine lv_if_lt (tgt := 107) hx hb dX10_paste_64 (by decide) (fun c_1017 => ?_) (fun c_1017 => ?_)
              · skip
                have nc_1017 := nb_lt (-1) (0) c_1017 (btop a4) (bkc (x := 0) (c := 0) (by decide)) (by decide)
                refine lv_bipush (v := (-7)) hx hb dX10_paste_107 (by decide) ?_
                exact W.iret (v := (-7)) hx hb hr (fun t ht hW => ⟨⟨(-7), _, rfl, Or.inr (Or.inl (⟨by have h90 : Int32.toInt (-7) = -7 := (by decide); have h91 : Int32.toInt 0 = 0 := (by decide); have h92 : Int32.toInt 1 = 1 := (by decide); omega, rfl, rfl⟩)), by rw [ht]; exact hP, hD⟩, hS.F ht⟩) hS.2.2 dX10_paste_109
              · skip
                have nc_1017 := nb_nlt (0) (0) c_1017 (bkc (x := 0) (c := 0) (by decide)) (btop a4) (by decide)
                refine lv_iload hx hb dX10_paste_67 (lv_at hl 5 rfl) ?_
                refine lv_if_lt (tgt := 107) hx hb dX10_paste_69 (by decide) (fun c_1018 => ?_) (fun c_1018 => ?_)
                · skip
                  have nc_1018 := nb_lt (-1) (0) c_1018 (btop a5) (bkc (x := 0) (c := 0) (by decide)) (by decide)
                  refine lv_bipush (v := (-7)) hx hb dX10_paste_107 (by decide) ?_
                  exact W.iret (v := (-7)) hx hb hr (fun t ht hW => ⟨⟨(-7), _, rfl, Or.inr (Or.inl (⟨by have h90 : Int32.toInt (-7) = -7 := (by decide); have h91 : Int32.toInt 0 = 0 := (by decide); have h92 : Int32.toInt 1 = 1 := (by decide); omega, rfl, rfl⟩)), by rw [ht]; exact hP, hD⟩, hS.F ht⟩) hS.2.2 dX10_paste_109
                · skip
                  have nc_1018 := nb_nlt (0) (0) c_1018 (bkc (x := 0) (c := 0) (by decide)) (btop a5) (by decide)
                  refine lv_iload_n hx hb dX10_paste_72 rfl (lv_at hl 2 rfl) ?_
                  refine lv_i2l hx hb dX10_paste_73 rfl ?_
                  have kk_1019 : ((a2).toInt64).toInt = (a2).toInt := Int32.toInt_toInt64 _
                  refine lv_iload hx hb dX10_paste_74 (lv_at hl 5 rfl) ?_
                  refine lv_i2l hx hb dX10_paste_76 rfl ?_
                  have kk_1020 : ((a5).toInt64).toInt = (a5).toInt := Int32.toInt_toInt64 _
                  refine lv_ladd hx hb dX10_paste_77 ?_
                  refine lv_topl (fun v_1021 ev_1021 => ?_)
                  have qv_1021 := la_add ev_1021
                  refine lv_aload_n hx hb dX10_paste_78 rfl (lv_at hl 0 rfl) ?_
                  refine va_get (D := G) (ci := 10) (v := .ref ob_many) (C := RX10) (T := TX10) (N := 41) hx hb hw0 inA_wsX100 hown hK.1 hP 0 rfl rfl 37 (by decide) (hw0 _ m_406) (fun _ h9 => h9) rfl dX10_paste_79 ?_
                  refine lv_iload_n hx hb dX10_paste_82 rfl (lv_at hl 1 rfl) ?_
                  refine va_iald hx hb hK.1 hP 1 1 rfl rfl (vi (bkc (x := 1) (c := 1) (by decide)) (by decide)) dX10_paste_83 ?_
                  refine lv_topi (fun v_1022 ev_1022 => ?_)
                  obtain rfl : v_1009 = v_1022 := (ev_1022.trans (ev_1009.symm)).symm
                  refine lv_i2l hx hb dX10_paste_84 rfl ?_
                  have kk_1023 : ((v_1009).toInt64).toInt = (v_1009).toInt := Int32.toInt_toInt64 _
                  refine W.lcmp hx hb dX10_paste_85 ?_
                  refine lv_if_gt (tgt := 107) hx hb dX10_paste_86 (by decide) (fun c_1024 => ?_) (fun c_1024 => ?_)
                  · skip
                    have nc_1024 := jl_gt c_1024
                    refine lv_bipush (v := (-7)) hx hb dX10_paste_107 (by decide) ?_
                    exact W.iret (v := (-7)) hx hb hr (fun t ht hW => ⟨⟨(-7), _, rfl, Or.inr (Or.inl (⟨by have h90 : Int32.toInt (-7) = -7 := (by decide); have h91 : Int32.toInt 0 = 0 := (by decide); have h92 : Int32.toInt 1 = 1 := (by decide); omega, rfl, rfl⟩)), by rw [ht]; exact hP, hD⟩, hS.F ht⟩) hS.2.2 dX10_paste_109
                  · skip
                    have nc_1024 := jl_ngt c_1024
                    refine lv_iload hx hb dX10_paste_89 (lv_at hl 4 rfl) ?_
                    refine lv_i2l hx hb dX10_paste_91 rfl ?_
                    have kk_1025 : ((a4).toInt64).toInt = (a4).toInt := Int32.toInt_toInt64 _
                    refine lv_iload hx hb dX10_paste_92 (lv_at hl 5 rfl) ?_
                    refine lv_i2l hx hb dX10_paste_94 rfl ?_
                    have kk_1026 : ((a5).toInt64).toInt = (a5).toInt := Int32.toInt_toInt64 _
                    refine lv_ladd hx hb dX10_paste_95 ?_
                    refine lv_topl (fun v_1027 ev_1027 => ?_)
                    have qv_1027 := la_add ev_1027
                    refine lv_aload_n hx hb dX10_paste_96 rfl (lv_at hl 0 rfl) ?_
                    refine va_get (D := G) (ci := 10) (v := .ref ob_many) (C := RX10) (T := TX10) (N := 41) hx hb hw0 inA_wsX100 hown hK.1 hP 0 rfl rfl 37 (by decide) (hw0 _ m_406) (fun _ h9 => h9) rfl dX10_paste_97 ?_
                    refine lv_iload_n hx hb dX10_paste_100 rfl (lv_at hl 3 rfl) ?_
                    refine va_iald hx hb hK.1 hP 1 1 rfl rfl (vi (bkc (x := 0) (c := 0) (by decide)) (by decide)) dX10_paste_101 ?_
                    refine lv_topi (fun v_1028 ev_1028 => ?_)
                    obtain rfl : v_1011 = v_1028 := (ev_1028.trans (ev_1011.symm)).symm
                    refine lv_i2l hx hb dX10_paste_102 rfl ?_
                    have kk_1029 : ((v_1011).toInt64).toInt = (v_1011).toInt := Int32.toInt_toInt64 _
                    refine W.lcmp hx hb dX10_paste_103 ?_
                    refine lv_if_le (tgt := 110) hx hb dX10_paste_104 (by decide) (fun c_1030 => ?_) (fun c_1030 => ?_)
                    · skip
                      have nc_1030 := jl_le c_1030
                      have h_1031 : (0 : Int) ≤ a2.toInt ∧ a2.toInt ≤ 60 := by omega
                      have h_1032 : (0 : Int) ≤ a4.toInt ∧ a4.toInt ≤ 60 := by omega
                      have h_1033 : (0 : Int) ≤ a5.toInt ∧ a5.toInt ≤ 60 := by omega
                      refine lv_iconst (v := 0) hx hb dX10_paste_110 (by decide) ?_
                      refine lv_istore (lv' := [(6, .int 0), (0, .ref ob), (1, .int 1), (2, .int a2), (3, .int 0), (4, .int a4), (5, .int a5)]) hx hb dX10_paste_111 hl (by decide) rfl (fun ls hl => ?_)
                      refine loopX (fun n H locs ls st => ∃ (v_1058 : Int32) (f_1059 : Nat → Int64), (60 - v_1058.toInt).toNat = n ∧ ((0 : Int) ≤ v_1058.toInt ∧ v_1058.toInt ≤ 60) ∧ (mL f_1059 fob_numbers (60 + a2.toInt.toNat) v_1058.toInt) ∧ st = [] ∧ vPD G A H [(ce_X10 ob ob_thrown ob_world ob_images ob_hasImage ob_tape ob_taped ob_five ob_size ob_at ob_from ob_token ob_value ob_faultKind ob_faultPlace ob_fresh ob_parts ob_houses ob_houseMany ob_worthOf ob_byCall ob_over ob_bestSet ob_bestOver ob_bestWorth ob_row ob_tenDebts ob_tenMany ob_fewestBy ob_covered ob_queue ob_cameBy ob_parent ob_met ob_calls ob_callMany ob_calledOn ob_saved ob_many ob_width ob_numbers ob_moving), (ce_i4 y ob_many fob_many), (ce_i4 y ob_width fob_width), (ce_l240 y ob_numbers fob_numbers), (ce_l60 y ob_moving f_1059)] ∧ va_S A s.heap H locs ∧ lv_has ls 7 [(6, .int v_1058), (0, .ref ob), (1, .int 1), (2, .int a2), (3, .int 0), (4, .int a4), (5, .int a5)]) ?_ (n := (60 - (0 : Int32).toInt).toNat) ⟨0, fob_moving, rfl, (bw (0) (60) (bkc (x := 0) (c := 0) (by decide)) (by decide)), (ml_0 (by have h90 : Int32.toInt 0 = 0 := (by decide); have h91 : Int32.toInt 1 = 1 := (by decide); omega)), rfl, ⟨hP, hD⟩, hS, lv_sub hl [0, 1, 2, 3, 4, 5, 6] rfl⟩
                      rintro n ih_1066 H locs ls st ⟨v_1058, f_1059, hn_1066, bv_1058, rl1059_0, rfl, ⟨hP, hD⟩, hS, hl⟩
                      refine lv_iload hx hb dX10_paste_113 (lv_at hl 0 rfl) ?_
                      refine lv_iload hx hb dX10_paste_115 (lv_at hl 6 rfl) ?_
                      refine lv_icmp_ge (tgt := 147) hx hb dX10_paste_117 (by decide) (fun c_1067 => ?_) (fun c_1067 => ?_)
                      · skip
                        have nc_1067 := nb_le (60) (0) c_1067 h_1033 bv_1058 (by decide)
                        refine lv_iconst (v := 0) hx hb dX10_paste_147 (by decide) ?_
                        refine lv_istore (lv' := [(6, .int 0), (0, .ref ob), (1, .int 1), (2, .int a2), (3, .int 0), (4, .int a4), (5, .int a5)]) hx hb dX10_paste_148 hl (by decide) rfl (fun ls hl => ?_)
                        refine loopX (fun n H locs ls st => ∃ (v_1092 : Int32) (f_1093 : Nat → Int64), (60 - v_1092.toInt).toNat = n ∧ ((0 : Int) ≤ v_1092.toInt ∧ v_1092.toInt ≤ 60) ∧ (nL f_1093 fob_numbers f_1059 (0 + a4.toInt.toNat) v_1092.toInt) ∧ (v_1092.toInt ≤ a5.toInt) ∧ st = [] ∧ vPD G A H [(ce_X10 ob ob_thrown ob_world ob_images ob_hasImage ob_tape ob_taped ob_five ob_size ob_at ob_from ob_token ob_value ob_faultKind ob_faultPlace ob_fresh ob_parts ob_houses ob_houseMany ob_worthOf ob_byCall ob_over ob_bestSet ob_bestOver ob_bestWorth ob_row ob_tenDebts ob_tenMany ob_fewestBy ob_covered ob_queue ob_cameBy ob_parent ob_met ob_calls ob_callMany ob_calledOn ob_saved ob_many ob_width ob_numbers ob_moving), (ce_i4 y ob_many fob_many), (ce_i4 y ob_width fob_width), (ce_l240 y ob_numbers f_1093), (ce_l60 y ob_moving f_1059)] ∧ va_S A s.heap H locs ∧ lv_has ls 7 [(6, .int v_1092), (0, .ref ob), (3, .int 0), (4, .int a4), (5, .int a5)]) ?_ (n := (60 - (0 : Int32).toInt).toNat) ⟨0, fob_numbers, rfl, (bw (0) (60) (bkc (x := 0) (c := 0) (by decide)) (by decide)), (nl_0 (by have h90 : Int32.toInt 0 = 0 := (by decide); have h91 : Int32.toInt 1 = 1 := (by decide); omega)), (by have h90 : Int32.toInt 0 = 0 := (by decide); omega), rfl, ⟨hP, hD⟩, hS, lv_sub hl [0, 1, 4, 5, 6] rfl⟩
                        rintro n ih_1100 H locs ls st ⟨v_1092, f_1093, hn_1100, bv_1092, rl1093_0, rl1093_1, rfl, ⟨hP, hD⟩, hS, hl⟩
                        refine lv_iload hx hb dX10_paste_150 (lv_at hl 0 rfl) ?_
                        refine lv_iload hx hb dX10_paste_152 (lv_at hl 4 rfl) ?_
                        refine lv_icmp_ge (tgt := 185) hx hb dX10_paste_154 (by decide) (fun c_1101 => ?_) (fun c_1101 => ?_)
                        · skip
                          have nc_1101 := nb_le (60) (0) c_1101 nc_1067.1 bv_1092 (by decide)
                          refine lv_iconst (v := 0) hx hb dX10_paste_185 (by decide) ?_
                          exact W.iret (v := 0) hx hb hr (fun t ht hW => ⟨⟨0, _, rfl, Or.inr (Or.inr (Or.inr (⟨f_1093, f_1059, h_1031, h_1032, nc_1101.1, by have h90 : Int32.toInt 0 = 0 := (by decide); omega, (pl_e rl1059_0 rl1093_0 (by omega) (by omega)), rfl, rfl⟩))), by rw [ht]; exact hP, hD⟩, hS.F ht⟩) hS.2.2 dX10_paste_186
                        · skip
                          have nc_1101 := nb_nle (59) (1) c_1101 bv_1092 nc_1067.1 (by decide)
                          refine lv_aload_n hx hb dX10_paste_157 rfl (lv_at hl 1 rfl) ?_
                          refine va_get (D := G) (ci := 10) (v := .ref ob_numbers) (C := RX10) (T := TX10) (N := 41) hx hb hw0 inA_wsX100 hown hK.1 hP 0 rfl rfl 39 (by decide) (hw0 _ m_435) (fun _ h9 => h9) rfl dX10_paste_158 ?_
                          refine lv_bipush (v := 60) hx hb dX10_paste_161 (by decide) ?_
                          refine lv_iload_n hx hb dX10_paste_163 rfl (lv_at hl 2 rfl) ?_
                          refine lv_imul hx hb dX10_paste_164 ?_
                          refine lv_topi (fun v_1102 ev_1102 => ?_)
                          obtain rfl : 0 = v_1102 := (ev_1102.trans (by decide)).symm
                          refine lv_iload hx hb dX10_paste_165 (lv_at hl 3 rfl) ?_
                          refine lv_iadd hx hb dX10_paste_167 ?_
                          refine lv_topi (fun v_1103 ev_1103 => ?_)
                          have qv_1103 := ba_add ev_1103 (bkc (x := 0) (c := 0) (by decide)) h_1032 (by decide)
                          have bv_1103 : (0 : Int) ≤ v_1103.toInt ∧ v_1103.toInt ≤ 60 := bq_add qv_1103 (bkc (x := 0) (c := 0) (by decide)) h_1032 _ _ (by decide)
                          have qv_1103 : v_1103.toInt = (0) + a4.toInt := qv_1103
                          refine lv_iload hx hb dX10_paste_168 (lv_at hl 0 rfl) ?_
                          refine lv_iadd hx hb dX10_paste_170 ?_
                          refine lv_topi (fun v_1104 ev_1104 => ?_)
                          have qv_1104 := ba_add ev_1104 bv_1103 nc_1101.1 (by decide)
                          have bv_1104 : (0 : Int) ≤ v_1104.toInt ∧ v_1104.toInt ≤ 119 := bq_add qv_1104 bv_1103 nc_1101.1 _ _ (by decide)
                          refine lv_aload_n hx hb dX10_paste_171 rfl (lv_at hl 1 rfl) ?_
                          refine va_get (D := G) (ci := 10) (v := .ref ob_moving) (C := RX10) (T := TX10) (N := 41) hx hb hw0 inA_wsX100 hown hK.1 hP 0 rfl rfl 40 (by decide) (hw0 _ m_529) (fun _ h9 => h9) rfl dX10_paste_172 ?_
                          refine lv_iload hx hb dX10_paste_175 (lv_at hl 0 rfl) ?_
                          refine va_lald hx hb hK.1 hP 4 2 rfl rfl (vi nc_1101.1 (by decide)) dX10_paste_177 ?_
                          refine lv_topl (fun v_1105 ev_1105 => ?_)
                          refine va_last hx hb hK.1 hP hD hS 3 2 rfl rfl (vi bv_1104 (by decide)) dX10_paste_178 (fun H locs hP hD hS => ?_)
                          generalize hf_1106 : (vp_updL f_1093 (v_1104 : Int32).toNatClampNeg v_1105) = f_1106 at hP hD
                          obtain ⟨hP, hD⟩ : vPD G A H [(ce_X10 ob ob_thrown ob_world ob_images ob_hasImage ob_tape ob_taped ob_five ob_size ob_at ob_from ob_token ob_value ob_faultKind ob_faultPlace ob_fresh ob_parts ob_houses ob_houseMany ob_worthOf ob_byCall ob_over ob_bestSet ob_bestOver ob_bestWorth ob_row ob_tenDebts ob_tenMany ob_fewestBy ob_covered ob_queue ob_cameBy ob_parent ob_met ob_calls ob_callMany ob_calledOn ob_saved ob_many ob_width ob_numbers ob_moving), (ce_i4 y ob_many fob_many), (ce_i4 y ob_width fob_width), (ce_l240 y ob_numbers f_1106), (ce_l60 y ob_moving f_1059)] := ⟨hP, hD⟩
                          obtain ⟨v_1107, ev_1107⟩ : ∃ z : Int32, z = v_1092 + 1 := ⟨_, rfl⟩
                          have qv_1107 := ba_add ev_1107 nc_1101.1 (bkc (x := 1) (c := 1) (by decide)) (by decide)
                          have bv_1107 : (1 : Int) ≤ v_1107.toInt ∧ v_1107.toInt ≤ 60 := bq_add qv_1107 nc_1101.1 (bkc (x := 1) (c := 1) (by decide)) _ _ (by decide)
                          have qv_1107 : v_1107.toInt = v_1092.toInt + (1) := qv_1107
                          refine lv_iinc (v := v_1107) (lv' := [(6, .int v_1107), (0, .ref ob), (3, .int 0), (4, .int a4), (5, .int a5)]) hx hb dX10_paste_179 hl (k := 0) rfl (ev_1107.symm) (by decide) rfl (fun ls hl => ?_)
                          refine lv_goto (tgt := 150) hx hb dX10_paste_182 (by decide) ?_
                          exact ih_1100 _ (ml_inc (hi := 60) hn_1100 qv_1107 (by decide) ((bw (0) (60) bv_1107 (by decide))).2) _ _ _ _ ⟨v_1107, f_1106, rfl, (bw (0) (60) bv_1107 (by decide)), (nl_s rl1093_0 hf_1106 ev_1105 (by omega) (by omega) (by omega) (by omega)), (by omega), rfl, ⟨hP, hD⟩, hS, lv_sub hl [0, 1, 2, 3, 4] rfl⟩
                      · skip
                        have nc_1067 := nb_nle (59) (1) c_1067 bv_1058 h_1033 (by decide)
                        refine lv_aload_n hx hb dX10_paste_120 rfl (lv_at hl 1 rfl) ?_
                        refine va_get (D := G) (ci := 10) (v := .ref ob_moving) (C := RX10) (T := TX10) (N := 41) hx hb hw0 inA_wsX100 hown hK.1 hP 0 rfl rfl 40 (by decide) (hw0 _ m_529) (fun _ h9 => h9) rfl dX10_paste_121 ?_
                        refine lv_iload hx hb dX10_paste_124 (lv_at hl 0 rfl) ?_
                        refine lv_aload_n hx hb dX10_paste_126 rfl (lv_at hl 1 rfl) ?_
                        refine va_get (D := G) (ci := 10) (v := .ref ob_numbers) (C := RX10) (T := TX10) (N := 41) hx hb hw0 inA_wsX100 hown hK.1 hP 0 rfl rfl 39 (by decide) (hw0 _ m_435) (fun _ h9 => h9) rfl dX10_paste_127 ?_
                        refine lv_bipush (v := 60) hx hb dX10_paste_130 (by decide) ?_
                        refine lv_iload_n hx hb dX10_paste_132 rfl (lv_at hl 2 rfl) ?_
                        refine lv_imul hx hb dX10_paste_133 ?_
                        refine lv_topi (fun v_1108 ev_1108 => ?_)
                        obtain rfl : 60 = v_1108 := (ev_1108.trans (by decide)).symm
                        refine lv_iload_n hx hb dX10_paste_134 rfl (lv_at hl 3 rfl) ?_
                        refine lv_iadd hx hb dX10_paste_135 ?_
                        refine lv_topi (fun v_1109 ev_1109 => ?_)
                        have qv_1109 := ba_add ev_1109 (bkc (x := 60) (c := 60) (by decide)) h_1031 (by decide)
                        have bv_1109 : (60 : Int) ≤ v_1109.toInt ∧ v_1109.toInt ≤ 120 := bq_add qv_1109 (bkc (x := 60) (c := 60) (by decide)) h_1031 _ _ (by decide)
                        have qv_1109 : v_1109.toInt = (60) + a2.toInt := qv_1109
                        refine lv_iload hx hb dX10_paste_136 (lv_at hl 0 rfl) ?_
                        refine lv_iadd hx hb dX10_paste_138 ?_
                        refine lv_topi (fun v_1110 ev_1110 => ?_)
                        have qv_1110 := ba_add ev_1110 bv_1109 nc_1067.1 (by decide)
                        have bv_1110 : (60 : Int) ≤ v_1110.toInt ∧ v_1110.toInt ≤ 179 := bq_add qv_1110 bv_1109 nc_1067.1 _ _ (by decide)
                        refine va_lald hx hb hK.1 hP 3 2 rfl rfl (vi bv_1110 (by decide)) dX10_paste_139 ?_
                        refine lv_topl (fun v_1111 ev_1111 => ?_)
                        refine va_last hx hb hK.1 hP hD hS 4 2 rfl rfl (vi nc_1067.1 (by decide)) dX10_paste_140 (fun H locs hP hD hS => ?_)
                        generalize hf_1112 : (vp_updL f_1059 (v_1058 : Int32).toNatClampNeg v_1111) = f_1112 at hP hD
                        obtain ⟨hP, hD⟩ : vPD G A H [(ce_X10 ob ob_thrown ob_world ob_images ob_hasImage ob_tape ob_taped ob_five ob_size ob_at ob_from ob_token ob_value ob_faultKind ob_faultPlace ob_fresh ob_parts ob_houses ob_houseMany ob_worthOf ob_byCall ob_over ob_bestSet ob_bestOver ob_bestWorth ob_row ob_tenDebts ob_tenMany ob_fewestBy ob_covered ob_queue ob_cameBy ob_parent ob_met ob_calls ob_callMany ob_calledOn ob_saved ob_many ob_width ob_numbers ob_moving), (ce_i4 y ob_many fob_many), (ce_i4 y ob_width fob_width), (ce_l240 y ob_numbers fob_numbers), (ce_l60 y ob_moving f_1112)] := ⟨hP, hD⟩
                        obtain ⟨v_1113, ev_1113⟩ : ∃ z : Int32, z = v_1058 + 1 := ⟨_, rfl⟩
                        have qv_1113 := ba_add ev_1113 nc_1067.1 (bkc (x := 1) (c := 1) (by decide)) (by decide)
                        have bv_1113 : (1 : Int) ≤ v_1113.toInt ∧ v_1113.toInt ≤ 60 := bq_add qv_1113 nc_1067.1 (bkc (x := 1) (c := 1) (by decide)) _ _ (by decide)
                        have qv_1113 : v_1113.toInt = v_1058.toInt + (1) := qv_1113
                        refine lv_iinc (v := v_1113) (lv' := [(6, .int v_1113), (0, .ref ob), (1, .int 1), (2, .int a2), (3, .int 0), (4, .int a4), (5, .int a5)]) hx hb dX10_paste_141 hl (k := 0) rfl (ev_1113.symm) (by decide) rfl (fun ls hl => ?_)
                        refine lv_goto (tgt := 113) hx hb dX10_paste_144 (by decide) ?_
                        exact ih_1066 _ (ml_inc (hi := 60) hn_1066 qv_1113 (by decide) ((bw (0) (60) bv_1113 (by decide))).2) _ _ _ _ ⟨v_1113, f_1112, rfl, (bw (0) (60) bv_1113 (by decide)), (ml_s rl1059_0 hf_1112 ev_1111 (by omega) (by omega) (by omega) (by omega)), rfl, ⟨hP, hD⟩, hS, lv_sub hl [0, 1, 2, 3, 4, 5, 6] rfl⟩
                    · skip
                      have nc_1030 := jl_nle c_1030
                      refine lv_bipush (v := (-7)) hx hb dX10_paste_107 (by decide) ?_
                      exact W.iret (v := (-7)) hx hb hr (fun t ht hW => ⟨⟨(-7), _, rfl, Or.inr (Or.inl (⟨by have h90 : Int32.toInt (-7) = -7 := (by decide); have h91 : Int32.toInt 0 = 0 := (by decide); have h92 : Int32.toInt 1 = 1 := (by decide); omega, rfl, rfl⟩)), by rw [ht]; exact hP, hD⟩, hS.F ht⟩) hS.2.2 dX10_paste_109
          · skip
            have nc_1015 : v_1013.toInt ≠ v_1014.toInt := fun h9 => c_1015 (Int32.toInt_inj.mp h9)
            refine lv_bipush (v := (-8)) hx hb dX10_paste_55 (by decide) ?_
            exact W.iret (v := (-8)) hx hb hr (fun t ht hW => ⟨⟨(-8), _, rfl, Or.inr (Or.inr (Or.inl (⟨by have h90 : Int32.toInt (-8) = -8 := (by decide); have h91 : Int32.toInt 0 = 0 := (by decide); have h92 : Int32.toInt 1 = 1 := (by decide); omega, rfl, rfl⟩))), by rw [ht]; exact hP, hD⟩, hS.F ht⟩) hS.2.2 dX10_paste_57
        · skip
          have nc_1012 := nb_eq (-1) (-1) c_1012 bv_1011 (bkc (x := (-1)) (c := -1) (by decide)) (by decide)
          refine lv_bipush (v := (-6)) hx hb dX10_paste_37 (by decide) ?_
          exact W.iret (v := (-6)) hx hb hr (fun t ht hW => ⟨⟨(-6), _, rfl, Or.inl (⟨by have h90 : Int32.toInt (-6) = -6 := (by decide); have h91 : Int32.toInt 0 = 0 := (by decide); have h92 : Int32.toInt 1 = 1 := (by decide); omega, rfl, rfl⟩), by rw [ht]; exact hP, hD⟩, hS.F ht⟩) hS.2.2 dX10_paste_39

set_option maxHeartbeats 4000000 in
set_option maxRecDepth 100000 in
theorem fpasteM11 (l : Launch) (G : va_G) (y : Nat → ClassId) (sz : Nat) (ob : Nat) (a2 : Int32) (a4 : Int32) (a5 : Int32) (ob_thrown : Int32) (ob_world : Nat) (ob_images : Nat) (ob_hasImage : Nat) (ob_tape : Nat) (ob_taped : Int32) (ob_five : Nat) (ob_size : Int32) (ob_at : Int32) (ob_from : Int32) (ob_token : Int32) (ob_value : Int32) (ob_faultKind : Int32) (ob_faultPlace : Int32) (ob_fresh : Nat) (ob_parts : Nat) (ob_houses : Nat) (ob_houseMany : Int32) (ob_worthOf : Nat) (ob_byCall : Nat) (ob_over : Nat) (ob_bestSet : Int32) (ob_bestOver : Int32) (ob_bestWorth : Int32) (ob_row : Nat) (ob_tenDebts : Nat) (ob_tenMany : Int32) (ob_fewestBy : Nat) (ob_covered : Nat) (ob_queue : Nat) (ob_cameBy : Nat) (ob_parent : Nat) (ob_met : Nat) (ob_calls : Nat) (ob_callMany : Int32) (ob_calledOn : Nat) (ob_saved : Nat) (ob_many : Nat) (ob_width : Nat) (ob_numbers : Nat) (ob_moving : Nat) (fob_many : Nat → Int32) (fob_width : Nat → Int32) (fob_numbers : Nat → Int64) (fob_moving : Nat → Int64) (p_ob_taped : (0 : Int) ≤ ob_taped.toInt ∧ ob_taped.toInt ≤ 1400) (p_ob_size : (0 : Int) ≤ ob_size.toInt ∧ ob_size.toInt ≤ 1400) (p_ob_at : (0 : Int) ≤ ob_at.toInt ∧ ob_at.toInt ≤ 1400) (p_ob_from : (0 : Int) ≤ ob_from.toInt ∧ ob_from.toInt ≤ 1400) (p_ob_token : (0 : Int) ≤ ob_token.toInt ∧ ob_token.toInt ≤ 4) (p_ob_value : (0 : Int) ≤ ob_value.toInt ∧ ob_value.toInt ≤ 9999) (p_ob_faultKind : (0 : Int) ≤ ob_faultKind.toInt ∧ ob_faultKind.toInt ≤ 3) (p_ob_houseMany : (0 : Int) ≤ ob_houseMany.toInt ∧ ob_houseMany.toInt ≤ 10) (p_ob_bestSet : (0 : Int) ≤ ob_bestSet.toInt ∧ ob_bestSet.toInt ≤ 1023) (p_ob_bestOver : (-1 : Int) ≤ ob_bestOver.toInt ∧ ob_bestOver.toInt ≤ 180) (p_ob_tenMany : (0 : Int) ≤ ob_tenMany.toInt ∧ ob_tenMany.toInt ≤ 10) (p_ob_callMany : (0 : Int) ≤ ob_callMany.toInt ∧ ob_callMany.toInt ≤ 16) (p_fob_many : ∀ i, (-1 : Int) ≤ (fob_many i).toInt ∧ (fob_many i).toInt ≤ 60) (p_fob_width : ∀ i, (0 : Int) ≤ (fob_width i).toInt ∧ (fob_width i).toInt ≤ 3) : Met l yX10_paste (Cond.code yX10_paste cX10_paste 7 (some .int) :: wAll) ({ frames := 2, cells := 0, slots := 0, locals := 45 }) (va_Pc [.ref ob, .int 1, .int a2, .int 1, .int a4, .int a5] (kp G y sz [(ce_X10 ob ob_thrown ob_world ob_images ob_hasImage ob_tape ob_taped ob_five ob_size ob_at ob_from ob_token ob_value ob_faultKind ob_faultPlace ob_fresh ob_parts ob_houses ob_houseMany ob_worthOf ob_byCall ob_over ob_bestSet ob_bestOver ob_bestWorth ob_row ob_tenDebts ob_tenMany ob_fewestBy ob_covered ob_queue ob_cameBy ob_parent ob_met ob_calls ob_callMany ob_calledOn ob_saved ob_many ob_width ob_numbers ob_moving), (ce_i4 y ob_many fob_many), (ce_i4 y ob_width fob_width), (ce_l240 y ob_numbers fob_numbers), (ce_l60 y ob_moving fob_moving)])) (va_Qi (fun (r : Int32) (w : va_W) => (((fob_many 1).toInt = -1 ∨ (fob_many 1).toInt = -1) ∧ r = (-6) ∧ w = [(ce_X10 ob ob_thrown ob_world ob_images ob_hasImage ob_tape ob_taped ob_five ob_size ob_at ob_from ob_token ob_value ob_faultKind ob_faultPlace ob_fresh ob_parts ob_houses ob_houseMany ob_worthOf ob_byCall ob_over ob_bestSet ob_bestOver ob_bestWorth ob_row ob_tenDebts ob_tenMany ob_fewestBy ob_covered ob_queue ob_cameBy ob_parent ob_met ob_calls ob_callMany ob_calledOn ob_saved ob_many ob_width ob_numbers ob_moving), (ce_i4 y ob_many fob_many), (ce_i4 y ob_width fob_width), (ce_l240 y ob_numbers fob_numbers), (ce_l60 y ob_moving fob_moving)]) ∨ ((¬ (fob_many 1).toInt = -1 ∧ ¬ (fob_many 1).toInt = -1 ∧ (fob_width 1).toInt = (fob_width 1).toInt ∧ ¬ (0 ≤ a2.toInt ∧ 0 ≤ a4.toInt ∧ 0 ≤ a5.toInt ∧ a2.toInt + a5.toInt ≤ (fob_many 1).toInt ∧ a4.toInt + a5.toInt ≤ (fob_many 1).toInt)) ∧ r = (-7) ∧ w = [(ce_X10 ob ob_thrown ob_world ob_images ob_hasImage ob_tape ob_taped ob_five ob_size ob_at ob_from ob_token ob_value ob_faultKind ob_faultPlace ob_fresh ob_parts ob_houses ob_houseMany ob_worthOf ob_byCall ob_over ob_bestSet ob_bestOver ob_bestWorth ob_row ob_tenDebts ob_tenMany ob_fewestBy ob_covered ob_queue ob_cameBy ob_parent ob_met ob_calls ob_callMany ob_calledOn ob_saved ob_many ob_width ob_numbers ob_moving), (ce_i4 y ob_many fob_many), (ce_i4 y ob_width fob_width), (ce_l240 y ob_numbers fob_numbers), (ce_l60 y ob_moving fob_moving)]) ∨ (∃ (f_223 : Nat → Int64) (f_224 : Nat → Int64), ((0 : Int) ≤ a2.toInt ∧ a2.toInt ≤ 60) ∧ ((0 : Int) ≤ a4.toInt ∧ a4.toInt ≤ 60) ∧ ((0 : Int) ≤ a5.toInt ∧ a5.toInt ≤ 60) ∧ (¬ (fob_many 1).toInt = -1 ∧ ¬ (fob_many 1).toInt = -1 ∧ (fob_width 1).toInt = (fob_width 1).toInt ∧ 0 ≤ a2.toInt ∧ 0 ≤ a4.toInt ∧ 0 ≤ a5.toInt ∧ a2.toInt + a5.toInt ≤ (fob_many 1).toInt ∧ a4.toInt + a5.toInt ≤ (fob_many 1).toInt) ∧ (pL f_223 fob_numbers (60 + a2.toInt.toNat) (60 + a4.toInt.toNat) a5.toInt) ∧ r = 0 ∧ w = [(ce_X10 ob ob_thrown ob_world ob_images ob_hasImage ob_tape ob_taped ob_five ob_size ob_at ob_from ob_token ob_value ob_faultKind ob_faultPlace ob_fresh ob_parts ob_houses ob_houseMany ob_worthOf ob_byCall ob_over ob_bestSet ob_bestOver ob_bestWorth ob_row ob_tenDebts ob_tenMany ob_fewestBy ob_covered ob_queue ob_cameBy ob_parent ob_met ob_calls ob_callMany ob_calledOn ob_saved ob_many ob_width ob_numbers ob_moving), (ce_i4 y ob_many fob_many), (ce_i4 y ob_width fob_width), (ce_l240 y ob_numbers f_223), (ce_l60 y ob_moving f_224)])) (kq G (va_A [(ce_X10 ob ob_thrown ob_world ob_images ob_hasImage ob_tape ob_taped ob_five ob_size ob_at ob_from ob_token ob_value ob_faultKind ob_faultPlace ob_fresh ob_parts ob_houses ob_houseMany ob_worthOf ob_byCall ob_over ob_bestSet ob_bestOver ob_bestWorth ob_row ob_tenDebts ob_tenMany ob_fewestBy ob_covered ob_queue ob_cameBy ob_parent ob_met ob_calls ob_callMany ob_calledOn ob_saved ob_many ob_width ob_numbers ob_moving), (ce_i4 y ob_many fob_many), (ce_i4 y ob_width fob_width), (ce_l240 y ob_numbers fob_numbers), (ce_l60 y ob_moving fob_moving)] sz)) (va_A [(ce_X10 ob ob_thrown ob_world ob_images ob_hasImage ob_tape ob_taped ob_five ob_size ob_at ob_from ob_token ob_value ob_faultKind ob_faultPlace ob_fresh ob_parts ob_houses ob_houseMany ob_worthOf ob_byCall ob_over ob_bestSet ob_bestOver ob_bestWorth ob_row ob_tenDebts ob_tenMany ob_fewestBy ob_covered ob_queue ob_cameBy ob_parent ob_met ob_calls ob_callMany ob_calledOn ob_saved ob_many ob_width ob_numbers ob_moving), (ce_i4 y ob_many fob_many), (ce_i4 y ob_width fob_width), (ce_l240 y ob_numbers fob_numbers), (ce_l60 y ob_moving fob_moving)] sz)) 0 0 (va_A [(ce_X10 ob ob_thrown ob_world ob_images ob_hasImage ob_tape ob_taped ob_five ob_size ob_at ob_from ob_token ob_value ob_faultKind ob_faultPlace ob_fresh ob_parts ob_houses ob_houseMany ob_worthOf ob_byCall ob_over ob_bestSet ob_bestOver ob_bestWorth ob_row ob_tenDebts ob_tenMany ob_fewestBy ob_covered ob_queue ob_cameBy ob_parent ob_met ob_calls ob_callMany ob_calledOn ob_saved ob_many ob_width ob_numbers ob_moving), (ce_i4 y ob_many fob_many), (ce_i4 y ob_width fob_width), (ce_l240 y ob_numbers fob_numbers), (ce_l60 y ob_moving fob_moving)] sz) := by
  refine Met.ofW (cc := cX10_paste) (maxL := 7) (ret := (some .int)) (by decide) rfl ?_
  intro p e s m args below meth c s₁ B hml hv
  obtain ⟨rfl, hsz, hP, hK, hD0⟩ := hv
  have hx := B.exec
  have hb := B.bytes
  have hr := B.returns
  have hw0 : ∀ w ∈ wAll, w.before _ s = true := fun w h => atoms_spec (ws := Cond.code yX10_paste cX10_paste 7 (some .int) :: wAll) B.pre w (List.mem_cons_of_mem _ h)
  have hown : s.vm.findClass RX10 = some m.cls := findClass_of_methodNamed B.named
  subst hsz
  have hD := hD0.self (sz := s.heap.size)
  generalize hAe : va_A [(ce_X10 ob ob_thrown ob_world ob_images ob_hasImage ob_tape ob_taped ob_five ob_size ob_at ob_from ob_token ob_value ob_faultKind ob_faultPlace ob_fresh ob_parts ob_houses ob_houseMany ob_worthOf ob_byCall ob_over ob_bestSet ob_bestOver ob_bestWorth ob_row ob_tenDebts ob_tenMany ob_fewestBy ob_covered ob_queue ob_cameBy ob_parent ob_met ob_calls ob_callMany ob_calledOn ob_saved ob_many ob_width ob_numbers ob_moving), (ce_i4 y ob_many fob_many), (ce_i4 y ob_width fob_width), (ce_l240 y ob_numbers fob_numbers), (ce_l60 y ob_moving fob_moving)] s.heap.size = A at hD ⊢
  have hA : ∀ q : Nat, s.heap.size ≤ q → A q := fun q h => by rw [← hAe]; exact Or.inr h
  have hS : va_S A s.heap s.heap [] := va_S.rf
  have hP : va_P G vwCl [(ce_X10 ob ob_thrown ob_world ob_images ob_hasImage ob_tape ob_taped ob_five ob_size ob_at ob_from ob_token ob_value ob_faultKind ob_faultPlace ob_fresh ob_parts ob_houses ob_houseMany ob_worthOf ob_byCall ob_over ob_bestSet ob_bestOver ob_bestWorth ob_row ob_tenDebts ob_tenMany ob_fewestBy ob_covered ob_queue ob_cameBy ob_parent ob_met ob_calls ob_callMany ob_calledOn ob_saved ob_many ob_width ob_numbers ob_moving), (ce_i4 y ob_many fob_many), (ce_i4 y ob_width fob_width), (ce_l240 y ob_numbers fob_numbers), (ce_l60 y ob_moving fob_moving)] s.heap := hP
  have hl := lv_entry ([.ref ob, .int 1, .int a2, .int 1, .int a4, .int a5]) (n := 7) (Nat.le_of_ble_eq_true rfl)
  rw [lg_entry_eq]
  generalize (lg_sl ([.ref ob, .int 1, .int a2, .int 1, .int a4, .int a5]) ++ List.replicate (7 - (lg_sl ([.ref ob, .int 1, .int a2, .int 1, .int a4, .int a5])).length) Slot.unset).toArray = ls at hl ⊢
  have hl : lv_has ls 7 [(0, .ref ob), (1, .int 1), (2, .int a2), (3, .int 1), (4, .int a4), (5, .int a5)] := hl
  refine lv_iload_n hx hb dX10_paste_0 rfl (lv_at hl 1 rfl) ?_
  refine cSim (As := [.int 1]) (rest := []) ⟨hx, hb, hml, hown, hw0⟩ hA hK hP hD hS [] (gisSlotM l G y _ 1 ) rfl ⟨(callB_of 1 hw0 (gA m_543) rfl rfl rfl (hw0 _ m_41) (hw0 _ m_433) cb_X10_isSlot ⟨Nat.le_of_ble_eq_true rfl, Nat.le_of_ble_eq_true rfl⟩), (hw0 _ m_434)⟩ rfl hl.1 (Nat.le_of_ble_eq_true rfl) dX10_paste_1 ⟨Nat.le_of_ble_eq_true rfl, Nat.le_of_ble_eq_true rfl⟩ (fun r_1001 w_1001 H locs hw_1001 hP hD hS => ?_)
  rcases hw_1001 with ⟨h_1002, rfl, rfl⟩ | ⟨h_1003, h_1004, rfl, rfl⟩
  · skip
    exact False.elim (by have h9 : Int32.toInt 1 = 1 := (by decide); omega)
  · skip
    obtain ⟨hP, hD⟩ : vPD G A H [(ce_X10 ob ob_thrown ob_world ob_images ob_hasImage ob_tape ob_taped ob_five ob_size ob_at ob_from ob_token ob_value ob_faultKind ob_faultPlace ob_fresh ob_parts ob_houses ob_houseMany ob_worthOf ob_byCall ob_over ob_bestSet ob_bestOver ob_bestWorth ob_row ob_tenDebts ob_tenMany ob_fewestBy ob_covered ob_queue ob_cameBy ob_parent ob_met ob_calls ob_callMany ob_calledOn ob_saved ob_many ob_width ob_numbers ob_moving), (ce_i4 y ob_many fob_many), (ce_i4 y ob_width fob_width), (ce_l240 y ob_numbers fob_numbers), (ce_l60 y ob_moving fob_moving)] := ⟨hP, hD⟩
    refine lv_if_eq (tgt := 14) hx hb dX10_paste_4 (by decide) (fun c9 => absurd c9 (by decide)) (fun _ => ?_)
    refine lv_iload_n hx hb dX10_paste_7 rfl (lv_at hl 3 rfl) ?_
    refine cSim (As := [.int 1]) (rest := []) ⟨hx, hb, hml, hown, hw0⟩ hA hK hP hD hS [] (gisSlotM l G y _ 1 ) rfl ⟨(callB_of 1 hw0 (gA m_543) rfl rfl rfl (hw0 _ m_41) (hw0 _ m_433) cb_X10_isSlot ⟨Nat.le_of_ble_eq_true rfl, Nat.le_of_ble_eq_true rfl⟩), (hw0 _ m_434)⟩ rfl hl.1 (Nat.le_of_ble_eq_true rfl) dX10_paste_8 ⟨Nat.le_of_ble_eq_true rfl, Nat.le_of_ble_eq_true rfl⟩ (fun r_1005 w_1005 H locs hw_1005 hP hD hS => ?_)
    rcases hw_1005 with ⟨h_1006, rfl, rfl⟩ | ⟨h_1007, h_1008, rfl, rfl⟩
    · skip
      exact False.elim (by have h9 : Int32.toInt 1 = 1 := (by decide); omega)
    · skip
      obtain ⟨hP, hD⟩ : vPD G A H [(ce_X10 ob ob_thrown ob_world ob_images ob_hasImage ob_tape ob_taped ob_five ob_size ob_at ob_from ob_token ob_value ob_faultKind ob_faultPlace ob_fresh ob_parts ob_houses ob_houseMany ob_worthOf ob_byCall ob_over ob_bestSet ob_bestOver ob_bestWorth ob_row ob_tenDebts ob_tenMany ob_fewestBy ob_covered ob_queue ob_cameBy ob_parent ob_met ob_calls ob_callMany ob_calledOn ob_saved ob_many ob_width ob_numbers ob_moving), (ce_i4 y ob_many fob_many), (ce_i4 y ob_width fob_width), (ce_l240 y ob_numbers fob_numbers), (ce_l60 y ob_moving fob_moving)] := ⟨hP, hD⟩
      refine lv_if_ne (tgt := 17) hx hb dX10_paste_11 (by decide) (fun _ => ?_) (fun c9 => absurd c9 (by decide))
      refine lv_aload_n hx hb dX10_paste_17 rfl (lv_at hl 0 rfl) ?_
      refine va_get (D := G) (ci := 10) (v := .ref ob_many) (C := RX10) (T := TX10) (N := 41) hx hb hw0 inA_wsX100 hown hK.1 hP 0 rfl rfl 37 (by decide) (hw0 _ m_406) (fun _ h9 => h9) rfl dX10_paste_18 ?_
      refine lv_iload_n hx hb dX10_paste_21 rfl (lv_at hl 1 rfl) ?_
      refine va_iald hx hb hK.1 hP 1 1 rfl rfl (vi (bkc (x := 1) (c := 1) (by decide)) (by decide)) dX10_paste_22 ?_
      refine lv_topi (fun v_1009 ev_1009 => ?_)
      have bv_1009 : (-1 : Int) ≤ v_1009.toInt ∧ v_1009.toInt ≤ 60 := rd_b ev_1009 p_fob_many
      have yv_1009 : v_1009.toInt = (fob_many 1).toInt := congrArg Int32.toInt ev_1009
      refine lv_iconst (v := (-1)) hx hb dX10_paste_23 (by decide) ?_
      refine lv_icmp_eq (tgt := 37) hx hb dX10_paste_24 (by decide) (fun c_1010 => ?_) (fun c_1010 => ?_)
      · skip
        have nc_1010 := nb_eq (-1) (-1) c_1010 bv_1009 (bkc (x := (-1)) (c := -1) (by decide)) (by decide)
        refine lv_bipush (v := (-6)) hx hb dX10_paste_37 (by decide) ?_
        exact W.iret (v := (-6)) hx hb hr (fun t ht hW => ⟨⟨(-6), _, rfl, Or.inl (⟨by have h90 : Int32.toInt (-6) = -6 := (by decide); have h91 : Int32.toInt 1 = 1 := (by decide); omega, rfl, rfl⟩), by rw [ht]; exact hP, hD⟩, hS.F ht⟩) hS.2.2 dX10_paste_39
      · skip
        have nc_1010 := nb_ne (0) (60) c_1010 bv_1009 (k := -1) (by decide) (by decide)
        refine lv_aload_n hx hb dX10_paste_27 rfl (lv_at hl 0 rfl) ?_
        refine va_get (D := G) (ci := 10) (v := .ref ob_many) (C := RX10) (T := TX10) (N := 41) hx hb hw0 inA_wsX100 hown hK.1 hP 0 rfl rfl 37 (by decide) (hw0 _ m_406) (fun _ h9 => h9) rfl dX10_paste_28 ?_
        refine lv_iload_n hx hb dX10_paste_31 rfl (lv_at hl 3 rfl) ?_
        refine va_iald hx hb hK.1 hP 1 1 rfl rfl (vi (bkc (x := 1) (c := 1) (by decide)) (by decide)) dX10_paste_32 ?_
        refine lv_topi (fun v_1011 ev_1011 => ?_)
        obtain rfl : v_1009 = v_1011 := (ev_1011.trans (ev_1009.symm)).symm
        refine lv_iconst (v := (-1)) hx hb dX10_paste_33 (by decide) ?_
        refine lv_icmp_ne (tgt := 40) hx hb dX10_paste_34 (by decide) (fun _ => ?_) (fun c9 => absurd c9 (dc_neq nc_1010.1 (bkc (x := (-1)) (c := -1) (by decide)) (by decide)))
        refine lv_aload_n hx hb dX10_paste_40 rfl (lv_at hl 0 rfl) ?_
        refine va_get (D := G) (ci := 10) (v := .ref ob_width) (C := RX10) (T := TX10) (N := 41) hx hb hw0 inA_wsX100 hown hK.1 hP 0 rfl rfl 38 (by decide) (hw0 _ m_527) (fun _ h9 => h9) rfl dX10_paste_41 ?_
        refine lv_iload_n hx hb dX10_paste_44 rfl (lv_at hl 1 rfl) ?_
        refine va_iald hx hb hK.1 hP 2 1 rfl rfl (vi (bkc (x := 1) (c := 1) (by decide)) (by decide)) dX10_paste_45 ?_
        refine lv_topi (fun v_1012 ev_1012 => ?_)
        have bv_1012 : (0 : Int) ≤ v_1012.toInt ∧ v_1012.toInt ≤ 3 := rd_b ev_1012 p_fob_width
        have yv_1012 : v_1012.toInt = (fob_width 1).toInt := congrArg Int32.toInt ev_1012
        refine lv_aload_n hx hb dX10_paste_46 rfl (lv_at hl 0 rfl) ?_
        refine va_get (D := G) (ci := 10) (v := .ref ob_width) (C := RX10) (T := TX10) (N := 41) hx hb hw0 inA_wsX100 hown hK.1 hP 0 rfl rfl 38 (by decide) (hw0 _ m_527) (fun _ h9 => h9) rfl dX10_paste_47 ?_
        refine lv_iload_n hx hb dX10_paste_50 rfl (lv_at hl 3 rfl) ?_
        refine va_iald hx hb hK.1 hP 2 1 rfl rfl (vi (bkc (x := 1) (c := 1) (by decide)) (by decide)) dX10_paste_51 ?_
        refine lv_topi (fun v_1013 ev_1013 => ?_)
        obtain rfl : v_1012 = v_1013 := (ev_1013.trans (ev_1012.symm)).symm
        refine lv_icmp_eq (tgt := 58) hx hb dX10_paste_52 (by decide) (fun _ => ?_) (fun c9 => absurd (rfl) c9)
        refine lv_iload_n hx hb dX10_paste_58 rfl (lv_at hl 2 rfl) ?_
        refine lv_if_lt (tgt := 107) hx hb dX10_paste_59 (by decide) (fun c_1014 => ?_) (fun c_1014 => ?_)
        · skip
          have nc_1014 := nb_lt (-1) (0) c_1014 (btop a2) (bkc (x := 0) (c := 0) (by decide)) (by decide)
          refine lv_bipush (v := (-7)) hx hb dX10_paste_107 (by decide) ?_
          exact W.iret (v := (-7)) hx hb hr (fun t ht hW => ⟨⟨(-7), _, rfl, Or.inr (Or.inl (⟨by have h90 : Int32.toInt (-7) = -7 := (by decide); have h91 : Int32.toInt 1 = 1 := (by decide); omega, rfl, rfl⟩)), by rw [ht]; exact hP, hD⟩, hS.F ht⟩) hS.2.2 dX10_paste_109
        · skip
          have nc_1014 := nb_nlt (0) (0) c_1014 (bkc (x := 0) (c := 0) (by decide)) (btop a2) (by decide)
          refine lv_iload hx hb dX10_paste_62 (lv_at hl 4 rfl) ?_
          refine lv_if_lt (tgt := 107) hx hb dX10_paste_64 (by decide) (fun c_1015 => ?_) (fun c_1015 => ?_)
          · skip
            have nc_1015 := nb_lt (-1) (0) c_1015 (btop a4) (bkc (x := 0) (c := 0) (by decide)) (by decide)
            refine lv_bipush (v := (-7)) hx hb dX10_paste_107 (by decide) ?_
            exact W.iret (v := (-7)) hx hb hr (fun t ht hW => ⟨⟨(-7), _, rfl, Or.inr (Or.inl (⟨by have h90 : Int32.toInt (-7) = -7 := (by decide); have h91 : Int32.toInt 1 = 1 := (by decide); omega, rfl, rfl⟩)), by rw [ht]; exact hP, hD⟩, hS.F ht⟩) hS.2.2 dX10_paste_109
          · skip
            have nc_1015 := nb_nlt (0) (0) c_1015 (bkc (x := 0) (c := 0) (by decide)) (btop a4) (by decide)
            refine lv_iload hx hb dX10_paste_67 (lv_at hl 5 rfl) ?_
            refine lv_if_lt (tgt := 107) hx hb dX10_paste_69 (by decide) (fun c_1016 => ?_) (fun c_1016 => ?_)
            · skip
              have nc_1016 := nb_lt (-1) (0) c_1016 (btop a5) (bkc (x := 0) (c := 0) (by decide)) (by decide)
              refine lv_bipush (v := (-7)) hx hb dX10_paste_107 (by decide) ?_
              exact W.iret (v := (-7)) hx hb hr (fun t ht hW => ⟨⟨(-7), _, rfl, Or.inr (Or.inl (⟨by have h90 : Int32.toInt (-7) = -7 := (by decide); have h91 : Int32.toInt 1 = 1 := (by decide); omega, rfl, rfl⟩)), by rw [ht]; exact hP, hD⟩, hS.F ht⟩) hS.2.2 dX10_paste_109
            · skip
              have nc_1016 := nb_nlt (0) (0) c_1016 (bkc (x := 0) (c := 0) (by decide)) (btop a5) (by decide)
              refine lv_iload_n hx hb dX10_paste_72 rfl (lv_at hl 2 rfl) ?_
              refine lv_i2l hx hb dX10_paste_73 rfl ?_
              have kk_1017 : ((a2).toInt64).toInt = (a2).toInt := Int32.toInt_toInt64 _
              refine lv_iload hx hb dX10_paste_74 (lv_at hl 5 rfl) ?_
              refine lv_i2l hx hb dX10_paste_76 rfl ?_
              have kk_1018 : ((a5).toInt64).toInt = (a5).toInt := Int32.toInt_toInt64 _
              refine lv_ladd hx hb dX10_paste_77 ?_
              refine lv_topl (fun v_1019 ev_1019 => ?_)
              have qv_1019 := la_add ev_1019
              refine lv_aload_n hx hb dX10_paste_78 rfl (lv_at hl 0 rfl) ?_
              refine va_get (D := G) (ci := 10) (v := .ref ob_many) (C := RX10) (T := TX10) (N := 41) hx hb hw0 inA_wsX100 hown hK.1 hP 0 rfl rfl 37 (by decide) (hw0 _ m_406) (fun _ h9 => h9) rfl dX10_paste_79 ?_
              refine lv_iload_n hx hb dX10_paste_82 rfl (lv_at hl 1 rfl) ?_
              refine va_iald hx hb hK.1 hP 1 1 rfl rfl (vi (bkc (x := 1) (c := 1) (by decide)) (by decide)) dX10_paste_83 ?_
              refine lv_topi (fun v_1020 ev_1020 => ?_)
              obtain rfl : v_1009 = v_1020 := (ev_1020.trans (ev_1009.symm)).symm
              refine lv_i2l hx hb dX10_paste_84 rfl ?_
              have kk_1021 : ((v_1009).toInt64).toInt = (v_1009).toInt := Int32.toInt_toInt64 _
              refine W.lcmp hx hb dX10_paste_85 ?_
              refine lv_if_gt (tgt := 107) hx hb dX10_paste_86 (by decide) (fun c_1022 => ?_) (fun c_1022 => ?_)
              · skip
                have nc_1022 := jl_gt c_1022
                refine lv_bipush (v := (-7)) hx hb dX10_paste_107 (by decide) ?_
                exact W.iret (v := (-7)) hx hb hr (fun t ht hW => ⟨⟨(-7), _, rfl, Or.inr (Or.inl (⟨by have h90 : Int32.toInt (-7) = -7 := (by decide); have h91 : Int32.toInt 1 = 1 := (by decide); omega, rfl, rfl⟩)), by rw [ht]; exact hP, hD⟩, hS.F ht⟩) hS.2.2 dX10_paste_109
              · skip
                have nc_1022 := jl_ngt c_1022
                refine lv_iload hx hb dX10_paste_89 (lv_at hl 4 rfl) ?_
                refine lv_i2l hx hb dX10_paste_91 rfl ?_
                have kk_1023 : ((a4).toInt64).toInt = (a4).toInt := Int32.toInt_toInt64 _
                refine lv_iload hx hb dX10_paste_92 (lv_at hl 5 rfl) ?_
                refine lv_i2l hx hb dX10_paste_94 rfl ?_
                have kk_1024 : ((a5).toInt64).toInt = (a5).toInt := Int32.toInt_toInt64 _
                refine lv_ladd hx hb dX10_paste_95 ?_
                refine lv_topl (fun v_1025 ev_1025 => ?_)
                have qv_1025 := la_add ev_1025
                refine lv_aload_n hx hb dX10_paste_96 rfl (lv_at hl 0 rfl) ?_
                refine va_get (D := G) (ci := 10) (v := .ref ob_many) (C := RX10) (T := TX10) (N := 41) hx hb hw0 inA_wsX100 hown hK.1 hP 0 rfl rfl 37 (by decide) (hw0 _ m_406) (fun _ h9 => h9) rfl dX10_paste_97 ?_
                refine lv_iload_n hx hb dX10_paste_100 rfl (lv_at hl 3 rfl) ?_
                refine va_iald hx hb hK.1 hP 1 1 rfl rfl (vi (bkc (x := 1) (c := 1) (by decide)) (by decide)) dX10_paste_101 ?_
                refine lv_topi (fun v_1026 ev_1026 => ?_)
                obtain rfl : v_1009 = v_1026 := (ev_1026.trans (ev_1009.symm)).symm
                refine lv_i2l hx hb dX10_paste_102 rfl ?_
                have kk_1027 : ((v_1009).toInt64).toInt = (v_1009).toInt := Int32.toInt_toInt64 _
                refine W.lcmp hx hb dX10_paste_103 ?_
                refine lv_if_le (tgt := 110) hx hb dX10_paste_104 (by decide) (fun c_1028 => ?_) (fun c_1028 => ?_)
                · skip
                  have nc_1028 := jl_le c_1028
                  have h_1029 : (0 : Int) ≤ a2.toInt ∧ a2.toInt ≤ 60 := by omega
                  have h_1030 : (0 : Int) ≤ a4.toInt ∧ a4.toInt ≤ 60 := by omega
                  have h_1031 : (0 : Int) ≤ a5.toInt ∧ a5.toInt ≤ 60 := by omega
                  refine lv_iconst (v := 0) hx hb dX10_paste_110 (by decide) ?_
                  refine lv_istore (lv' := [(6, .int 0), (0, .ref ob), (1, .int 1), (2, .int a2), (3, .int 1), (4, .int a4), (5, .int a5)]) hx hb dX10_paste_111 hl (by decide) rfl (fun ls hl => ?_)
                  refine loopX (fun n H locs ls st => ∃ (v_1056 : Int32) (f_1057 : Nat → Int64), (60 - v_1056.toInt).toNat = n ∧ ((0 : Int) ≤ v_1056.toInt ∧ v_1056.toInt ≤ 60) ∧ (mL f_1057 fob_numbers (60 + a2.toInt.toNat) v_1056.toInt) ∧ st = [] ∧ vPD G A H [(ce_X10 ob ob_thrown ob_world ob_images ob_hasImage ob_tape ob_taped ob_five ob_size ob_at ob_from ob_token ob_value ob_faultKind ob_faultPlace ob_fresh ob_parts ob_houses ob_houseMany ob_worthOf ob_byCall ob_over ob_bestSet ob_bestOver ob_bestWorth ob_row ob_tenDebts ob_tenMany ob_fewestBy ob_covered ob_queue ob_cameBy ob_parent ob_met ob_calls ob_callMany ob_calledOn ob_saved ob_many ob_width ob_numbers ob_moving), (ce_i4 y ob_many fob_many), (ce_i4 y ob_width fob_width), (ce_l240 y ob_numbers fob_numbers), (ce_l60 y ob_moving f_1057)] ∧ va_S A s.heap H locs ∧ lv_has ls 7 [(6, .int v_1056), (0, .ref ob), (1, .int 1), (2, .int a2), (3, .int 1), (4, .int a4), (5, .int a5)]) ?_ (n := (60 - (0 : Int32).toInt).toNat) ⟨0, fob_moving, rfl, (bw (0) (60) (bkc (x := 0) (c := 0) (by decide)) (by decide)), (ml_0 (by have h90 : Int32.toInt 0 = 0 := (by decide); have h91 : Int32.toInt 1 = 1 := (by decide); omega)), rfl, ⟨hP, hD⟩, hS, lv_sub hl [0, 1, 2, 3, 4, 5, 6] rfl⟩
                  rintro n ih_1064 H locs ls st ⟨v_1056, f_1057, hn_1064, bv_1056, rl1057_0, rfl, ⟨hP, hD⟩, hS, hl⟩
                  refine lv_iload hx hb dX10_paste_113 (lv_at hl 0 rfl) ?_
                  refine lv_iload hx hb dX10_paste_115 (lv_at hl 6 rfl) ?_
                  refine lv_icmp_ge (tgt := 147) hx hb dX10_paste_117 (by decide) (fun c_1065 => ?_) (fun c_1065 => ?_)
                  · skip
                    have nc_1065 := nb_le (60) (0) c_1065 h_1031 bv_1056 (by decide)
                    refine lv_iconst (v := 0) hx hb dX10_paste_147 (by decide) ?_
                    refine lv_istore (lv' := [(6, .int 0), (0, .ref ob), (1, .int 1), (2, .int a2), (3, .int 1), (4, .int a4), (5, .int a5)]) hx hb dX10_paste_148 hl (by decide) rfl (fun ls hl => ?_)
                    refine loopX (fun n H locs ls st => ∃ (v_1090 : Int32) (f_1091 : Nat → Int64), (60 - v_1090.toInt).toNat = n ∧ ((0 : Int) ≤ v_1090.toInt ∧ v_1090.toInt ≤ 60) ∧ (nL f_1091 fob_numbers f_1057 (60 + a4.toInt.toNat) v_1090.toInt) ∧ (v_1090.toInt ≤ a5.toInt) ∧ st = [] ∧ vPD G A H [(ce_X10 ob ob_thrown ob_world ob_images ob_hasImage ob_tape ob_taped ob_five ob_size ob_at ob_from ob_token ob_value ob_faultKind ob_faultPlace ob_fresh ob_parts ob_houses ob_houseMany ob_worthOf ob_byCall ob_over ob_bestSet ob_bestOver ob_bestWorth ob_row ob_tenDebts ob_tenMany ob_fewestBy ob_covered ob_queue ob_cameBy ob_parent ob_met ob_calls ob_callMany ob_calledOn ob_saved ob_many ob_width ob_numbers ob_moving), (ce_i4 y ob_many fob_many), (ce_i4 y ob_width fob_width), (ce_l240 y ob_numbers f_1091), (ce_l60 y ob_moving f_1057)] ∧ va_S A s.heap H locs ∧ lv_has ls 7 [(6, .int v_1090), (0, .ref ob), (3, .int 1), (4, .int a4), (5, .int a5)]) ?_ (n := (60 - (0 : Int32).toInt).toNat) ⟨0, fob_numbers, rfl, (bw (0) (60) (bkc (x := 0) (c := 0) (by decide)) (by decide)), (nl_0 (by have h90 : Int32.toInt 0 = 0 := (by decide); have h91 : Int32.toInt 1 = 1 := (by decide); omega)), (by have h90 : Int32.toInt 0 = 0 := (by decide); omega), rfl, ⟨hP, hD⟩, hS, lv_sub hl [0, 1, 4, 5, 6] rfl⟩
                    rintro n ih_1098 H locs ls st ⟨v_1090, f_1091, hn_1098, bv_1090, rl1091_0, rl1091_1, rfl, ⟨hP, hD⟩, hS, hl⟩
                    refine lv_iload hx hb dX10_paste_150 (lv_at hl 0 rfl) ?_
                    refine lv_iload hx hb dX10_paste_152 (lv_at hl 4 rfl) ?_
                    refine lv_icmp_ge (tgt := 185) hx hb dX10_paste_154 (by decide) (fun c_1099 => ?_) (fun c_1099 => ?_)
                    · skip
                      have nc_1099 := nb_le (60) (0) c_1099 nc_1065.1 bv_1090 (by decide)
                      refine lv_iconst (v := 0) hx hb dX10_paste_185 (by decide) ?_
                      exact W.iret (v := 0) hx hb hr (fun t ht hW => ⟨⟨0, _, rfl, Or.inr (Or.inr (⟨f_1091, f_1057, h_1029, h_1030, nc_1099.1, by have h90 : Int32.toInt 0 = 0 := (by decide); have h91 : Int32.toInt 1 = 1 := (by decide); omega, (pl_e rl1057_0 rl1091_0 (by omega) (by omega)), rfl, rfl⟩)), by rw [ht]; exact hP, hD⟩, hS.F ht⟩) hS.2.2 dX10_paste_186
                    · skip
                      have nc_1099 := nb_nle (59) (1) c_1099 bv_1090 nc_1065.1 (by decide)
                      refine lv_aload_n hx hb dX10_paste_157 rfl (lv_at hl 1 rfl) ?_
                      refine va_get (D := G) (ci := 10) (v := .ref ob_numbers) (C := RX10) (T := TX10) (N := 41) hx hb hw0 inA_wsX100 hown hK.1 hP 0 rfl rfl 39 (by decide) (hw0 _ m_435) (fun _ h9 => h9) rfl dX10_paste_158 ?_
                      refine lv_bipush (v := 60) hx hb dX10_paste_161 (by decide) ?_
                      refine lv_iload_n hx hb dX10_paste_163 rfl (lv_at hl 2 rfl) ?_
                      refine lv_imul hx hb dX10_paste_164 ?_
                      refine lv_topi (fun v_1100 ev_1100 => ?_)
                      obtain rfl : 60 = v_1100 := (ev_1100.trans (by decide)).symm
                      refine lv_iload hx hb dX10_paste_165 (lv_at hl 3 rfl) ?_
                      refine lv_iadd hx hb dX10_paste_167 ?_
                      refine lv_topi (fun v_1101 ev_1101 => ?_)
                      have qv_1101 := ba_add ev_1101 (bkc (x := 60) (c := 60) (by decide)) h_1030 (by decide)
                      have bv_1101 : (60 : Int) ≤ v_1101.toInt ∧ v_1101.toInt ≤ 120 := bq_add qv_1101 (bkc (x := 60) (c := 60) (by decide)) h_1030 _ _ (by decide)
                      have qv_1101 : v_1101.toInt = (60) + a4.toInt := qv_1101
                      refine lv_iload hx hb dX10_paste_168 (lv_at hl 0 rfl) ?_
                      refine lv_iadd hx hb dX10_paste_170 ?_
                      refine lv_topi (fun v_1102 ev_1102 => ?_)
                      have qv_1102 := ba_add ev_1102 bv_1101 nc_1099.1 (by decide)
                      have bv_1102 : (60 : Int) ≤ v_1102.toInt ∧ v_1102.toInt ≤ 179 := bq_add qv_1102 bv_1101 nc_1099.1 _ _ (by decide)
                      refine lv_aload_n hx hb dX10_paste_171 rfl (lv_at hl 1 rfl) ?_
                      refine va_get (D := G) (ci := 10) (v := .ref ob_moving) (C := RX10) (T := TX10) (N := 41) hx hb hw0 inA_wsX100 hown hK.1 hP 0 rfl rfl 40 (by decide) (hw0 _ m_529) (fun _ h9 => h9) rfl dX10_paste_172 ?_
                      refine lv_iload hx hb dX10_paste_175 (lv_at hl 0 rfl) ?_
                      refine va_lald hx hb hK.1 hP 4 2 rfl rfl (vi nc_1099.1 (by decide)) dX10_paste_177 ?_
                      refine lv_topl (fun v_1103 ev_1103 => ?_)
                      refine va_last hx hb hK.1 hP hD hS 3 2 rfl rfl (vi bv_1102 (by decide)) dX10_paste_178 (fun H locs hP hD hS => ?_)
                      generalize hf_1104 : (vp_updL f_1091 (v_1102 : Int32).toNatClampNeg v_1103) = f_1104 at hP hD
                      obtain ⟨hP, hD⟩ : vPD G A H [(ce_X10 ob ob_thrown ob_world ob_images ob_hasImage ob_tape ob_taped ob_five ob_size ob_at ob_from ob_token ob_value ob_faultKind ob_faultPlace ob_fresh ob_parts ob_houses ob_houseMany ob_worthOf ob_byCall ob_over ob_bestSet ob_bestOver ob_bestWorth ob_row ob_tenDebts ob_tenMany ob_fewestBy ob_covered ob_queue ob_cameBy ob_parent ob_met ob_calls ob_callMany ob_calledOn ob_saved ob_many ob_width ob_numbers ob_moving), (ce_i4 y ob_many fob_many), (ce_i4 y ob_width fob_width), (ce_l240 y ob_numbers f_1104), (ce_l60 y ob_moving f_1057)] := ⟨hP, hD⟩
                      obtain ⟨v_1105, ev_1105⟩ : ∃ z : Int32, z = v_1090 + 1 := ⟨_, rfl⟩
                      have qv_1105 := ba_add ev_1105 nc_1099.1 (bkc (x := 1) (c := 1) (by decide)) (by decide)
                      have bv_1105 : (1 : Int) ≤ v_1105.toInt ∧ v_1105.toInt ≤ 60 := bq_add qv_1105 nc_1099.1 (bkc (x := 1) (c := 1) (by decide)) _ _ (by decide)
                      have qv_1105 : v_1105.toInt = v_1090.toInt + (1) := qv_1105
                      refine lv_iinc (v := v_1105) (lv' := [(6, .int v_1105), (0, .ref ob), (3, .int 1), (4, .int a4), (5, .int a5)]) hx hb dX10_paste_179 hl (k := 0) rfl (ev_1105.symm) (by decide) rfl (fun ls hl => ?_)
                      refine lv_goto (tgt := 150) hx hb dX10_paste_182 (by decide) ?_
                      exact ih_1098 _ (ml_inc (hi := 60) hn_1098 qv_1105 (by decide) ((bw (0) (60) bv_1105 (by decide))).2) _ _ _ _ ⟨v_1105, f_1104, rfl, (bw (0) (60) bv_1105 (by decide)), (nl_s rl1091_0 hf_1104 ev_1103 (by omega) (by omega) (by omega) (by omega)), (by omega), rfl, ⟨hP, hD⟩, hS, lv_sub hl [0, 1, 2, 3, 4] rfl⟩
                  · skip
                    have nc_1065 := nb_nle (59) (1) c_1065 bv_1056 h_1031 (by decide)
                    refine lv_aload_n hx hb dX10_paste_120 rfl (lv_at hl 1 rfl) ?_
                    refine va_get (D := G) (ci := 10) (v := .ref ob_moving) (C := RX10) (T := TX10) (N := 41) hx hb hw0 inA_wsX100 hown hK.1 hP 0 rfl rfl 40 (by decide) (hw0 _ m_529) (fun _ h9 => h9) rfl dX10_paste_121 ?_
                    refine lv_iload hx hb dX10_paste_124 (lv_at hl 0 rfl) ?_
                    refine lv_aload_n hx hb dX10_paste_126 rfl (lv_at hl 1 rfl) ?_
                    refine va_get (D := G) (ci := 10) (v := .ref ob_numbers) (C := RX10) (T := TX10) (N := 41) hx hb hw0 inA_wsX100 hown hK.1 hP 0 rfl rfl 39 (by decide) (hw0 _ m_435) (fun _ h9 => h9) rfl dX10_paste_127 ?_
                    refine lv_bipush (v := 60) hx hb dX10_paste_130 (by decide) ?_
                    refine lv_iload_n hx hb dX10_paste_132 rfl (lv_at hl 2 rfl) ?_
                    refine lv_imul hx hb dX10_paste_133 ?_
                    refine lv_topi (fun v_1106 ev_1106 => ?_)
                    obtain rfl : 60 = v_1106 := (ev_1106.trans (by decide)).symm
                    refine lv_iload_n hx hb dX10_paste_134 rfl (lv_at hl 3 rfl) ?_
                    refine lv_iadd hx hb dX10_paste_135 ?_
                    refine lv_topi (fun v_1107 ev_1107 => ?_)
                    have qv_1107 := ba_add ev_1107 (bkc (x := 60) (c := 60) (by decide)) h_1029 (by decide)
                    have bv_1107 : (60 : Int) ≤ v_1107.toInt ∧ v_1107.toInt ≤ 120 := bq_add qv_1107 (bkc (x := 60) (c := 60) (by decide)) h_1029 _ _ (by decide)
                    have qv_1107 : v_1107.toInt = (60) + a2.toInt := qv_1107
                    refine lv_iload hx hb dX10_paste_136 (lv_at hl 0 rfl) ?_
                    refine lv_iadd hx hb dX10_paste_138 ?_
                    refine lv_topi (fun v_1108 ev_1108 => ?_)
                    have qv_1108 := ba_add ev_1108 bv_1107 nc_1065.1 (by decide)
                    have bv_1108 : (60 : Int) ≤ v_1108.toInt ∧ v_1108.toInt ≤ 179 := bq_add qv_1108 bv_1107 nc_1065.1 _ _ (by decide)
                    refine va_lald hx hb hK.1 hP 3 2 rfl rfl (vi bv_1108 (by decide)) dX10_paste_139 ?_
                    refine lv_topl (fun v_1109 ev_1109 => ?_)
                    refine va_last hx hb hK.1 hP hD hS 4 2 rfl rfl (vi nc_1065.1 (by decide)) dX10_paste_140 (fun H locs hP hD hS => ?_)
                    generalize hf_1110 : (vp_updL f_1057 (v_1056 : Int32).toNatClampNeg v_1109) = f_1110 at hP hD
                    obtain ⟨hP, hD⟩ : vPD G A H [(ce_X10 ob ob_thrown ob_world ob_images ob_hasImage ob_tape ob_taped ob_five ob_size ob_at ob_from ob_token ob_value ob_faultKind ob_faultPlace ob_fresh ob_parts ob_houses ob_houseMany ob_worthOf ob_byCall ob_over ob_bestSet ob_bestOver ob_bestWorth ob_row ob_tenDebts ob_tenMany ob_fewestBy ob_covered ob_queue ob_cameBy ob_parent ob_met ob_calls ob_callMany ob_calledOn ob_saved ob_many ob_width ob_numbers ob_moving), (ce_i4 y ob_many fob_many), (ce_i4 y ob_width fob_width), (ce_l240 y ob_numbers fob_numbers), (ce_l60 y ob_moving f_1110)] := ⟨hP, hD⟩
                    obtain ⟨v_1111, ev_1111⟩ : ∃ z : Int32, z = v_1056 + 1 := ⟨_, rfl⟩
                    have qv_1111 := ba_add ev_1111 nc_1065.1 (bkc (x := 1) (c := 1) (by decide)) (by decide)
                    have bv_1111 : (1 : Int) ≤ v_1111.toInt ∧ v_1111.toInt ≤ 60 := bq_add qv_1111 nc_1065.1 (bkc (x := 1) (c := 1) (by decide)) _ _ (by decide)
                    have qv_1111 : v_1111.toInt = v_1056.toInt + (1) := qv_1111
                    refine lv_iinc (v := v_1111) (lv' := [(6, .int v_1111), (0, .ref ob), (1, .int 1), (2, .int a2), (3, .int 1), (4, .int a4), (5, .int a5)]) hx hb dX10_paste_141 hl (k := 0) rfl (ev_1111.symm) (by decide) rfl (fun ls hl => ?_)
                    refine lv_goto (tgt := 113) hx hb dX10_paste_144 (by decide) ?_
                    exact ih_1064 _ (ml_inc (hi := 60) hn_1064 qv_1111 (by decide) ((bw (0) (60) bv_1111 (by decide))).2) _ _ _ _ ⟨v_1111, f_1110, rfl, (bw (0) (60) bv_1111 (by decide)), (ml_s rl1057_0 hf_1110 ev_1109 (by omega) (by omega) (by omega) (by omega)), rfl, ⟨hP, hD⟩, hS, lv_sub hl [0, 1, 2, 3, 4, 5, 6] rfl⟩
                · skip
                  have nc_1028 := jl_nle c_1028
                  refine lv_bipush (v := (-7)) hx hb dX10_paste_107 (by decide) ?_
                  exact W.iret (v := (-7)) hx hb hr (fun t ht hW => ⟨⟨(-7), _, rfl, Or.inr (Or.inl (⟨by have h90 : Int32.toInt (-7) = -7 := (by decide); have h91 : Int32.toInt 1 = 1 := (by decide); omega, rfl, rfl⟩)), by rw [ht]; exact hP, hD⟩, hS.F ht⟩) hS.2.2 dX10_paste_109

set_option maxHeartbeats 4000000 in
set_option maxRecDepth 100000 in
theorem fpasteM12 (l : Launch) (G : va_G) (y : Nat → ClassId) (sz : Nat) (ob : Nat) (a2 : Int32) (a4 : Int32) (a5 : Int32) (ob_thrown : Int32) (ob_world : Nat) (ob_images : Nat) (ob_hasImage : Nat) (ob_tape : Nat) (ob_taped : Int32) (ob_five : Nat) (ob_size : Int32) (ob_at : Int32) (ob_from : Int32) (ob_token : Int32) (ob_value : Int32) (ob_faultKind : Int32) (ob_faultPlace : Int32) (ob_fresh : Nat) (ob_parts : Nat) (ob_houses : Nat) (ob_houseMany : Int32) (ob_worthOf : Nat) (ob_byCall : Nat) (ob_over : Nat) (ob_bestSet : Int32) (ob_bestOver : Int32) (ob_bestWorth : Int32) (ob_row : Nat) (ob_tenDebts : Nat) (ob_tenMany : Int32) (ob_fewestBy : Nat) (ob_covered : Nat) (ob_queue : Nat) (ob_cameBy : Nat) (ob_parent : Nat) (ob_met : Nat) (ob_calls : Nat) (ob_callMany : Int32) (ob_calledOn : Nat) (ob_saved : Nat) (ob_many : Nat) (ob_width : Nat) (ob_numbers : Nat) (ob_moving : Nat) (fob_many : Nat → Int32) (fob_width : Nat → Int32) (fob_numbers : Nat → Int64) (fob_moving : Nat → Int64) (p_ob_taped : (0 : Int) ≤ ob_taped.toInt ∧ ob_taped.toInt ≤ 1400) (p_ob_size : (0 : Int) ≤ ob_size.toInt ∧ ob_size.toInt ≤ 1400) (p_ob_at : (0 : Int) ≤ ob_at.toInt ∧ ob_at.toInt ≤ 1400) (p_ob_from : (0 : Int) ≤ ob_from.toInt ∧ ob_from.toInt ≤ 1400) (p_ob_token : (0 : Int) ≤ ob_token.toInt ∧ ob_token.toInt ≤ 4) (p_ob_value : (0 : Int) ≤ ob_value.toInt ∧ ob_value.toInt ≤ 9999) (p_ob_faultKind : (0 : Int) ≤ ob_faultKind.toInt ∧ ob_faultKind.toInt ≤ 3) (p_ob_houseMany : (0 : Int) ≤ ob_houseMany.toInt ∧ ob_houseMany.toInt ≤ 10) (p_ob_bestSet : (0 : Int) ≤ ob_bestSet.toInt ∧ ob_bestSet.toInt ≤ 1023) (p_ob_bestOver : (-1 : Int) ≤ ob_bestOver.toInt ∧ ob_bestOver.toInt ≤ 180) (p_ob_tenMany : (0 : Int) ≤ ob_tenMany.toInt ∧ ob_tenMany.toInt ≤ 10) (p_ob_callMany : (0 : Int) ≤ ob_callMany.toInt ∧ ob_callMany.toInt ≤ 16) (p_fob_many : ∀ i, (-1 : Int) ≤ (fob_many i).toInt ∧ (fob_many i).toInt ≤ 60) (p_fob_width : ∀ i, (0 : Int) ≤ (fob_width i).toInt ∧ (fob_width i).toInt ≤ 3) : Met l yX10_paste (Cond.code yX10_paste cX10_paste 7 (some .int) :: wAll) ({ frames := 2, cells := 0, slots := 0, locals := 45 }) (va_Pc [.ref ob, .int 1, .int a2, .int 2, .int a4, .int a5] (kp G y sz [(ce_X10 ob ob_thrown ob_world ob_images ob_hasImage ob_tape ob_taped ob_five ob_size ob_at ob_from ob_token ob_value ob_faultKind ob_faultPlace ob_fresh ob_parts ob_houses ob_houseMany ob_worthOf ob_byCall ob_over ob_bestSet ob_bestOver ob_bestWorth ob_row ob_tenDebts ob_tenMany ob_fewestBy ob_covered ob_queue ob_cameBy ob_parent ob_met ob_calls ob_callMany ob_calledOn ob_saved ob_many ob_width ob_numbers ob_moving), (ce_i4 y ob_many fob_many), (ce_i4 y ob_width fob_width), (ce_l240 y ob_numbers fob_numbers), (ce_l60 y ob_moving fob_moving)])) (va_Qi (fun (r : Int32) (w : va_W) => (((fob_many 1).toInt = -1 ∨ (fob_many 2).toInt = -1) ∧ r = (-6) ∧ w = [(ce_X10 ob ob_thrown ob_world ob_images ob_hasImage ob_tape ob_taped ob_five ob_size ob_at ob_from ob_token ob_value ob_faultKind ob_faultPlace ob_fresh ob_parts ob_houses ob_houseMany ob_worthOf ob_byCall ob_over ob_bestSet ob_bestOver ob_bestWorth ob_row ob_tenDebts ob_tenMany ob_fewestBy ob_covered ob_queue ob_cameBy ob_parent ob_met ob_calls ob_callMany ob_calledOn ob_saved ob_many ob_width ob_numbers ob_moving), (ce_i4 y ob_many fob_many), (ce_i4 y ob_width fob_width), (ce_l240 y ob_numbers fob_numbers), (ce_l60 y ob_moving fob_moving)]) ∨ ((¬ (fob_many 1).toInt = -1 ∧ ¬ (fob_many 2).toInt = -1 ∧ (fob_width 1).toInt = (fob_width 2).toInt ∧ ¬ (0 ≤ a2.toInt ∧ 0 ≤ a4.toInt ∧ 0 ≤ a5.toInt ∧ a2.toInt + a5.toInt ≤ (fob_many 1).toInt ∧ a4.toInt + a5.toInt ≤ (fob_many 2).toInt)) ∧ r = (-7) ∧ w = [(ce_X10 ob ob_thrown ob_world ob_images ob_hasImage ob_tape ob_taped ob_five ob_size ob_at ob_from ob_token ob_value ob_faultKind ob_faultPlace ob_fresh ob_parts ob_houses ob_houseMany ob_worthOf ob_byCall ob_over ob_bestSet ob_bestOver ob_bestWorth ob_row ob_tenDebts ob_tenMany ob_fewestBy ob_covered ob_queue ob_cameBy ob_parent ob_met ob_calls ob_callMany ob_calledOn ob_saved ob_many ob_width ob_numbers ob_moving), (ce_i4 y ob_many fob_many), (ce_i4 y ob_width fob_width), (ce_l240 y ob_numbers fob_numbers), (ce_l60 y ob_moving fob_moving)]) ∨ ((¬ (fob_many 1).toInt = -1 ∧ ¬ (fob_many 2).toInt = -1 ∧ ¬ (fob_width 1).toInt = (fob_width 2).toInt) ∧ r = (-8) ∧ w = [(ce_X10 ob ob_thrown ob_world ob_images ob_hasImage ob_tape ob_taped ob_five ob_size ob_at ob_from ob_token ob_value ob_faultKind ob_faultPlace ob_fresh ob_parts ob_houses ob_houseMany ob_worthOf ob_byCall ob_over ob_bestSet ob_bestOver ob_bestWorth ob_row ob_tenDebts ob_tenMany ob_fewestBy ob_covered ob_queue ob_cameBy ob_parent ob_met ob_calls ob_callMany ob_calledOn ob_saved ob_many ob_width ob_numbers ob_moving), (ce_i4 y ob_many fob_many), (ce_i4 y ob_width fob_width), (ce_l240 y ob_numbers fob_numbers), (ce_l60 y ob_moving fob_moving)]) ∨ (∃ (f_227 : Nat → Int64) (f_228 : Nat → Int64), ((0 : Int) ≤ a2.toInt ∧ a2.toInt ≤ 60) ∧ ((0 : Int) ≤ a4.toInt ∧ a4.toInt ≤ 60) ∧ ((0 : Int) ≤ a5.toInt ∧ a5.toInt ≤ 60) ∧ (¬ (fob_many 1).toInt = -1 ∧ ¬ (fob_many 2).toInt = -1 ∧ (fob_width 1).toInt = (fob_width 2).toInt ∧ 0 ≤ a2.toInt ∧ 0 ≤ a4.toInt ∧ 0 ≤ a5.toInt ∧ a2.toInt + a5.toInt ≤ (fob_many 1).toInt ∧ a4.toInt + a5.toInt ≤ (fob_many 2).toInt) ∧ (pL f_227 fob_numbers (60 + a2.toInt.toNat) (120 + a4.toInt.toNat) a5.toInt) ∧ r = 0 ∧ w = [(ce_X10 ob ob_thrown ob_world ob_images ob_hasImage ob_tape ob_taped ob_five ob_size ob_at ob_from ob_token ob_value ob_faultKind ob_faultPlace ob_fresh ob_parts ob_houses ob_houseMany ob_worthOf ob_byCall ob_over ob_bestSet ob_bestOver ob_bestWorth ob_row ob_tenDebts ob_tenMany ob_fewestBy ob_covered ob_queue ob_cameBy ob_parent ob_met ob_calls ob_callMany ob_calledOn ob_saved ob_many ob_width ob_numbers ob_moving), (ce_i4 y ob_many fob_many), (ce_i4 y ob_width fob_width), (ce_l240 y ob_numbers f_227), (ce_l60 y ob_moving f_228)])) (kq G (va_A [(ce_X10 ob ob_thrown ob_world ob_images ob_hasImage ob_tape ob_taped ob_five ob_size ob_at ob_from ob_token ob_value ob_faultKind ob_faultPlace ob_fresh ob_parts ob_houses ob_houseMany ob_worthOf ob_byCall ob_over ob_bestSet ob_bestOver ob_bestWorth ob_row ob_tenDebts ob_tenMany ob_fewestBy ob_covered ob_queue ob_cameBy ob_parent ob_met ob_calls ob_callMany ob_calledOn ob_saved ob_many ob_width ob_numbers ob_moving), (ce_i4 y ob_many fob_many), (ce_i4 y ob_width fob_width), (ce_l240 y ob_numbers fob_numbers), (ce_l60 y ob_moving fob_moving)] sz)) (va_A [(ce_X10 ob ob_thrown ob_world ob_images ob_hasImage ob_tape ob_taped ob_five ob_size ob_at ob_from ob_token ob_value ob_faultKind ob_faultPlace ob_fresh ob_parts ob_houses ob_houseMany ob_worthOf ob_byCall ob_over ob_bestSet ob_bestOver ob_bestWorth ob_row ob_tenDebts ob_tenMany ob_fewestBy ob_covered ob_queue ob_cameBy ob_parent ob_met ob_calls ob_callMany ob_calledOn ob_saved ob_many ob_width ob_numbers ob_moving), (ce_i4 y ob_many fob_many), (ce_i4 y ob_width fob_width), (ce_l240 y ob_numbers fob_numbers), (ce_l60 y ob_moving fob_moving)] sz)) 0 0 (va_A [(ce_X10 ob ob_thrown ob_world ob_images ob_hasImage ob_tape ob_taped ob_five ob_size ob_at ob_from ob_token ob_value ob_faultKind ob_faultPlace ob_fresh ob_parts ob_houses ob_houseMany ob_worthOf ob_byCall ob_over ob_bestSet ob_bestOver ob_bestWorth ob_row ob_tenDebts ob_tenMany ob_fewestBy ob_covered ob_queue ob_cameBy ob_parent ob_met ob_calls ob_callMany ob_calledOn ob_saved ob_many ob_width ob_numbers ob_moving), (ce_i4 y ob_many fob_many), (ce_i4 y ob_width fob_width), (ce_l240 y ob_numbers fob_numbers), (ce_l60 y ob_moving fob_moving)] sz) := by
  refine Met.ofW (cc := cX10_paste) (maxL := 7) (ret := (some .int)) (by decide) rfl ?_
  intro p e s m args below meth c s₁ B hml hv
  obtain ⟨rfl, hsz, hP, hK, hD0⟩ := hv
  have hx := B.exec
  have hb := B.bytes
  have hr := B.returns
  have hw0 : ∀ w ∈ wAll, w.before _ s = true := fun w h => atoms_spec (ws := Cond.code yX10_paste cX10_paste 7 (some .int) :: wAll) B.pre w (List.mem_cons_of_mem _ h)
  have hown : s.vm.findClass RX10 = some m.cls := findClass_of_methodNamed B.named
  subst hsz
  have hD := hD0.self (sz := s.heap.size)
  generalize hAe : va_A [(ce_X10 ob ob_thrown ob_world ob_images ob_hasImage ob_tape ob_taped ob_five ob_size ob_at ob_from ob_token ob_value ob_faultKind ob_faultPlace ob_fresh ob_parts ob_houses ob_houseMany ob_worthOf ob_byCall ob_over ob_bestSet ob_bestOver ob_bestWorth ob_row ob_tenDebts ob_tenMany ob_fewestBy ob_covered ob_queue ob_cameBy ob_parent ob_met ob_calls ob_callMany ob_calledOn ob_saved ob_many ob_width ob_numbers ob_moving), (ce_i4 y ob_many fob_many), (ce_i4 y ob_width fob_width), (ce_l240 y ob_numbers fob_numbers), (ce_l60 y ob_moving fob_moving)] s.heap.size = A at hD ⊢
  have hA : ∀ q : Nat, s.heap.size ≤ q → A q := fun q h => by rw [← hAe]; exact Or.inr h
  have hS : va_S A s.heap s.heap [] := va_S.rf
  have hP : va_P G vwCl [(ce_X10 ob ob_thrown ob_world ob_images ob_hasImage ob_tape ob_taped ob_five ob_size ob_at ob_from ob_token ob_value ob_faultKind ob_faultPlace ob_fresh ob_parts ob_houses ob_houseMany ob_worthOf ob_byCall ob_over ob_bestSet ob_bestOver ob_bestWorth ob_row ob_tenDebts ob_tenMany ob_fewestBy ob_covered ob_queue ob_cameBy ob_parent ob_met ob_calls ob_callMany ob_calledOn ob_saved ob_many ob_width ob_numbers ob_moving), (ce_i4 y ob_many fob_many), (ce_i4 y ob_width fob_width), (ce_l240 y ob_numbers fob_numbers), (ce_l60 y ob_moving fob_moving)] s.heap := hP
  have hl := lv_entry ([.ref ob, .int 1, .int a2, .int 2, .int a4, .int a5]) (n := 7) (Nat.le_of_ble_eq_true rfl)
  rw [lg_entry_eq]
  generalize (lg_sl ([.ref ob, .int 1, .int a2, .int 2, .int a4, .int a5]) ++ List.replicate (7 - (lg_sl ([.ref ob, .int 1, .int a2, .int 2, .int a4, .int a5])).length) Slot.unset).toArray = ls at hl ⊢
  have hl : lv_has ls 7 [(0, .ref ob), (1, .int 1), (2, .int a2), (3, .int 2), (4, .int a4), (5, .int a5)] := hl
  refine lv_iload_n hx hb dX10_paste_0 rfl (lv_at hl 1 rfl) ?_
  refine cSim (As := [.int 1]) (rest := []) ⟨hx, hb, hml, hown, hw0⟩ hA hK hP hD hS [] (gisSlotM l G y _ 1 ) rfl ⟨(callB_of 1 hw0 (gA m_543) rfl rfl rfl (hw0 _ m_41) (hw0 _ m_433) cb_X10_isSlot ⟨Nat.le_of_ble_eq_true rfl, Nat.le_of_ble_eq_true rfl⟩), (hw0 _ m_434)⟩ rfl hl.1 (Nat.le_of_ble_eq_true rfl) dX10_paste_1 ⟨Nat.le_of_ble_eq_true rfl, Nat.le_of_ble_eq_true rfl⟩ (fun r_1001 w_1001 H locs hw_1001 hP hD hS => ?_)
  rcases hw_1001 with ⟨h_1002, rfl, rfl⟩ | ⟨h_1003, h_1004, rfl, rfl⟩
  · skip
    exact False.elim (by have h9 : Int32.toInt 1 = 1 := (by decide); omega)
  · skip
    obtain ⟨hP, hD⟩ : vPD G A H [(ce_X10 ob ob_thrown ob_world ob_images ob_hasImage ob_tape ob_taped ob_five ob_size ob_at ob_from ob_token ob_value ob_faultKind ob_faultPlace ob_fresh ob_parts ob_houses ob_houseMany ob_worthOf ob_byCall ob_over ob_bestSet ob_bestOver ob_bestWorth ob_row ob_tenDebts ob_tenMany ob_fewestBy ob_covered ob_queue ob_cameBy ob_parent ob_met ob_calls ob_callMany ob_calledOn ob_saved ob_many ob_width ob_numbers ob_moving), (ce_i4 y ob_many fob_many), (ce_i4 y ob_width fob_width), (ce_l240 y ob_numbers fob_numbers), (ce_l60 y ob_moving fob_moving)] := ⟨hP, hD⟩
    refine lv_if_eq (tgt := 14) hx hb dX10_paste_4 (by decide) (fun c9 => absurd c9 (by decide)) (fun _ => ?_)
    refine lv_iload_n hx hb dX10_paste_7 rfl (lv_at hl 3 rfl) ?_
    refine cSim (As := [.int 2]) (rest := []) ⟨hx, hb, hml, hown, hw0⟩ hA hK hP hD hS [] (gisSlotM l G y _ 2 ) rfl ⟨(callB_of 1 hw0 (gA m_543) rfl rfl rfl (hw0 _ m_41) (hw0 _ m_433) cb_X10_isSlot ⟨Nat.le_of_ble_eq_true rfl, Nat.le_of_ble_eq_true rfl⟩), (hw0 _ m_434)⟩ rfl hl.1 (Nat.le_of_ble_eq_true rfl) dX10_paste_8 ⟨Nat.le_of_ble_eq_true rfl, Nat.le_of_ble_eq_true rfl⟩ (fun r_1005 w_1005 H locs hw_1005 hP hD hS => ?_)
    rcases hw_1005 with ⟨h_1006, rfl, rfl⟩ | ⟨h_1007, h_1008, rfl, rfl⟩
    · skip
      exact False.elim (by have h9 : Int32.toInt 2 = 2 := (by decide); omega)
    · skip
      obtain ⟨hP, hD⟩ : vPD G A H [(ce_X10 ob ob_thrown ob_world ob_images ob_hasImage ob_tape ob_taped ob_five ob_size ob_at ob_from ob_token ob_value ob_faultKind ob_faultPlace ob_fresh ob_parts ob_houses ob_houseMany ob_worthOf ob_byCall ob_over ob_bestSet ob_bestOver ob_bestWorth ob_row ob_tenDebts ob_tenMany ob_fewestBy ob_covered ob_queue ob_cameBy ob_parent ob_met ob_calls ob_callMany ob_calledOn ob_saved ob_many ob_width ob_numbers ob_moving), (ce_i4 y ob_many fob_many), (ce_i4 y ob_width fob_width), (ce_l240 y ob_numbers fob_numbers), (ce_l60 y ob_moving fob_moving)] := ⟨hP, hD⟩
      refine lv_if_ne (tgt := 17) hx hb dX10_paste_11 (by decide) (fun _ => ?_) (fun c9 => absurd c9 (by decide))
      refine lv_aload_n hx hb dX10_paste_17 rfl (lv_at hl 0 rfl) ?_
      refine va_get (D := G) (ci := 10) (v := .ref ob_many) (C := RX10) (T := TX10) (N := 41) hx hb hw0 inA_wsX100 hown hK.1 hP 0 rfl rfl 37 (by decide) (hw0 _ m_406) (fun _ h9 => h9) rfl dX10_paste_18 ?_
      refine lv_iload_n hx hb dX10_paste_21 rfl (lv_at hl 1 rfl) ?_
      refine va_iald hx hb hK.1 hP 1 1 rfl rfl (vi (bkc (x := 1) (c := 1) (by decide)) (by decide)) dX10_paste_22 ?_
      refine lv_topi (fun v_1009 ev_1009 => ?_)
      have bv_1009 : (-1 : Int) ≤ v_1009.toInt ∧ v_1009.toInt ≤ 60 := rd_b ev_1009 p_fob_many
      have yv_1009 : v_1009.toInt = (fob_many 1).toInt := congrArg Int32.toInt ev_1009
      refine lv_iconst (v := (-1)) hx hb dX10_paste_23 (by decide) ?_
      refine lv_icmp_eq (tgt := 37) hx hb dX10_paste_24 (by decide) (fun c_1010 => ?_) (fun c_1010 => ?_)
      · skip
        have nc_1010 := nb_eq (-1) (-1) c_1010 bv_1009 (bkc (x := (-1)) (c := -1) (by decide)) (by decide)
        refine lv_bipush (v := (-6)) hx hb dX10_paste_37 (by decide) ?_
        exact W.iret (v := (-6)) hx hb hr (fun t ht hW => ⟨⟨(-6), _, rfl, Or.inl (⟨by have h90 : Int32.toInt (-6) = -6 := (by decide); have h91 : Int32.toInt 1 = 1 := (by decide); have h92 : Int32.toInt 2 = 2 := (by decide); omega, rfl, rfl⟩), by rw [ht]; exact hP, hD⟩, hS.F ht⟩) hS.2.2 dX10_paste_39
      · skip
        have nc_1010 := nb_ne (0) (60) c_1010 bv_1009 (k := -1) (by decide) (by decide)
        refine lv_aload_n hx hb dX10_paste_27 rfl (lv_at hl 0 rfl) ?_
        refine va_get (D := G) (ci := 10) (v := .ref ob_many) (C := RX10) (T := TX10) (N := 41) hx hb hw0 inA_wsX100 hown hK.1 hP 0 rfl rfl 37 (by decide) (hw0 _ m_406) (fun _ h9 => h9) rfl dX10_paste_28 ?_
        refine lv_iload_n hx hb dX10_paste_31 rfl (lv_at hl 3 rfl) ?_
        refine va_iald hx hb hK.1 hP 1 1 rfl rfl (vi (bkc (x := 2) (c := 2) (by decide)) (by decide)) dX10_paste_32 ?_
        refine lv_topi (fun v_1011 ev_1011 => ?_)
        have bv_1011 : (-1 : Int) ≤ v_1011.toInt ∧ v_1011.toInt ≤ 60 := rd_b ev_1011 p_fob_many
        have yv_1011 : v_1011.toInt = (fob_many 2).toInt := congrArg Int32.toInt ev_1011
        refine lv_iconst (v := (-1)) hx hb dX10_paste_33 (by decide) ?_
        refine lv_icmp_ne (tgt := 40) hx hb dX10_paste_34 (by decide) (fun c_1012 => ?_) (fun c_1012 => ?_)
        · skip
          have nc_1012 := nb_ne (0) (60) c_1012 bv_1011 (k := -1) (by decide) (by decide)
          refine lv_aload_n hx hb dX10_paste_40 rfl (lv_at hl 0 rfl) ?_
          refine va_get (D := G) (ci := 10) (v := .ref ob_width) (C := RX10) (T := TX10) (N := 41) hx hb hw0 inA_wsX100 hown hK.1 hP 0 rfl rfl 38 (by decide) (hw0 _ m_527) (fun _ h9 => h9) rfl dX10_paste_41 ?_
          refine lv_iload_n hx hb dX10_paste_44 rfl (lv_at hl 1 rfl) ?_
          refine va_iald hx hb hK.1 hP 2 1 rfl rfl (vi (bkc (x := 1) (c := 1) (by decide)) (by decide)) dX10_paste_45 ?_
          refine lv_topi (fun v_1013 ev_1013 => ?_)
          have bv_1013 : (0 : Int) ≤ v_1013.toInt ∧ v_1013.toInt ≤ 3 := rd_b ev_1013 p_fob_width
          have yv_1013 : v_1013.toInt = (fob_width 1).toInt := congrArg Int32.toInt ev_1013
          refine lv_aload_n hx hb dX10_paste_46 rfl (lv_at hl 0 rfl) ?_
          refine va_get (D := G) (ci := 10) (v := .ref ob_width) (C := RX10) (T := TX10) (N := 41) hx hb hw0 inA_wsX100 hown hK.1 hP 0 rfl rfl 38 (by decide) (hw0 _ m_527) (fun _ h9 => h9) rfl dX10_paste_47 ?_
          refine lv_iload_n hx hb dX10_paste_50 rfl (lv_at hl 3 rfl) ?_
          refine va_iald hx hb hK.1 hP 2 1 rfl rfl (vi (bkc (x := 2) (c := 2) (by decide)) (by decide)) dX10_paste_51 ?_
          refine lv_topi (fun v_1014 ev_1014 => ?_)
          have bv_1014 : (0 : Int) ≤ v_1014.toInt ∧ v_1014.toInt ≤ 3 := rd_b ev_1014 p_fob_width
          have yv_1014 : v_1014.toInt = (fob_width 2).toInt := congrArg Int32.toInt ev_1014
          refine lv_icmp_eq (tgt := 58) hx hb dX10_paste_52 (by decide) (fun c_1015 => ?_) (fun c_1015 => ?_)
          · skip
            have nc_1015 := nb_eq (0) (3) c_1015 bv_1013 bv_1014 (by decide)
            refine lv_iload_n hx hb dX10_paste_58 rfl (lv_at hl 2 rfl) ?_
            refine lv_if_lt (tgt := 107) hx hb dX10_paste_59 (by decide) (fun c_1016 => ?_) (fun c_1016 => ?_)
            · skip
              have nc_1016 := nb_lt (-1) (0) c_1016 (btop a2) (bkc (x := 0) (c := 0) (by decide)) (by decide)
              refine lv_bipush (v := (-7)) hx hb dX10_paste_107 (by decide) ?_
              exact W.iret (v := (-7)) hx hb hr (fun t ht hW => ⟨⟨(-7), _, rfl, Or.inr (Or.inl (⟨by have h90 : Int32.toInt (-7) = -7 := (by decide); have h91 : Int32.toInt 1 = 1 := (by decide); have h92 : Int32.toInt 2 = 2 := (by decide); omega, rfl, rfl⟩)), by rw [ht]; exact hP, hD⟩, hS.F ht⟩) hS.2.2 dX10_paste_109
            · skip
              have nc_1016 := nb_nlt (0) (0) c_1016 (bkc (x := 0) (c := 0) (by decide)) (btop a2) (by decide)
              refine lv_iload hx hb dX10_paste_62 (lv_at hl 4 rfl) ?_
              refine lv_if_lt (tgt := 107) hx hb dX10_paste_64 (by decide) (fun c_1017 => ?_) (fun c_1017 => ?_)
              · skip
                have nc_1017 := nb_lt (-1) (0) c_1017 (btop a4) (bkc (x := 0) (c := 0) (by decide)) (by decide)
                refine lv_bipush (v := (-7)) hx hb dX10_paste_107 (by decide) ?_
                exact W.iret (v := (-7)) hx hb hr (fun t ht hW => ⟨⟨(-7), _, rfl, Or.inr (Or.inl (⟨by have h90 : Int32.toInt (-7) = -7 := (by decide); have h91 : Int32.toInt 1 = 1 := (by decide); have h92 : Int32.toInt 2 = 2 := (by decide); omega, rfl, rfl⟩)), by rw [ht]; exact hP, hD⟩, hS.F ht⟩) hS.2.2 dX10_paste_109
              · skip
                have nc_1017 := nb_nlt (0) (0) c_1017 (bkc (x := 0) (c := 0) (by decide)) (btop a4) (by decide)
                refine lv_iload hx hb dX10_paste_67 (lv_at hl 5 rfl) ?_
                refine lv_if_lt (tgt := 107) hx hb dX10_paste_69 (by decide) (fun c_1018 => ?_) (fun c_1018 => ?_)
                · skip
                  have nc_1018 := nb_lt (-1) (0) c_1018 (btop a5) (bkc (x := 0) (c := 0) (by decide)) (by decide)
                  refine lv_bipush (v := (-7)) hx hb dX10_paste_107 (by decide) ?_
                  exact W.iret (v := (-7)) hx hb hr (fun t ht hW => ⟨⟨(-7), _, rfl, Or.inr (Or.inl (⟨by have h90 : Int32.toInt (-7) = -7 := (by decide); have h91 : Int32.toInt 1 = 1 := (by decide); have h92 : Int32.toInt 2 = 2 := (by decide); omega, rfl, rfl⟩)), by rw [ht]; exact hP, hD⟩, hS.F ht⟩) hS.2.2 dX10_paste_109
                · skip
                  have nc_1018 := nb_nlt (0) (0) c_1018 (bkc (x := 0) (c := 0) (by decide)) (btop a5) (by decide)
                  refine lv_iload_n hx hb dX10_paste_72 rfl (lv_at hl 2 rfl) ?_
                  refine lv_i2l hx hb dX10_paste_73 rfl ?_
                  have kk_1019 : ((a2).toInt64).toInt = (a2).toInt := Int32.toInt_toInt64 _
                  refine lv_iload hx hb dX10_paste_74 (lv_at hl 5 rfl) ?_
                  refine lv_i2l hx hb dX10_paste_76 rfl ?_
                  have kk_1020 : ((a5).toInt64).toInt = (a5).toInt := Int32.toInt_toInt64 _
                  refine lv_ladd hx hb dX10_paste_77 ?_
                  refine lv_topl (fun v_1021 ev_1021 => ?_)
                  have qv_1021 := la_add ev_1021
                  refine lv_aload_n hx hb dX10_paste_78 rfl (lv_at hl 0 rfl) ?_
                  refine va_get (D := G) (ci := 10) (v := .ref ob_many) (C := RX10) (T := TX10) (N := 41) hx hb hw0 inA_wsX100 hown hK.1 hP 0 rfl rfl 37 (by decide) (hw0 _ m_406) (fun _ h9 => h9) rfl dX10_paste_79 ?_
                  refine lv_iload_n hx hb dX10_paste_82 rfl (lv_at hl 1 rfl) ?_
                  refine va_iald hx hb hK.1 hP 1 1 rfl rfl (vi (bkc (x := 1) (c := 1) (by decide)) (by decide)) dX10_paste_83 ?_
                  refine lv_topi (fun v_1022 ev_1022 => ?_)
                  obtain rfl : v_1009 = v_1022 := (ev_1022.trans (ev_1009.symm)).symm
                  refine lv_i2l hx hb dX10_paste_84 rfl ?_
                  have kk_1023 : ((v_1009).toInt64).toInt = (v_1009).toInt := Int32.toInt_toInt64 _
                  refine W.lcmp hx hb dX10_paste_85 ?_
                  refine lv_if_gt (tgt := 107) hx hb dX10_paste_86 (by decide) (fun c_1024 => ?_) (fun c_1024 => ?_)
                  · skip
                    have nc_1024 := jl_gt c_1024
                    refine lv_bipush (v := (-7)) hx hb dX10_paste_107 (by decide) ?_
                    exact W.iret (v := (-7)) hx hb hr (fun t ht hW => ⟨⟨(-7), _, rfl, Or.inr (Or.inl (⟨by have h90 : Int32.toInt (-7) = -7 := (by decide); have h91 : Int32.toInt 1 = 1 := (by decide); have h92 : Int32.toInt 2 = 2 := (by decide); omega, rfl, rfl⟩)), by rw [ht]; exact hP, hD⟩, hS.F ht⟩) hS.2.2 dX10_paste_109
                  · skip
                    have nc_1024 := jl_ngt c_1024
                    refine lv_iload hx hb dX10_paste_89 (lv_at hl 4 rfl) ?_
                    refine lv_i2l hx hb dX10_paste_91 rfl ?_
                    have kk_1025 : ((a4).toInt64).toInt = (a4).toInt := Int32.toInt_toInt64 _
                    refine lv_iload hx hb dX10_paste_92 (lv_at hl 5 rfl) ?_
                    refine lv_i2l hx hb dX10_paste_94 rfl ?_
                    have kk_1026 : ((a5).toInt64).toInt = (a5).toInt := Int32.toInt_toInt64 _
                    refine lv_ladd hx hb dX10_paste_95 ?_
                    refine lv_topl (fun v_1027 ev_1027 => ?_)
                    have qv_1027 := la_add ev_1027
                    refine lv_aload_n hx hb dX10_paste_96 rfl (lv_at hl 0 rfl) ?_
                    refine va_get (D := G) (ci := 10) (v := .ref ob_many) (C := RX10) (T := TX10) (N := 41) hx hb hw0 inA_wsX100 hown hK.1 hP 0 rfl rfl 37 (by decide) (hw0 _ m_406) (fun _ h9 => h9) rfl dX10_paste_97 ?_
                    refine lv_iload_n hx hb dX10_paste_100 rfl (lv_at hl 3 rfl) ?_
                    refine va_iald hx hb hK.1 hP 1 1 rfl rfl (vi (bkc (x := 2) (c := 2) (by decide)) (by decide)) dX10_paste_101 ?_
                    refine lv_topi (fun v_1028 ev_1028 => ?_)
                    obtain rfl : v_1011 = v_1028 := (ev_1028.trans (ev_1011.symm)).symm
                    refine lv_i2l hx hb dX10_paste_102 rfl ?_
                    have kk_1029 : ((v_1011).toInt64).toInt = (v_1011).toInt := Int32.toInt_toInt64 _
                    refine W.lcmp hx hb dX10_paste_103 ?_
                    refine lv_if_le (tgt := 110) hx hb dX10_paste_104 (by decide) (fun c_1030 => ?_) (fun c_1030 => ?_)
                    · skip
                      have nc_1030 := jl_le c_1030
                      have h_1031 : (0 : Int) ≤ a2.toInt ∧ a2.toInt ≤ 60 := by omega
                      have h_1032 : (0 : Int) ≤ a4.toInt ∧ a4.toInt ≤ 60 := by omega
                      have h_1033 : (0 : Int) ≤ a5.toInt ∧ a5.toInt ≤ 60 := by omega
                      refine lv_iconst (v := 0) hx hb dX10_paste_110 (by decide) ?_
                      refine lv_istore (lv' := [(6, .int 0), (0, .ref ob), (1, .int 1), (2, .int a2), (3, .int 2), (4, .int a4), (5, .int a5)]) hx hb dX10_paste_111 hl (by decide) rfl (fun ls hl => ?_)
                      refine loopX (fun n H locs ls st => ∃ (v_1058 : Int32) (f_1059 : Nat → Int64), (60 - v_1058.toInt).toNat = n ∧ ((0 : Int) ≤ v_1058.toInt ∧ v_1058.toInt ≤ 60) ∧ (mL f_1059 fob_numbers (60 + a2.toInt.toNat) v_1058.toInt) ∧ st = [] ∧ vPD G A H [(ce_X10 ob ob_thrown ob_world ob_images ob_hasImage ob_tape ob_taped ob_five ob_size ob_at ob_from ob_token ob_value ob_faultKind ob_faultPlace ob_fresh ob_parts ob_houses ob_houseMany ob_worthOf ob_byCall ob_over ob_bestSet ob_bestOver ob_bestWorth ob_row ob_tenDebts ob_tenMany ob_fewestBy ob_covered ob_queue ob_cameBy ob_parent ob_met ob_calls ob_callMany ob_calledOn ob_saved ob_many ob_width ob_numbers ob_moving), (ce_i4 y ob_many fob_many), (ce_i4 y ob_width fob_width), (ce_l240 y ob_numbers fob_numbers), (ce_l60 y ob_moving f_1059)] ∧ va_S A s.heap H locs ∧ lv_has ls 7 [(6, .int v_1058), (0, .ref ob), (1, .int 1), (2, .int a2), (3, .int 2), (4, .int a4), (5, .int a5)]) ?_ (n := (60 - (0 : Int32).toInt).toNat) ⟨0, fob_moving, rfl, (bw (0) (60) (bkc (x := 0) (c := 0) (by decide)) (by decide)), (ml_0 (by have h90 : Int32.toInt 0 = 0 := (by decide); have h91 : Int32.toInt 1 = 1 := (by decide); have h92 : Int32.toInt 2 = 2 := (by decide); omega)), rfl, ⟨hP, hD⟩, hS, lv_sub hl [0, 1, 2, 3, 4, 5, 6] rfl⟩
                      rintro n ih_1066 H locs ls st ⟨v_1058, f_1059, hn_1066, bv_1058, rl1059_0, rfl, ⟨hP, hD⟩, hS, hl⟩
                      refine lv_iload hx hb dX10_paste_113 (lv_at hl 0 rfl) ?_
                      refine lv_iload hx hb dX10_paste_115 (lv_at hl 6 rfl) ?_
                      refine lv_icmp_ge (tgt := 147) hx hb dX10_paste_117 (by decide) (fun c_1067 => ?_) (fun c_1067 => ?_)
                      · skip
                        have nc_1067 := nb_le (60) (0) c_1067 h_1033 bv_1058 (by decide)
                        refine lv_iconst (v := 0) hx hb dX10_paste_147 (by decide) ?_
                        refine lv_istore (lv' := [(6, .int 0), (0, .ref ob), (1, .int 1), (2, .int a2), (3, .int 2), (4, .int a4), (5, .int a5)]) hx hb dX10_paste_148 hl (by decide) rfl (fun ls hl => ?_)
                        refine loopX (fun n H locs ls st => ∃ (v_1092 : Int32) (f_1093 : Nat → Int64), (60 - v_1092.toInt).toNat = n ∧ ((0 : Int) ≤ v_1092.toInt ∧ v_1092.toInt ≤ 60) ∧ (nL f_1093 fob_numbers f_1059 (120 + a4.toInt.toNat) v_1092.toInt) ∧ (v_1092.toInt ≤ a5.toInt) ∧ st = [] ∧ vPD G A H [(ce_X10 ob ob_thrown ob_world ob_images ob_hasImage ob_tape ob_taped ob_five ob_size ob_at ob_from ob_token ob_value ob_faultKind ob_faultPlace ob_fresh ob_parts ob_houses ob_houseMany ob_worthOf ob_byCall ob_over ob_bestSet ob_bestOver ob_bestWorth ob_row ob_tenDebts ob_tenMany ob_fewestBy ob_covered ob_queue ob_cameBy ob_parent ob_met ob_calls ob_callMany ob_calledOn ob_saved ob_many ob_width ob_numbers ob_moving), (ce_i4 y ob_many fob_many), (ce_i4 y ob_width fob_width), (ce_l240 y ob_numbers f_1093), (ce_l60 y ob_moving f_1059)] ∧ va_S A s.heap H locs ∧ lv_has ls 7 [(6, .int v_1092), (0, .ref ob), (3, .int 2), (4, .int a4), (5, .int a5)]) ?_ (n := (60 - (0 : Int32).toInt).toNat) ⟨0, fob_numbers, rfl, (bw (0) (60) (bkc (x := 0) (c := 0) (by decide)) (by decide)), (nl_0 (by have h90 : Int32.toInt 0 = 0 := (by decide); have h91 : Int32.toInt 1 = 1 := (by decide); have h92 : Int32.toInt 2 = 2 := (by decide); omega)), (by have h90 : Int32.toInt 0 = 0 := (by decide); omega), rfl, ⟨hP, hD⟩, hS, lv_sub hl [0, 1, 4, 5, 6] rfl⟩
                        rintro n ih_1100 H locs ls st ⟨v_1092, f_1093, hn_1100, bv_1092, rl1093_0, rl1093_1, rfl, ⟨hP, hD⟩, hS, hl⟩
                        refine lv_iload hx hb dX10_paste_150 (lv_at hl 0 rfl) ?_
                        refine lv_iload hx hb dX10_paste_152 (lv_at hl 4 rfl) ?_
                        refine lv_icmp_ge (tgt := 185) hx hb dX10_paste_154 (by decide) (fun c_1101 => ?_) (fun c_1101 => ?_)
                        · skip
                          have nc_1101 := nb_le (60) (0) c_1101 nc_1067.1 bv_1092 (by decide)
                          refine lv_iconst (v := 0) hx hb dX10_paste_185 (by decide) ?_
                          exact W.iret (v := 0) hx hb hr (fun t ht hW => ⟨⟨0, _, rfl, Or.inr (Or.inr (Or.inr (⟨f_1093, f_1059, h_1031, h_1032, nc_1101.1, by have h90 : Int32.toInt 0 = 0 := (by decide); have h91 : Int32.toInt 2 = 2 := (by decide); omega, (pl_e rl1059_0 rl1093_0 (by omega) (by omega)), rfl, rfl⟩))), by rw [ht]; exact hP, hD⟩, hS.F ht⟩) hS.2.2 dX10_paste_186
                        · skip
                          have nc_1101 := nb_nle (59) (1) c_1101 bv_1092 nc_1067.1 (by decide)
                          refine lv_aload_n hx hb dX10_paste_157 rfl (lv_at hl 1 rfl) ?_
                          refine va_get (D := G) (ci := 10) (v := .ref ob_numbers) (C := RX10) (T := TX10) (N := 41) hx hb hw0 inA_wsX100 hown hK.1 hP 0 rfl rfl 39 (by decide) (hw0 _ m_435) (fun _ h9 => h9) rfl dX10_paste_158 ?_
                          refine lv_bipush (v := 60) hx hb dX10_paste_161 (by decide) ?_
                          refine lv_iload_n hx hb dX10_paste_163 rfl (lv_at hl 2 rfl) ?_
                          refine lv_imul hx hb dX10_paste_164 ?_
                          refine lv_topi (fun v_1102 ev_1102 => ?_)
                          obtain rfl : 120 = v_1102 := (ev_1102.trans (by decide)).symm
                          refine lv_iload hx hb dX10_paste_165 (lv_at hl 3 rfl) ?_
                          refine lv_iadd hx hb dX10_paste_167 ?_
                          refine lv_topi (fun v_1103 ev_1103 => ?_)
                          have qv_1103 := ba_add ev_1103 (bkc (x := 120) (c := 120) (by decide)) h_1032 (by decide)
                          have bv_1103 : (120 : Int) ≤ v_1103.toInt ∧ v_1103.toInt ≤ 180 := bq_add qv_1103 (bkc (x := 120) (c := 120) (by decide)) h_1032 _ _ (by decide)
                          have qv_1103 : v_1103.toInt = (120) + a4.toInt := qv_1103
                          refine lv_iload hx hb dX10_paste_168 (lv_at hl 0 rfl) ?_
                          refine lv_iadd hx hb dX10_paste_170 ?_
                          refine lv_topi (fun v_1104 ev_1104 => ?_)
                          have qv_1104 := ba_add ev_1104 bv_1103 nc_1101.1 (by decide)
                          have bv_1104 : (120 : Int) ≤ v_1104.toInt ∧ v_1104.toInt ≤ 239 := bq_add qv_1104 bv_1103 nc_1101.1 _ _ (by decide)
                          refine lv_aload_n hx hb dX10_paste_171 rfl (lv_at hl 1 rfl) ?_
                          refine va_get (D := G) (ci := 10) (v := .ref ob_moving) (C := RX10) (T := TX10) (N := 41) hx hb hw0 inA_wsX100 hown hK.1 hP 0 rfl rfl 40 (by decide) (hw0 _ m_529) (fun _ h9 => h9) rfl dX10_paste_172 ?_
                          refine lv_iload hx hb dX10_paste_175 (lv_at hl 0 rfl) ?_
                          refine va_lald hx hb hK.1 hP 4 2 rfl rfl (vi nc_1101.1 (by decide)) dX10_paste_177 ?_
                          refine lv_topl (fun v_1105 ev_1105 => ?_)
                          refine va_last hx hb hK.1 hP hD hS 3 2 rfl rfl (vi bv_1104 (by decide)) dX10_paste_178 (fun H locs hP hD hS => ?_)
                          generalize hf_1106 : (vp_updL f_1093 (v_1104 : Int32).toNatClampNeg v_1105) = f_1106 at hP hD
                          obtain ⟨hP, hD⟩ : vPD G A H [(ce_X10 ob ob_thrown ob_world ob_images ob_hasImage ob_tape ob_taped ob_five ob_size ob_at ob_from ob_token ob_value ob_faultKind ob_faultPlace ob_fresh ob_parts ob_houses ob_houseMany ob_worthOf ob_byCall ob_over ob_bestSet ob_bestOver ob_bestWorth ob_row ob_tenDebts ob_tenMany ob_fewestBy ob_covered ob_queue ob_cameBy ob_parent ob_met ob_calls ob_callMany ob_calledOn ob_saved ob_many ob_width ob_numbers ob_moving), (ce_i4 y ob_many fob_many), (ce_i4 y ob_width fob_width), (ce_l240 y ob_numbers f_1106), (ce_l60 y ob_moving f_1059)] := ⟨hP, hD⟩
                          obtain ⟨v_1107, ev_1107⟩ : ∃ z : Int32, z = v_1092 + 1 := ⟨_, rfl⟩
                          have qv_1107 := ba_add ev_1107 nc_1101.1 (bkc (x := 1) (c := 1) (by decide)) (by decide)
                          have bv_1107 : (1 : Int) ≤ v_1107.toInt ∧ v_1107.toInt ≤ 60 := bq_add qv_1107 nc_1101.1 (bkc (x := 1) (c := 1) (by decide)) _ _ (by decide)
                          have qv_1107 : v_1107.toInt = v_1092.toInt + (1) := qv_1107
                          refine lv_iinc (v := v_1107) (lv' := [(6, .int v_1107), (0, .ref ob), (3, .int 2), (4, .int a4), (5, .int a5)]) hx hb dX10_paste_179 hl (k := 0) rfl (ev_1107.symm) (by decide) rfl (fun ls hl => ?_)
                          refine lv_goto (tgt := 150) hx hb dX10_paste_182 (by decide) ?_
                          exact ih_1100 _ (ml_inc (hi := 60) hn_1100 qv_1107 (by decide) ((bw (0) (60) bv_1107 (by decide))).2) _ _ _ _ ⟨v_1107, f_1106, rfl, (bw (0) (60) bv_1107 (by decide)), (nl_s rl1093_0 hf_1106 ev_1105 (by omega) (by omega) (by omega) (by omega)), (by omega), rfl, ⟨hP, hD⟩, hS, lv_sub hl [0, 1, 2, 3, 4] rfl⟩
                      · skip
                        have nc_1067 := nb_nle (59) (1) c_1067 bv_1058 h_1033 (by decide)
                        refine lv_aload_n hx hb dX10_paste_120 rfl (lv_at hl 1 rfl) ?_
                        refine va_get (D := G) (ci := 10) (v := .ref ob_moving) (C := RX10) (T := TX10) (N := 41) hx hb hw0 inA_wsX100 hown hK.1 hP 0 rfl rfl 40 (by decide) (hw0 _ m_529) (fun _ h9 => h9) rfl dX10_paste_121 ?_
                        refine lv_iload hx hb dX10_paste_124 (lv_at hl 0 rfl) ?_
                        refine lv_aload_n hx hb dX10_paste_126 rfl (lv_at hl 1 rfl) ?_
                        refine va_get (D := G) (ci := 10) (v := .ref ob_numbers) (C := RX10) (T := TX10) (N := 41) hx hb hw0 inA_wsX100 hown hK.1 hP 0 rfl rfl 39 (by decide) (hw0 _ m_435) (fun _ h9 => h9) rfl dX10_paste_127 ?_
                        refine lv_bipush (v := 60) hx hb dX10_paste_130 (by decide) ?_
                        refine lv_iload_n hx hb dX10_paste_132 rfl (lv_at hl 2 rfl) ?_
                        refine lv_imul hx hb dX10_paste_133 ?_
                        refine lv_topi (fun v_1108 ev_1108 => ?_)
                        obtain rfl : 60 = v_1108 := (ev_1108.trans (by decide)).symm
                        refine lv_iload_n hx hb dX10_paste_134 rfl (lv_at hl 3 rfl) ?_
                        refine lv_iadd hx hb dX10_paste_135 ?_
                        refine lv_topi (fun v_1109 ev_1109 => ?_)
                        have qv_1109 := ba_add ev_1109 (bkc (x := 60) (c := 60) (by decide)) h_1031 (by decide)
                        have bv_1109 : (60 : Int) ≤ v_1109.toInt ∧ v_1109.toInt ≤ 120 := bq_add qv_1109 (bkc (x := 60) (c := 60) (by decide)) h_1031 _ _ (by decide)
                        have qv_1109 : v_1109.toInt = (60) + a2.toInt := qv_1109
                        refine lv_iload hx hb dX10_paste_136 (lv_at hl 0 rfl) ?_
                        refine lv_iadd hx hb dX10_paste_138 ?_
                        refine lv_topi (fun v_1110 ev_1110 => ?_)
                        have qv_1110 := ba_add ev_1110 bv_1109 nc_1067.1 (by decide)
                        have bv_1110 : (60 : Int) ≤ v_1110.toInt ∧ v_1110.toInt ≤ 179 := bq_add qv_1110 bv_1109 nc_1067.1 _ _ (by decide)
                        refine va_lald hx hb hK.1 hP 3 2 rfl rfl (vi bv_1110 (by decide)) dX10_paste_139 ?_
                        refine lv_topl (fun v_1111 ev_1111 => ?_)
                        refine va_last hx hb hK.1 hP hD hS 4 2 rfl rfl (vi nc_1067.1 (by decide)) dX10_paste_140 (fun H locs hP hD hS => ?_)
                        generalize hf_1112 : (vp_updL f_1059 (v_1058 : Int32).toNatClampNeg v_1111) = f_1112 at hP hD
                        obtain ⟨hP, hD⟩ : vPD G A H [(ce_X10 ob ob_thrown ob_world ob_images ob_hasImage ob_tape ob_taped ob_five ob_size ob_at ob_from ob_token ob_value ob_faultKind ob_faultPlace ob_fresh ob_parts ob_houses ob_houseMany ob_worthOf ob_byCall ob_over ob_bestSet ob_bestOver ob_bestWorth ob_row ob_tenDebts ob_tenMany ob_fewestBy ob_covered ob_queue ob_cameBy ob_parent ob_met ob_calls ob_callMany ob_calledOn ob_saved ob_many ob_width ob_numbers ob_moving), (ce_i4 y ob_many fob_many), (ce_i4 y ob_width fob_width), (ce_l240 y ob_numbers fob_numbers), (ce_l60 y ob_moving f_1112)] := ⟨hP, hD⟩
                        obtain ⟨v_1113, ev_1113⟩ : ∃ z : Int32, z = v_1058 + 1 := ⟨_, rfl⟩
                        have qv_1113 := ba_add ev_1113 nc_1067.1 (bkc (x := 1) (c := 1) (by decide)) (by decide)
                        have bv_1113 : (1 : Int) ≤ v_1113.toInt ∧ v_1113.toInt ≤ 60 := bq_add qv_1113 nc_1067.1 (bkc (x := 1) (c := 1) (by decide)) _ _ (by decide)
                        have qv_1113 : v_1113.toInt = v_1058.toInt + (1) := qv_1113
                        refine lv_iinc (v := v_1113) (lv' := [(6, .int v_1113), (0, .ref ob), (1, .int 1), (2, .int a2), (3, .int 2), (4, .int a4), (5, .int a5)]) hx hb dX10_paste_141 hl (k := 0) rfl (ev_1113.symm) (by decide) rfl (fun ls hl => ?_)
                        refine lv_goto (tgt := 113) hx hb dX10_paste_144 (by decide) ?_
                        exact ih_1066 _ (ml_inc (hi := 60) hn_1066 qv_1113 (by decide) ((bw (0) (60) bv_1113 (by decide))).2) _ _ _ _ ⟨v_1113, f_1112, rfl, (bw (0) (60) bv_1113 (by decide)), (ml_s rl1059_0 hf_1112 ev_1111 (by omega) (by omega) (by omega) (by omega)), rfl, ⟨hP, hD⟩, hS, lv_sub hl [0, 1, 2, 3, 4, 5, 6] rfl⟩
                    · skip
                      have nc_1030 := jl_nle c_1030
                      refine lv_bipush (v := (-7)) hx hb dX10_paste_107 (by decide) ?_
                      exact W.iret (v := (-7)) hx hb hr (fun t ht hW => ⟨⟨(-7), _, rfl, Or.inr (Or.inl (⟨by have h90 : Int32.toInt (-7) = -7 := (by decide); have h91 : Int32.toInt 1 = 1 := (by decide); have h92 : Int32.toInt 2 = 2 := (by decide); omega, rfl, rfl⟩)), by rw [ht]; exact hP, hD⟩, hS.F ht⟩) hS.2.2 dX10_paste_109
          · skip
            have nc_1015 : v_1013.toInt ≠ v_1014.toInt := fun h9 => c_1015 (Int32.toInt_inj.mp h9)
            refine lv_bipush (v := (-8)) hx hb dX10_paste_55 (by decide) ?_
            exact W.iret (v := (-8)) hx hb hr (fun t ht hW => ⟨⟨(-8), _, rfl, Or.inr (Or.inr (Or.inl (⟨by have h90 : Int32.toInt (-8) = -8 := (by decide); have h91 : Int32.toInt 1 = 1 := (by decide); have h92 : Int32.toInt 2 = 2 := (by decide); omega, rfl, rfl⟩))), by rw [ht]; exact hP, hD⟩, hS.F ht⟩) hS.2.2 dX10_paste_57
        · skip
          have nc_1012 := nb_eq (-1) (-1) c_1012 bv_1011 (bkc (x := (-1)) (c := -1) (by decide)) (by decide)
          refine lv_bipush (v := (-6)) hx hb dX10_paste_37 (by decide) ?_
          exact W.iret (v := (-6)) hx hb hr (fun t ht hW => ⟨⟨(-6), _, rfl, Or.inl (⟨by have h90 : Int32.toInt (-6) = -6 := (by decide); have h91 : Int32.toInt 1 = 1 := (by decide); have h92 : Int32.toInt 2 = 2 := (by decide); omega, rfl, rfl⟩), by rw [ht]; exact hP, hD⟩, hS.F ht⟩) hS.2.2 dX10_paste_39

set_option maxHeartbeats 4000000 in
set_option maxRecDepth 100000 in
theorem fpasteM13 (l : Launch) (G : va_G) (y : Nat → ClassId) (sz : Nat) (ob : Nat) (a2 : Int32) (a4 : Int32) (a5 : Int32) (ob_thrown : Int32) (ob_world : Nat) (ob_images : Nat) (ob_hasImage : Nat) (ob_tape : Nat) (ob_taped : Int32) (ob_five : Nat) (ob_size : Int32) (ob_at : Int32) (ob_from : Int32) (ob_token : Int32) (ob_value : Int32) (ob_faultKind : Int32) (ob_faultPlace : Int32) (ob_fresh : Nat) (ob_parts : Nat) (ob_houses : Nat) (ob_houseMany : Int32) (ob_worthOf : Nat) (ob_byCall : Nat) (ob_over : Nat) (ob_bestSet : Int32) (ob_bestOver : Int32) (ob_bestWorth : Int32) (ob_row : Nat) (ob_tenDebts : Nat) (ob_tenMany : Int32) (ob_fewestBy : Nat) (ob_covered : Nat) (ob_queue : Nat) (ob_cameBy : Nat) (ob_parent : Nat) (ob_met : Nat) (ob_calls : Nat) (ob_callMany : Int32) (ob_calledOn : Nat) (ob_saved : Nat) (ob_many : Nat) (ob_width : Nat) (ob_numbers : Nat) (ob_moving : Nat) (fob_many : Nat → Int32) (fob_width : Nat → Int32) (fob_numbers : Nat → Int64) (fob_moving : Nat → Int64) (p_ob_taped : (0 : Int) ≤ ob_taped.toInt ∧ ob_taped.toInt ≤ 1400) (p_ob_size : (0 : Int) ≤ ob_size.toInt ∧ ob_size.toInt ≤ 1400) (p_ob_at : (0 : Int) ≤ ob_at.toInt ∧ ob_at.toInt ≤ 1400) (p_ob_from : (0 : Int) ≤ ob_from.toInt ∧ ob_from.toInt ≤ 1400) (p_ob_token : (0 : Int) ≤ ob_token.toInt ∧ ob_token.toInt ≤ 4) (p_ob_value : (0 : Int) ≤ ob_value.toInt ∧ ob_value.toInt ≤ 9999) (p_ob_faultKind : (0 : Int) ≤ ob_faultKind.toInt ∧ ob_faultKind.toInt ≤ 3) (p_ob_houseMany : (0 : Int) ≤ ob_houseMany.toInt ∧ ob_houseMany.toInt ≤ 10) (p_ob_bestSet : (0 : Int) ≤ ob_bestSet.toInt ∧ ob_bestSet.toInt ≤ 1023) (p_ob_bestOver : (-1 : Int) ≤ ob_bestOver.toInt ∧ ob_bestOver.toInt ≤ 180) (p_ob_tenMany : (0 : Int) ≤ ob_tenMany.toInt ∧ ob_tenMany.toInt ≤ 10) (p_ob_callMany : (0 : Int) ≤ ob_callMany.toInt ∧ ob_callMany.toInt ≤ 16) (p_fob_many : ∀ i, (-1 : Int) ≤ (fob_many i).toInt ∧ (fob_many i).toInt ≤ 60) (p_fob_width : ∀ i, (0 : Int) ≤ (fob_width i).toInt ∧ (fob_width i).toInt ≤ 3) : Met l yX10_paste (Cond.code yX10_paste cX10_paste 7 (some .int) :: wAll) ({ frames := 2, cells := 0, slots := 0, locals := 45 }) (va_Pc [.ref ob, .int 1, .int a2, .int 3, .int a4, .int a5] (kp G y sz [(ce_X10 ob ob_thrown ob_world ob_images ob_hasImage ob_tape ob_taped ob_five ob_size ob_at ob_from ob_token ob_value ob_faultKind ob_faultPlace ob_fresh ob_parts ob_houses ob_houseMany ob_worthOf ob_byCall ob_over ob_bestSet ob_bestOver ob_bestWorth ob_row ob_tenDebts ob_tenMany ob_fewestBy ob_covered ob_queue ob_cameBy ob_parent ob_met ob_calls ob_callMany ob_calledOn ob_saved ob_many ob_width ob_numbers ob_moving), (ce_i4 y ob_many fob_many), (ce_i4 y ob_width fob_width), (ce_l240 y ob_numbers fob_numbers), (ce_l60 y ob_moving fob_moving)])) (va_Qi (fun (r : Int32) (w : va_W) => (((fob_many 1).toInt = -1 ∨ (fob_many 3).toInt = -1) ∧ r = (-6) ∧ w = [(ce_X10 ob ob_thrown ob_world ob_images ob_hasImage ob_tape ob_taped ob_five ob_size ob_at ob_from ob_token ob_value ob_faultKind ob_faultPlace ob_fresh ob_parts ob_houses ob_houseMany ob_worthOf ob_byCall ob_over ob_bestSet ob_bestOver ob_bestWorth ob_row ob_tenDebts ob_tenMany ob_fewestBy ob_covered ob_queue ob_cameBy ob_parent ob_met ob_calls ob_callMany ob_calledOn ob_saved ob_many ob_width ob_numbers ob_moving), (ce_i4 y ob_many fob_many), (ce_i4 y ob_width fob_width), (ce_l240 y ob_numbers fob_numbers), (ce_l60 y ob_moving fob_moving)]) ∨ ((¬ (fob_many 1).toInt = -1 ∧ ¬ (fob_many 3).toInt = -1 ∧ (fob_width 1).toInt = (fob_width 3).toInt ∧ ¬ (0 ≤ a2.toInt ∧ 0 ≤ a4.toInt ∧ 0 ≤ a5.toInt ∧ a2.toInt + a5.toInt ≤ (fob_many 1).toInt ∧ a4.toInt + a5.toInt ≤ (fob_many 3).toInt)) ∧ r = (-7) ∧ w = [(ce_X10 ob ob_thrown ob_world ob_images ob_hasImage ob_tape ob_taped ob_five ob_size ob_at ob_from ob_token ob_value ob_faultKind ob_faultPlace ob_fresh ob_parts ob_houses ob_houseMany ob_worthOf ob_byCall ob_over ob_bestSet ob_bestOver ob_bestWorth ob_row ob_tenDebts ob_tenMany ob_fewestBy ob_covered ob_queue ob_cameBy ob_parent ob_met ob_calls ob_callMany ob_calledOn ob_saved ob_many ob_width ob_numbers ob_moving), (ce_i4 y ob_many fob_many), (ce_i4 y ob_width fob_width), (ce_l240 y ob_numbers fob_numbers), (ce_l60 y ob_moving fob_moving)]) ∨ ((¬ (fob_many 1).toInt = -1 ∧ ¬ (fob_many 3).toInt = -1 ∧ ¬ (fob_width 1).toInt = (fob_width 3).toInt) ∧ r = (-8) ∧ w = [(ce_X10 ob ob_thrown ob_world ob_images ob_hasImage ob_tape ob_taped ob_five ob_size ob_at ob_from ob_token ob_value ob_faultKind ob_faultPlace ob_fresh ob_parts ob_houses ob_houseMany ob_worthOf ob_byCall ob_over ob_bestSet ob_bestOver ob_bestWorth ob_row ob_tenDebts ob_tenMany ob_fewestBy ob_covered ob_queue ob_cameBy ob_parent ob_met ob_calls ob_callMany ob_calledOn ob_saved ob_many ob_width ob_numbers ob_moving), (ce_i4 y ob_many fob_many), (ce_i4 y ob_width fob_width), (ce_l240 y ob_numbers fob_numbers), (ce_l60 y ob_moving fob_moving)]) ∨ (∃ (f_237 : Nat → Int64) (f_238 : Nat → Int64), ((0 : Int) ≤ a2.toInt ∧ a2.toInt ≤ 60) ∧ ((0 : Int) ≤ a4.toInt ∧ a4.toInt ≤ 60) ∧ ((0 : Int) ≤ a5.toInt ∧ a5.toInt ≤ 60) ∧ (¬ (fob_many 1).toInt = -1 ∧ ¬ (fob_many 3).toInt = -1 ∧ (fob_width 1).toInt = (fob_width 3).toInt ∧ 0 ≤ a2.toInt ∧ 0 ≤ a4.toInt ∧ 0 ≤ a5.toInt ∧ a2.toInt + a5.toInt ≤ (fob_many 1).toInt ∧ a4.toInt + a5.toInt ≤ (fob_many 3).toInt) ∧ (pL f_237 fob_numbers (60 + a2.toInt.toNat) (180 + a4.toInt.toNat) a5.toInt) ∧ r = 0 ∧ w = [(ce_X10 ob ob_thrown ob_world ob_images ob_hasImage ob_tape ob_taped ob_five ob_size ob_at ob_from ob_token ob_value ob_faultKind ob_faultPlace ob_fresh ob_parts ob_houses ob_houseMany ob_worthOf ob_byCall ob_over ob_bestSet ob_bestOver ob_bestWorth ob_row ob_tenDebts ob_tenMany ob_fewestBy ob_covered ob_queue ob_cameBy ob_parent ob_met ob_calls ob_callMany ob_calledOn ob_saved ob_many ob_width ob_numbers ob_moving), (ce_i4 y ob_many fob_many), (ce_i4 y ob_width fob_width), (ce_l240 y ob_numbers f_237), (ce_l60 y ob_moving f_238)])) (kq G (va_A [(ce_X10 ob ob_thrown ob_world ob_images ob_hasImage ob_tape ob_taped ob_five ob_size ob_at ob_from ob_token ob_value ob_faultKind ob_faultPlace ob_fresh ob_parts ob_houses ob_houseMany ob_worthOf ob_byCall ob_over ob_bestSet ob_bestOver ob_bestWorth ob_row ob_tenDebts ob_tenMany ob_fewestBy ob_covered ob_queue ob_cameBy ob_parent ob_met ob_calls ob_callMany ob_calledOn ob_saved ob_many ob_width ob_numbers ob_moving), (ce_i4 y ob_many fob_many), (ce_i4 y ob_width fob_width), (ce_l240 y ob_numbers fob_numbers), (ce_l60 y ob_moving fob_moving)] sz)) (va_A [(ce_X10 ob ob_thrown ob_world ob_images ob_hasImage ob_tape ob_taped ob_five ob_size ob_at ob_from ob_token ob_value ob_faultKind ob_faultPlace ob_fresh ob_parts ob_houses ob_houseMany ob_worthOf ob_byCall ob_over ob_bestSet ob_bestOver ob_bestWorth ob_row ob_tenDebts ob_tenMany ob_fewestBy ob_covered ob_queue ob_cameBy ob_parent ob_met ob_calls ob_callMany ob_calledOn ob_saved ob_many ob_width ob_numbers ob_moving), (ce_i4 y ob_many fob_many), (ce_i4 y ob_width fob_width), (ce_l240 y ob_numbers fob_numbers), (ce_l60 y ob_moving fob_moving)] sz)) 0 0 (va_A [(ce_X10 ob ob_thrown ob_world ob_images ob_hasImage ob_tape ob_taped ob_five ob_size ob_at ob_from ob_token ob_value ob_faultKind ob_faultPlace ob_fresh ob_parts ob_houses ob_houseMany ob_worthOf ob_byCall ob_over ob_bestSet ob_bestOver ob_bestWorth ob_row ob_tenDebts ob_tenMany ob_fewestBy ob_covered ob_queue ob_cameBy ob_parent ob_met ob_calls ob_callMany ob_calledOn ob_saved ob_many ob_width ob_numbers ob_moving), (ce_i4 y ob_many fob_many), (ce_i4 y ob_width fob_width), (ce_l240 y ob_numbers fob_numbers), (ce_l60 y ob_moving fob_moving)] sz) := by
  refine Met.ofW (cc := cX10_paste) (maxL := 7) (ret := (some .int)) (by decide) rfl ?_
  intro p e s m args below meth c s₁ B hml hv
  obtain ⟨rfl, hsz, hP, hK, hD0⟩ := hv
  have hx := B.exec
  have hb := B.bytes
  have hr := B.returns
  have hw0 : ∀ w ∈ wAll, w.before _ s = true := fun w h => atoms_spec (ws := Cond.code yX10_paste cX10_paste 7 (some .int) :: wAll) B.pre w (List.mem_cons_of_mem _ h)
  have hown : s.vm.findClass RX10 = some m.cls := findClass_of_methodNamed B.named
  subst hsz
  have hD := hD0.self (sz := s.heap.size)
  generalize hAe : va_A [(ce_X10 ob ob_thrown ob_world ob_images ob_hasImage ob_tape ob_taped ob_five ob_size ob_at ob_from ob_token ob_value ob_faultKind ob_faultPlace ob_fresh ob_parts ob_houses ob_houseMany ob_worthOf ob_byCall ob_over ob_bestSet ob_bestOver ob_bestWorth ob_row ob_tenDebts ob_tenMany ob_fewestBy ob_covered ob_queue ob_cameBy ob_parent ob_met ob_calls ob_callMany ob_calledOn ob_saved ob_many ob_width ob_numbers ob_moving), (ce_i4 y ob_many fob_many), (ce_i4 y ob_width fob_width), (ce_l240 y ob_numbers fob_numbers), (ce_l60 y ob_moving fob_moving)] s.heap.size = A at hD ⊢
  have hA : ∀ q : Nat, s.heap.size ≤ q → A q := fun q h => by rw [← hAe]; exact Or.inr h
  have hS : va_S A s.heap s.heap [] := va_S.rf
  have hP : va_P G vwCl [(ce_X10 ob ob_thrown ob_world ob_images ob_hasImage ob_tape ob_taped ob_five ob_size ob_at ob_from ob_token ob_value ob_faultKind ob_faultPlace ob_fresh ob_parts ob_houses ob_houseMany ob_worthOf ob_byCall ob_over ob_bestSet ob_bestOver ob_bestWorth ob_row ob_tenDebts ob_tenMany ob_fewestBy ob_covered ob_queue ob_cameBy ob_parent ob_met ob_calls ob_callMany ob_calledOn ob_saved ob_many ob_width ob_numbers ob_moving), (ce_i4 y ob_many fob_many), (ce_i4 y ob_width fob_width), (ce_l240 y ob_numbers fob_numbers), (ce_l60 y ob_moving fob_moving)] s.heap := hP
  have hl := lv_entry ([.ref ob, .int 1, .int a2, .int 3, .int a4, .int a5]) (n := 7) (Nat.le_of_ble_eq_true rfl)
  rw [lg_entry_eq]
  generalize (lg_sl ([.ref ob, .int 1, .int a2, .int 3, .int a4, .int a5]) ++ List.replicate (7 - (lg_sl ([.ref ob, .int 1, .int a2, .int 3, .int a4, .int a5])).length) Slot.unset).toArray = ls at hl ⊢
  have hl : lv_has ls 7 [(0, .ref ob), (1, .int 1), (2, .int a2), (3, .int 3), (4, .int a4), (5, .int a5)] := hl
  refine lv_iload_n hx hb dX10_paste_0 rfl (lv_at hl 1 rfl) ?_
  refine cSim (As := [.int 1]) (rest := []) ⟨hx, hb, hml, hown, hw0⟩ hA hK hP hD hS [] (gisSlotM l G y _ 1 ) rfl ⟨(callB_of 1 hw0 (gA m_543) rfl rfl rfl (hw0 _ m_41) (hw0 _ m_433) cb_X10_isSlot ⟨Nat.le_of_ble_eq_true rfl, Nat.le_of_ble_eq_true rfl⟩), (hw0 _ m_434)⟩ rfl hl.1 (Nat.le_of_ble_eq_true rfl) dX10_paste_1 ⟨Nat.le_of_ble_eq_true rfl, Nat.le_of_ble_eq_true rfl⟩ (fun r_1001 w_1001 H locs hw_1001 hP hD hS => ?_)
  rcases hw_1001 with ⟨h_1002, rfl, rfl⟩ | ⟨h_1003, h_1004, rfl, rfl⟩
  · skip
    exact False.elim (by have h9 : Int32.toInt 1 = 1 := (by decide); omega)
  · skip
    obtain ⟨hP, hD⟩ : vPD G A H [(ce_X10 ob ob_thrown ob_world ob_images ob_hasImage ob_tape ob_taped ob_five ob_size ob_at ob_from ob_token ob_value ob_faultKind ob_faultPlace ob_fresh ob_parts ob_houses ob_houseMany ob_worthOf ob_byCall ob_over ob_bestSet ob_bestOver ob_bestWorth ob_row ob_tenDebts ob_tenMany ob_fewestBy ob_covered ob_queue ob_cameBy ob_parent ob_met ob_calls ob_callMany ob_calledOn ob_saved ob_many ob_width ob_numbers ob_moving), (ce_i4 y ob_many fob_many), (ce_i4 y ob_width fob_width), (ce_l240 y ob_numbers fob_numbers), (ce_l60 y ob_moving fob_moving)] := ⟨hP, hD⟩
    refine lv_if_eq (tgt := 14) hx hb dX10_paste_4 (by decide) (fun c9 => absurd c9 (by decide)) (fun _ => ?_)
    refine lv_iload_n hx hb dX10_paste_7 rfl (lv_at hl 3 rfl) ?_
    refine cSim (As := [.int 3]) (rest := []) ⟨hx, hb, hml, hown, hw0⟩ hA hK hP hD hS [] (gisSlotM l G y _ 3 ) rfl ⟨(callB_of 1 hw0 (gA m_543) rfl rfl rfl (hw0 _ m_41) (hw0 _ m_433) cb_X10_isSlot ⟨Nat.le_of_ble_eq_true rfl, Nat.le_of_ble_eq_true rfl⟩), (hw0 _ m_434)⟩ rfl hl.1 (Nat.le_of_ble_eq_true rfl) dX10_paste_8 ⟨Nat.le_of_ble_eq_true rfl, Nat.le_of_ble_eq_true rfl⟩ (fun r_1005 w_1005 H locs hw_1005 hP hD hS => ?_)
    rcases hw_1005 with ⟨h_1006, rfl, rfl⟩ | ⟨h_1007, h_1008, rfl, rfl⟩
    · skip
      exact False.elim (by have h9 : Int32.toInt 3 = 3 := (by decide); omega)
    · skip
      obtain ⟨hP, hD⟩ : vPD G A H [(ce_X10 ob ob_thrown ob_world ob_images ob_hasImage ob_tape ob_taped ob_five ob_size ob_at ob_from ob_token ob_value ob_faultKind ob_faultPlace ob_fresh ob_parts ob_houses ob_houseMany ob_worthOf ob_byCall ob_over ob_bestSet ob_bestOver ob_bestWorth ob_row ob_tenDebts ob_tenMany ob_fewestBy ob_covered ob_queue ob_cameBy ob_parent ob_met ob_calls ob_callMany ob_calledOn ob_saved ob_many ob_width ob_numbers ob_moving), (ce_i4 y ob_many fob_many), (ce_i4 y ob_width fob_width), (ce_l240 y ob_numbers fob_numbers), (ce_l60 y ob_moving fob_moving)] := ⟨hP, hD⟩
      refine lv_if_ne (tgt := 17) hx hb dX10_paste_11 (by decide) (fun _ => ?_) (fun c9 => absurd c9 (by decide))
      refine lv_aload_n hx hb dX10_paste_17 rfl (lv_at hl 0 rfl) ?_
      refine va_get (D := G) (ci := 10) (v := .ref ob_many) (C := RX10) (T := TX10) (N := 41) hx hb hw0 inA_wsX100 hown hK.1 hP 0 rfl rfl 37 (by decide) (hw0 _ m_406) (fun _ h9 => h9) rfl dX10_paste_18 ?_
      refine lv_iload_n hx hb dX10_paste_21 rfl (lv_at hl 1 rfl) ?_
      refine va_iald hx hb hK.1 hP 1 1 rfl rfl (vi (bkc (x := 1) (c := 1) (by decide)) (by decide)) dX10_paste_22 ?_
      refine lv_topi (fun v_1009 ev_1009 => ?_)
      have bv_1009 : (-1 : Int) ≤ v_1009.toInt ∧ v_1009.toInt ≤ 60 := rd_b ev_1009 p_fob_many
      have yv_1009 : v_1009.toInt = (fob_many 1).toInt := congrArg Int32.toInt ev_1009
      refine lv_iconst (v := (-1)) hx hb dX10_paste_23 (by decide) ?_
      refine lv_icmp_eq (tgt := 37) hx hb dX10_paste_24 (by decide) (fun c_1010 => ?_) (fun c_1010 => ?_)
      · skip
        have nc_1010 := nb_eq (-1) (-1) c_1010 bv_1009 (bkc (x := (-1)) (c := -1) (by decide)) (by decide)
        refine lv_bipush (v := (-6)) hx hb dX10_paste_37 (by decide) ?_
        exact W.iret (v := (-6)) hx hb hr (fun t ht hW => ⟨⟨(-6), _, rfl, Or.inl (⟨by have h90 : Int32.toInt (-6) = -6 := (by decide); have h91 : Int32.toInt 1 = 1 := (by decide); have h92 : Int32.toInt 3 = 3 := (by decide); omega, rfl, rfl⟩), by rw [ht]; exact hP, hD⟩, hS.F ht⟩) hS.2.2 dX10_paste_39
      · skip
        have nc_1010 := nb_ne (0) (60) c_1010 bv_1009 (k := -1) (by decide) (by decide)
        refine lv_aload_n hx hb dX10_paste_27 rfl (lv_at hl 0 rfl) ?_
        refine va_get (D := G) (ci := 10) (v := .ref ob_many) (C := RX10) (T := TX10) (N := 41) hx hb hw0 inA_wsX100 hown hK.1 hP 0 rfl rfl 37 (by decide) (hw0 _ m_406) (fun _ h9 => h9) rfl dX10_paste_28 ?_
        refine lv_iload_n hx hb dX10_paste_31 rfl (lv_at hl 3 rfl) ?_
        refine va_iald hx hb hK.1 hP 1 1 rfl rfl (vi (bkc (x := 3) (c := 3) (by decide)) (by decide)) dX10_paste_32 ?_
        refine lv_topi (fun v_1011 ev_1011 => ?_)
        have bv_1011 : (-1 : Int) ≤ v_1011.toInt ∧ v_1011.toInt ≤ 60 := rd_b ev_1011 p_fob_many
        have yv_1011 : v_1011.toInt = (fob_many 3).toInt := congrArg Int32.toInt ev_1011
        refine lv_iconst (v := (-1)) hx hb dX10_paste_33 (by decide) ?_
        refine lv_icmp_ne (tgt := 40) hx hb dX10_paste_34 (by decide) (fun c_1012 => ?_) (fun c_1012 => ?_)
        · skip
          have nc_1012 := nb_ne (0) (60) c_1012 bv_1011 (k := -1) (by decide) (by decide)
          refine lv_aload_n hx hb dX10_paste_40 rfl (lv_at hl 0 rfl) ?_
          refine va_get (D := G) (ci := 10) (v := .ref ob_width) (C := RX10) (T := TX10) (N := 41) hx hb hw0 inA_wsX100 hown hK.1 hP 0 rfl rfl 38 (by decide) (hw0 _ m_527) (fun _ h9 => h9) rfl dX10_paste_41 ?_
          refine lv_iload_n hx hb dX10_paste_44 rfl (lv_at hl 1 rfl) ?_
          refine va_iald hx hb hK.1 hP 2 1 rfl rfl (vi (bkc (x := 1) (c := 1) (by decide)) (by decide)) dX10_paste_45 ?_
          refine lv_topi (fun v_1013 ev_1013 => ?_)
          have bv_1013 : (0 : Int) ≤ v_1013.toInt ∧ v_1013.toInt ≤ 3 := rd_b ev_1013 p_fob_width
          have yv_1013 : v_1013.toInt = (fob_width 1).toInt := congrArg Int32.toInt ev_1013
          refine lv_aload_n hx hb dX10_paste_46 rfl (lv_at hl 0 rfl) ?_
          refine va_get (D := G) (ci := 10) (v := .ref ob_width) (C := RX10) (T := TX10) (N := 41) hx hb hw0 inA_wsX100 hown hK.1 hP 0 rfl rfl 38 (by decide) (hw0 _ m_527) (fun _ h9 => h9) rfl dX10_paste_47 ?_
          refine lv_iload_n hx hb dX10_paste_50 rfl (lv_at hl 3 rfl) ?_
          refine va_iald hx hb hK.1 hP 2 1 rfl rfl (vi (bkc (x := 3) (c := 3) (by decide)) (by decide)) dX10_paste_51 ?_
          refine lv_topi (fun v_1014 ev_1014 => ?_)
          have bv_1014 : (0 : Int) ≤ v_1014.toInt ∧ v_1014.toInt ≤ 3 := rd_b ev_1014 p_fob_width
          have yv_1014 : v_1014.toInt = (fob_width 3).toInt := congrArg Int32.toInt ev_1014
          refine lv_icmp_eq (tgt := 58) hx hb dX10_paste_52 (by decide) (fun c_1015 => ?_) (fun c_1015 => ?_)
          · skip
            have nc_1015 := nb_eq (0) (3) c_1015 bv_1013 bv_1014 (by decide)
            refine lv_iload_n hx hb dX10_paste_58 rfl (lv_at hl 2 rfl) ?_
            refine lv_if_lt (tgt := 107) hx hb dX10_paste_59 (by decide) (fun c_1016 => ?_) (fun c_1016 => ?_)
            · skip
              have nc_1016 := nb_lt (-1) (0) c_1016 (btop a2) (bkc (x := 0) (c := 0) (by decide)) (by decide)
              refine lv_bipush (v := (-7)) hx hb dX10_paste_107 (by decide) ?_
              exact W.iret (v := (-7)) hx hb hr (fun t ht hW => ⟨⟨(-7), _, rfl, Or.inr (Or.inl (⟨by have h90 : Int32.toInt (-7) = -7 := (by decide); have h91 : Int32.toInt 1 = 1 := (by decide); have h92 : Int32.toInt 3 = 3 := (by decide); omega, rfl, rfl⟩)), by rw [ht]; exact hP, hD⟩, hS.F ht⟩) hS.2.2 dX10_paste_109
            · skip
              have nc_1016 := nb_nlt (0) (0) c_1016 (bkc (x := 0) (c := 0) (by decide)) (btop a2) (by decide)
              refine lv_iload hx hb dX10_paste_62 (lv_at hl 4 rfl) ?_
              refine lv_if_lt (tgt := 107) hx hb dX10_paste_64 (by decide) (fun c_1017 => ?_) (fun c_1017 => ?_)
              · skip
                have nc_1017 := nb_lt (-1) (0) c_1017 (btop a4) (bkc (x := 0) (c := 0) (by decide)) (by decide)
                refine lv_bipush (v := (-7)) hx hb dX10_paste_107 (by decide) ?_
                exact W.iret (v := (-7)) hx hb hr (fun t ht hW => ⟨⟨(-7), _, rfl, Or.inr (Or.inl (⟨by have h90 : Int32.toInt (-7) = -7 := (by decide); have h91 : Int32.toInt 1 = 1 := (by decide); have h92 : Int32.toInt 3 = 3 := (by decide); omega, rfl, rfl⟩)), by rw [ht]; exact hP, hD⟩, hS.F ht⟩) hS.2.2 dX10_paste_109
              · skip
                have nc_1017 := nb_nlt (0) (0) c_1017 (bkc (x := 0) (c := 0) (by decide)) (btop a4) (by decide)
                refine lv_iload hx hb dX10_paste_67 (lv_at hl 5 rfl) ?_
                refine lv_if_lt (tgt := 107) hx hb dX10_paste_69 (by decide) (fun c_1018 => ?_) (fun c_1018 => ?_)
                · skip
                  have nc_1018 := nb_lt (-1) (0) c_1018 (btop a5) (bkc (x := 0) (c := 0) (by decide)) (by decide)
                  refine lv_bipush (v := (-7)) hx hb dX10_paste_107 (by decide) ?_
                  exact W.iret (v := (-7)) hx hb hr (fun t ht hW => ⟨⟨(-7), _, rfl, Or.inr (Or.inl (⟨by have h90 : Int32.toInt (-7) = -7 := (by decide); have h91 : Int32.toInt 1 = 1 := (by decide); have h92 : Int32.toInt 3 = 3 := (by decide); omega, rfl, rfl⟩)), by rw [ht]; exact hP, hD⟩, hS.F ht⟩) hS.2.2 dX10_paste_109
                · skip
                  have nc_1018 := nb_nlt (0) (0) c_1018 (bkc (x := 0) (c := 0) (by decide)) (btop a5) (by decide)
                  refine lv_iload_n hx hb dX10_paste_72 rfl (lv_at hl 2 rfl) ?_
                  refine lv_i2l hx hb dX10_paste_73 rfl ?_
                  have kk_1019 : ((a2).toInt64).toInt = (a2).toInt := Int32.toInt_toInt64 _
                  refine lv_iload hx hb dX10_paste_74 (lv_at hl 5 rfl) ?_
                  refine lv_i2l hx hb dX10_paste_76 rfl ?_
                  have kk_1020 : ((a5).toInt64).toInt = (a5).toInt := Int32.toInt_toInt64 _
                  refine lv_ladd hx hb dX10_paste_77 ?_
                  refine lv_topl (fun v_1021 ev_1021 => ?_)
                  have qv_1021 := la_add ev_1021
                  refine lv_aload_n hx hb dX10_paste_78 rfl (lv_at hl 0 rfl) ?_
                  refine va_get (D := G) (ci := 10) (v := .ref ob_many) (C := RX10) (T := TX10) (N := 41) hx hb hw0 inA_wsX100 hown hK.1 hP 0 rfl rfl 37 (by decide) (hw0 _ m_406) (fun _ h9 => h9) rfl dX10_paste_79 ?_
                  refine lv_iload_n hx hb dX10_paste_82 rfl (lv_at hl 1 rfl) ?_
                  refine va_iald hx hb hK.1 hP 1 1 rfl rfl (vi (bkc (x := 1) (c := 1) (by decide)) (by decide)) dX10_paste_83 ?_
                  refine lv_topi (fun v_1022 ev_1022 => ?_)
                  obtain rfl : v_1009 = v_1022 := (ev_1022.trans (ev_1009.symm)).symm
                  refine lv_i2l hx hb dX10_paste_84 rfl ?_
                  have kk_1023 : ((v_1009).toInt64).toInt = (v_1009).toInt := Int32.toInt_toInt64 _
                  refine W.lcmp hx hb dX10_paste_85 ?_
                  refine lv_if_gt (tgt := 107) hx hb dX10_paste_86 (by decide) (fun c_1024 => ?_) (fun c_1024 => ?_)
                  · skip
                    have nc_1024 := jl_gt c_1024
                    refine lv_bipush (v := (-7)) hx hb dX10_paste_107 (by decide) ?_
                    exact W.iret (v := (-7)) hx hb hr (fun t ht hW => ⟨⟨(-7), _, rfl, Or.inr (Or.inl (⟨by have h90 : Int32.toInt (-7) = -7 := (by decide); have h91 : Int32.toInt 1 = 1 := (by decide); have h92 : Int32.toInt 3 = 3 := (by decide); omega, rfl, rfl⟩)), by rw [ht]; exact hP, hD⟩, hS.F ht⟩) hS.2.2 dX10_paste_109
                  · skip
                    have nc_1024 := jl_ngt c_1024
                    refine lv_iload hx hb dX10_paste_89 (lv_at hl 4 rfl) ?_
                    refine lv_i2l hx hb dX10_paste_91 rfl ?_
                    have kk_1025 : ((a4).toInt64).toInt = (a4).toInt := Int32.toInt_toInt64 _
                    refine lv_iload hx hb dX10_paste_92 (lv_at hl 5 rfl) ?_
                    refine lv_i2l hx hb dX10_paste_94 rfl ?_
                    have kk_1026 : ((a5).toInt64).toInt = (a5).toInt := Int32.toInt_toInt64 _
                    refine lv_ladd hx hb dX10_paste_95 ?_
                    refine lv_topl (fun v_1027 ev_1027 => ?_)
                    have qv_1027 := la_add ev_1027
                    refine lv_aload_n hx hb dX10_paste_96 rfl (lv_at hl 0 rfl) ?_
                    refine va_get (D := G) (ci := 10) (v := .ref ob_many) (C := RX10) (T := TX10) (N := 41) hx hb hw0 inA_wsX100 hown hK.1 hP 0 rfl rfl 37 (by decide) (hw0 _ m_406) (fun _ h9 => h9) rfl dX10_paste_97 ?_
                    refine lv_iload_n hx hb dX10_paste_100 rfl (lv_at hl 3 rfl) ?_
                    refine va_iald hx hb hK.1 hP 1 1 rfl rfl (vi (bkc (x := 3) (c := 3) (by decide)) (by decide)) dX10_paste_101 ?_
                    refine lv_topi (fun v_1028 ev_1028 => ?_)
                    obtain rfl : v_1011 = v_1028 := (ev_1028.trans (ev_1011.symm)).symm
                    refine lv_i2l hx hb dX10_paste_102 rfl ?_
                    have kk_1029 : ((v_1011).toInt64).toInt = (v_1011).toInt := Int32.toInt_toInt64 _
                    refine W.lcmp hx hb dX10_paste_103 ?_
                    refine lv_if_le (tgt := 110) hx hb dX10_paste_104 (by decide) (fun c_1030 => ?_) (fun c_1030 => ?_)
                    · skip
                      have nc_1030 := jl_le c_1030
                      have h_1031 : (0 : Int) ≤ a2.toInt ∧ a2.toInt ≤ 60 := by omega
                      have h_1032 : (0 : Int) ≤ a4.toInt ∧ a4.toInt ≤ 60 := by omega
                      have h_1033 : (0 : Int) ≤ a5.toInt ∧ a5.toInt ≤ 60 := by omega
                      refine lv_iconst (v := 0) hx hb dX10_paste_110 (by decide) ?_
                      refine lv_istore (lv' := [(6, .int 0), (0, .ref ob), (1, .int 1), (2, .int a2), (3, .int 3), (4, .int a4), (5, .int a5)]) hx hb dX10_paste_111 hl (by decide) rfl (fun ls hl => ?_)
                      refine loopX (fun n H locs ls st => ∃ (v_1058 : Int32) (f_1059 : Nat → Int64), (60 - v_1058.toInt).toNat = n ∧ ((0 : Int) ≤ v_1058.toInt ∧ v_1058.toInt ≤ 60) ∧ (mL f_1059 fob_numbers (60 + a2.toInt.toNat) v_1058.toInt) ∧ st = [] ∧ vPD G A H [(ce_X10 ob ob_thrown ob_world ob_images ob_hasImage ob_tape ob_taped ob_five ob_size ob_at ob_from ob_token ob_value ob_faultKind ob_faultPlace ob_fresh ob_parts ob_houses ob_houseMany ob_worthOf ob_byCall ob_over ob_bestSet ob_bestOver ob_bestWorth ob_row ob_tenDebts ob_tenMany ob_fewestBy ob_covered ob_queue ob_cameBy ob_parent ob_met ob_calls ob_callMany ob_calledOn ob_saved ob_many ob_width ob_numbers ob_moving), (ce_i4 y ob_many fob_many), (ce_i4 y ob_width fob_width), (ce_l240 y ob_numbers fob_numbers), (ce_l60 y ob_moving f_1059)] ∧ va_S A s.heap H locs ∧ lv_has ls 7 [(6, .int v_1058), (0, .ref ob), (1, .int 1), (2, .int a2), (3, .int 3), (4, .int a4), (5, .int a5)]) ?_ (n := (60 - (0 : Int32).toInt).toNat) ⟨0, fob_moving, rfl, (bw (0) (60) (bkc (x := 0) (c := 0) (by decide)) (by decide)), (ml_0 (by have h90 : Int32.toInt 0 = 0 := (by decide); have h91 : Int32.toInt 1 = 1 := (by decide); have h92 : Int32.toInt 3 = 3 := (by decide); omega)), rfl, ⟨hP, hD⟩, hS, lv_sub hl [0, 1, 2, 3, 4, 5, 6] rfl⟩
                      rintro n ih_1066 H locs ls st ⟨v_1058, f_1059, hn_1066, bv_1058, rl1059_0, rfl, ⟨hP, hD⟩, hS, hl⟩
                      refine lv_iload hx hb dX10_paste_113 (lv_at hl 0 rfl) ?_
                      refine lv_iload hx hb dX10_paste_115 (lv_at hl 6 rfl) ?_
                      refine lv_icmp_ge (tgt := 147) hx hb dX10_paste_117 (by decide) (fun c_1067 => ?_) (fun c_1067 => ?_)
                      · skip
                        have nc_1067 := nb_le (60) (0) c_1067 h_1033 bv_1058 (by decide)
                        refine lv_iconst (v := 0) hx hb dX10_paste_147 (by decide) ?_
                        refine lv_istore (lv' := [(6, .int 0), (0, .ref ob), (1, .int 1), (2, .int a2), (3, .int 3), (4, .int a4), (5, .int a5)]) hx hb dX10_paste_148 hl (by decide) rfl (fun ls hl => ?_)
                        refine loopX (fun n H locs ls st => ∃ (v_1095 : Int32) (f_1096 : Nat → Int64), (60 - v_1095.toInt).toNat = n ∧ ((0 : Int) ≤ v_1095.toInt ∧ v_1095.toInt ≤ 60) ∧ (nL f_1096 fob_numbers f_1059 (180 + a4.toInt.toNat) v_1095.toInt) ∧ (v_1095.toInt ≤ a5.toInt) ∧ st = [] ∧ vPD G A H [(ce_X10 ob ob_thrown ob_world ob_images ob_hasImage ob_tape ob_taped ob_five ob_size ob_at ob_from ob_token ob_value ob_faultKind ob_faultPlace ob_fresh ob_parts ob_houses ob_houseMany ob_worthOf ob_byCall ob_over ob_bestSet ob_bestOver ob_bestWorth ob_row ob_tenDebts ob_tenMany ob_fewestBy ob_covered ob_queue ob_cameBy ob_parent ob_met ob_calls ob_callMany ob_calledOn ob_saved ob_many ob_width ob_numbers ob_moving), (ce_i4 y ob_many fob_many), (ce_i4 y ob_width fob_width), (ce_l240 y ob_numbers f_1096), (ce_l60 y ob_moving f_1059)] ∧ va_S A s.heap H locs ∧ lv_has ls 7 [(6, .int v_1095), (0, .ref ob), (3, .int 3), (4, .int a4), (5, .int a5)]) ?_ (n := (60 - (0 : Int32).toInt).toNat) ⟨0, fob_numbers, rfl, (bw (0) (60) (bkc (x := 0) (c := 0) (by decide)) (by decide)), (nl_0 (by have h90 : Int32.toInt 0 = 0 := (by decide); have h91 : Int32.toInt 1 = 1 := (by decide); have h92 : Int32.toInt 3 = 3 := (by decide); omega)), (by have h90 : Int32.toInt 0 = 0 := (by decide); omega), rfl, ⟨hP, hD⟩, hS, lv_sub hl [0, 1, 4, 5, 6] rfl⟩
                        rintro n ih_1104 H locs ls st ⟨v_1095, f_1096, hn_1104, bv_1095, rl1096_0, rl1096_1, rfl, ⟨hP, hD⟩, hS, hl⟩
                        refine lv_iload hx hb dX10_paste_150 (lv_at hl 0 rfl) ?_
                        refine lv_iload hx hb dX10_paste_152 (lv_at hl 4 rfl) ?_
                        refine lv_icmp_ge (tgt := 185) hx hb dX10_paste_154 (by decide) (fun c_1105 => ?_) (fun c_1105 => ?_)
                        · skip
                          have nc_1105 := nb_le (60) (0) c_1105 nc_1067.1 bv_1095 (by decide)
                          refine lv_iconst (v := 0) hx hb dX10_paste_185 (by decide) ?_
                          exact W.iret (v := 0) hx hb hr (fun t ht hW => ⟨⟨0, _, rfl, Or.inr (Or.inr (Or.inr (⟨f_1096, f_1059, h_1031, h_1032, nc_1105.1, by have h90 : Int32.toInt 0 = 0 := (by decide); have h91 : Int32.toInt 3 = 3 := (by decide); omega, (pl_e rl1059_0 rl1096_0 (by omega) (by omega)), rfl, rfl⟩))), by rw [ht]; exact hP, hD⟩, hS.F ht⟩) hS.2.2 dX10_paste_186
                        · skip
                          have nc_1105 := nb_nle (59) (1) c_1105 bv_1095 nc_1067.1 (by decide)
                          refine lv_aload_n hx hb dX10_paste_157 rfl (lv_at hl 1 rfl) ?_
                          refine va_get (D := G) (ci := 10) (v := .ref ob_numbers) (C := RX10) (T := TX10) (N := 41) hx hb hw0 inA_wsX100 hown hK.1 hP 0 rfl rfl 39 (by decide) (hw0 _ m_435) (fun _ h9 => h9) rfl dX10_paste_158 ?_
                          refine lv_bipush (v := 60) hx hb dX10_paste_161 (by decide) ?_
                          refine lv_iload_n hx hb dX10_paste_163 rfl (lv_at hl 2 rfl) ?_
                          refine lv_imul hx hb dX10_paste_164 ?_
                          refine lv_topi (fun v_1106 ev_1106 => ?_)
                          obtain rfl : 180 = v_1106 := (ev_1106.trans (by decide)).symm
                          refine lv_iload hx hb dX10_paste_165 (lv_at hl 3 rfl) ?_
                          refine lv_iadd hx hb dX10_paste_167 ?_
                          refine lv_topi (fun v_1107 ev_1107 => ?_)
                          have qv_1107 := ba_add ev_1107 (bkc (x := 180) (c := 180) (by decide)) h_1032 (by decide)
                          have bv_1107 : (180 : Int) ≤ v_1107.toInt ∧ v_1107.toInt ≤ 240 := bq_add qv_1107 (bkc (x := 180) (c := 180) (by decide)) h_1032 _ _ (by decide)
                          have qv_1107 : v_1107.toInt = (180) + a4.toInt := qv_1107
                          refine lv_iload hx hb dX10_paste_168 (lv_at hl 0 rfl) ?_
                          refine lv_iadd hx hb dX10_paste_170 ?_
                          refine lv_topi (fun v_1108 ev_1108 => ?_)
                          have qv_1108 := ba_add ev_1108 bv_1107 nc_1105.1 (by decide)
                          have bv_1108 : (180 : Int) ≤ v_1108.toInt ∧ v_1108.toInt ≤ 299 := bq_add qv_1108 bv_1107 nc_1105.1 _ _ (by decide)
                          have h_1109 : (0 : Int) ≤ v_1108.toInt ∧ v_1108.toInt ≤ 239 := by omega
                          refine lv_aload_n hx hb dX10_paste_171 rfl (lv_at hl 1 rfl) ?_
                          refine va_get (D := G) (ci := 10) (v := .ref ob_moving) (C := RX10) (T := TX10) (N := 41) hx hb hw0 inA_wsX100 hown hK.1 hP 0 rfl rfl 40 (by decide) (hw0 _ m_529) (fun _ h9 => h9) rfl dX10_paste_172 ?_
                          refine lv_iload hx hb dX10_paste_175 (lv_at hl 0 rfl) ?_
                          refine va_lald hx hb hK.1 hP 4 2 rfl rfl (vi nc_1105.1 (by decide)) dX10_paste_177 ?_
                          refine lv_topl (fun v_1110 ev_1110 => ?_)
                          refine va_last hx hb hK.1 hP hD hS 3 2 rfl rfl (vi h_1109 (by decide)) dX10_paste_178 (fun H locs hP hD hS => ?_)
                          generalize hf_1111 : (vp_updL f_1096 (v_1108 : Int32).toNatClampNeg v_1110) = f_1111 at hP hD
                          obtain ⟨hP, hD⟩ : vPD G A H [(ce_X10 ob ob_thrown ob_world ob_images ob_hasImage ob_tape ob_taped ob_five ob_size ob_at ob_from ob_token ob_value ob_faultKind ob_faultPlace ob_fresh ob_parts ob_houses ob_houseMany ob_worthOf ob_byCall ob_over ob_bestSet ob_bestOver ob_bestWorth ob_row ob_tenDebts ob_tenMany ob_fewestBy ob_covered ob_queue ob_cameBy ob_parent ob_met ob_calls ob_callMany ob_calledOn ob_saved ob_many ob_width ob_numbers ob_moving), (ce_i4 y ob_many fob_many), (ce_i4 y ob_width fob_width), (ce_l240 y ob_numbers f_1111), (ce_l60 y ob_moving f_1059)] := ⟨hP, hD⟩
                          obtain ⟨v_1112, ev_1112⟩ : ∃ z : Int32, z = v_1095 + 1 := ⟨_, rfl⟩
                          have qv_1112 := ba_add ev_1112 nc_1105.1 (bkc (x := 1) (c := 1) (by decide)) (by decide)
                          have bv_1112 : (1 : Int) ≤ v_1112.toInt ∧ v_1112.toInt ≤ 60 := bq_add qv_1112 nc_1105.1 (bkc (x := 1) (c := 1) (by decide)) _ _ (by decide)
                          have qv_1112 : v_1112.toInt = v_1095.toInt + (1) := qv_1112
                          refine lv_iinc (v := v_1112) (lv' := [(6, .int v_1112), (0, .ref ob), (3, .int 3), (4, .int a4), (5, .int a5)]) hx hb dX10_paste_179 hl (k := 0) rfl (ev_1112.symm) (by decide) rfl (fun ls hl => ?_)
                          refine lv_goto (tgt := 150) hx hb dX10_paste_182 (by decide) ?_
                          exact ih_1104 _ (ml_inc (hi := 60) hn_1104 qv_1112 (by decide) ((bw (0) (60) bv_1112 (by decide))).2) _ _ _ _ ⟨v_1112, f_1111, rfl, (bw (0) (60) bv_1112 (by decide)), (nl_s rl1096_0 hf_1111 ev_1110 (by omega) (by omega) (by omega) (by omega)), (by omega), rfl, ⟨hP, hD⟩, hS, lv_sub hl [0, 1, 2, 3, 4] rfl⟩
                      · skip
                        have nc_1067 := nb_nle (59) (1) c_1067 bv_1058 h_1033 (by decide)
                        refine lv_aload_n hx hb dX10_paste_120 rfl (lv_at hl 1 rfl) ?_
                        refine va_get (D := G) (ci := 10) (v := .ref ob_moving) (C := RX10) (T := TX10) (N := 41) hx hb hw0 inA_wsX100 hown hK.1 hP 0 rfl rfl 40 (by decide) (hw0 _ m_529) (fun _ h9 => h9) rfl dX10_paste_121 ?_
                        refine lv_iload hx hb dX10_paste_124 (lv_at hl 0 rfl) ?_
                        refine lv_aload_n hx hb dX10_paste_126 rfl (lv_at hl 1 rfl) ?_
                        refine va_get (D := G) (ci := 10) (v := .ref ob_numbers) (C := RX10) (T := TX10) (N := 41) hx hb hw0 inA_wsX100 hown hK.1 hP 0 rfl rfl 39 (by decide) (hw0 _ m_435) (fun _ h9 => h9) rfl dX10_paste_127 ?_
                        refine lv_bipush (v := 60) hx hb dX10_paste_130 (by decide) ?_
                        refine lv_iload_n hx hb dX10_paste_132 rfl (lv_at hl 2 rfl) ?_
                        refine lv_imul hx hb dX10_paste_133 ?_
                        refine lv_topi (fun v_1113 ev_1113 => ?_)
                        obtain rfl : 60 = v_1113 := (ev_1113.trans (by decide)).symm
                        refine lv_iload_n hx hb dX10_paste_134 rfl (lv_at hl 3 rfl) ?_
                        refine lv_iadd hx hb dX10_paste_135 ?_
                        refine lv_topi (fun v_1114 ev_1114 => ?_)
                        have qv_1114 := ba_add ev_1114 (bkc (x := 60) (c := 60) (by decide)) h_1031 (by decide)
                        have bv_1114 : (60 : Int) ≤ v_1114.toInt ∧ v_1114.toInt ≤ 120 := bq_add qv_1114 (bkc (x := 60) (c := 60) (by decide)) h_1031 _ _ (by decide)
                        have qv_1114 : v_1114.toInt = (60) + a2.toInt := qv_1114
                        refine lv_iload hx hb dX10_paste_136 (lv_at hl 0 rfl) ?_
                        refine lv_iadd hx hb dX10_paste_138 ?_
                        refine lv_topi (fun v_1115 ev_1115 => ?_)
                        have qv_1115 := ba_add ev_1115 bv_1114 nc_1067.1 (by decide)
                        have bv_1115 : (60 : Int) ≤ v_1115.toInt ∧ v_1115.toInt ≤ 179 := bq_add qv_1115 bv_1114 nc_1067.1 _ _ (by decide)
                        refine va_lald hx hb hK.1 hP 3 2 rfl rfl (vi bv_1115 (by decide)) dX10_paste_139 ?_
                        refine lv_topl (fun v_1116 ev_1116 => ?_)
                        refine va_last hx hb hK.1 hP hD hS 4 2 rfl rfl (vi nc_1067.1 (by decide)) dX10_paste_140 (fun H locs hP hD hS => ?_)
                        generalize hf_1117 : (vp_updL f_1059 (v_1058 : Int32).toNatClampNeg v_1116) = f_1117 at hP hD
                        obtain ⟨hP, hD⟩ : vPD G A H [(ce_X10 ob ob_thrown ob_world ob_images ob_hasImage ob_tape ob_taped ob_five ob_size ob_at ob_from ob_token ob_value ob_faultKind ob_faultPlace ob_fresh ob_parts ob_houses ob_houseMany ob_worthOf ob_byCall ob_over ob_bestSet ob_bestOver ob_bestWorth ob_row ob_tenDebts ob_tenMany ob_fewestBy ob_covered ob_queue ob_cameBy ob_parent ob_met ob_calls ob_callMany ob_calledOn ob_saved ob_many ob_width ob_numbers ob_moving), (ce_i4 y ob_many fob_many), (ce_i4 y ob_width fob_width), (ce_l240 y ob_numbers fob_numbers), (ce_l60 y ob_moving f_1117)] := ⟨hP, hD⟩
                        obtain ⟨v_1118, ev_1118⟩ : ∃ z : Int32, z = v_1058 + 1 := ⟨_, rfl⟩
                        have qv_1118 := ba_add ev_1118 nc_1067.1 (bkc (x := 1) (c := 1) (by decide)) (by decide)
                        have bv_1118 : (1 : Int) ≤ v_1118.toInt ∧ v_1118.toInt ≤ 60 := bq_add qv_1118 nc_1067.1 (bkc (x := 1) (c := 1) (by decide)) _ _ (by decide)
                        have qv_1118 : v_1118.toInt = v_1058.toInt + (1) := qv_1118
                        refine lv_iinc (v := v_1118) (lv' := [(6, .int v_1118), (0, .ref ob), (1, .int 1), (2, .int a2), (3, .int 3), (4, .int a4), (5, .int a5)]) hx hb dX10_paste_141 hl (k := 0) rfl (ev_1118.symm) (by decide) rfl (fun ls hl => ?_)
                        refine lv_goto (tgt := 113) hx hb dX10_paste_144 (by decide) ?_
                        exact ih_1066 _ (ml_inc (hi := 60) hn_1066 qv_1118 (by decide) ((bw (0) (60) bv_1118 (by decide))).2) _ _ _ _ ⟨v_1118, f_1117, rfl, (bw (0) (60) bv_1118 (by decide)), (ml_s rl1059_0 hf_1117 ev_1116 (by omega) (by omega) (by omega) (by omega)), rfl, ⟨hP, hD⟩, hS, lv_sub hl [0, 1, 2, 3, 4, 5, 6] rfl⟩
                    · skip
                      have nc_1030 := jl_nle c_1030
                      refine lv_bipush (v := (-7)) hx hb dX10_paste_107 (by decide) ?_
                      exact W.iret (v := (-7)) hx hb hr (fun t ht hW => ⟨⟨(-7), _, rfl, Or.inr (Or.inl (⟨by have h90 : Int32.toInt (-7) = -7 := (by decide); have h91 : Int32.toInt 1 = 1 := (by decide); have h92 : Int32.toInt 3 = 3 := (by decide); omega, rfl, rfl⟩)), by rw [ht]; exact hP, hD⟩, hS.F ht⟩) hS.2.2 dX10_paste_109
          · skip
            have nc_1015 : v_1013.toInt ≠ v_1014.toInt := fun h9 => c_1015 (Int32.toInt_inj.mp h9)
            refine lv_bipush (v := (-8)) hx hb dX10_paste_55 (by decide) ?_
            exact W.iret (v := (-8)) hx hb hr (fun t ht hW => ⟨⟨(-8), _, rfl, Or.inr (Or.inr (Or.inl (⟨by have h90 : Int32.toInt (-8) = -8 := (by decide); have h91 : Int32.toInt 1 = 1 := (by decide); have h92 : Int32.toInt 3 = 3 := (by decide); omega, rfl, rfl⟩))), by rw [ht]; exact hP, hD⟩, hS.F ht⟩) hS.2.2 dX10_paste_57
        · skip
          have nc_1012 := nb_eq (-1) (-1) c_1012 bv_1011 (bkc (x := (-1)) (c := -1) (by decide)) (by decide)
          refine lv_bipush (v := (-6)) hx hb dX10_paste_37 (by decide) ?_
          exact W.iret (v := (-6)) hx hb hr (fun t ht hW => ⟨⟨(-6), _, rfl, Or.inl (⟨by have h90 : Int32.toInt (-6) = -6 := (by decide); have h91 : Int32.toInt 1 = 1 := (by decide); have h92 : Int32.toInt 3 = 3 := (by decide); omega, rfl, rfl⟩), by rw [ht]; exact hP, hD⟩, hS.F ht⟩) hS.2.2 dX10_paste_39

set_option maxHeartbeats 4000000 in
set_option maxRecDepth 100000 in
theorem fpasteM20 (l : Launch) (G : va_G) (y : Nat → ClassId) (sz : Nat) (ob : Nat) (a2 : Int32) (a4 : Int32) (a5 : Int32) (ob_thrown : Int32) (ob_world : Nat) (ob_images : Nat) (ob_hasImage : Nat) (ob_tape : Nat) (ob_taped : Int32) (ob_five : Nat) (ob_size : Int32) (ob_at : Int32) (ob_from : Int32) (ob_token : Int32) (ob_value : Int32) (ob_faultKind : Int32) (ob_faultPlace : Int32) (ob_fresh : Nat) (ob_parts : Nat) (ob_houses : Nat) (ob_houseMany : Int32) (ob_worthOf : Nat) (ob_byCall : Nat) (ob_over : Nat) (ob_bestSet : Int32) (ob_bestOver : Int32) (ob_bestWorth : Int32) (ob_row : Nat) (ob_tenDebts : Nat) (ob_tenMany : Int32) (ob_fewestBy : Nat) (ob_covered : Nat) (ob_queue : Nat) (ob_cameBy : Nat) (ob_parent : Nat) (ob_met : Nat) (ob_calls : Nat) (ob_callMany : Int32) (ob_calledOn : Nat) (ob_saved : Nat) (ob_many : Nat) (ob_width : Nat) (ob_numbers : Nat) (ob_moving : Nat) (fob_many : Nat → Int32) (fob_width : Nat → Int32) (fob_numbers : Nat → Int64) (fob_moving : Nat → Int64) (p_ob_taped : (0 : Int) ≤ ob_taped.toInt ∧ ob_taped.toInt ≤ 1400) (p_ob_size : (0 : Int) ≤ ob_size.toInt ∧ ob_size.toInt ≤ 1400) (p_ob_at : (0 : Int) ≤ ob_at.toInt ∧ ob_at.toInt ≤ 1400) (p_ob_from : (0 : Int) ≤ ob_from.toInt ∧ ob_from.toInt ≤ 1400) (p_ob_token : (0 : Int) ≤ ob_token.toInt ∧ ob_token.toInt ≤ 4) (p_ob_value : (0 : Int) ≤ ob_value.toInt ∧ ob_value.toInt ≤ 9999) (p_ob_faultKind : (0 : Int) ≤ ob_faultKind.toInt ∧ ob_faultKind.toInt ≤ 3) (p_ob_houseMany : (0 : Int) ≤ ob_houseMany.toInt ∧ ob_houseMany.toInt ≤ 10) (p_ob_bestSet : (0 : Int) ≤ ob_bestSet.toInt ∧ ob_bestSet.toInt ≤ 1023) (p_ob_bestOver : (-1 : Int) ≤ ob_bestOver.toInt ∧ ob_bestOver.toInt ≤ 180) (p_ob_tenMany : (0 : Int) ≤ ob_tenMany.toInt ∧ ob_tenMany.toInt ≤ 10) (p_ob_callMany : (0 : Int) ≤ ob_callMany.toInt ∧ ob_callMany.toInt ≤ 16) (p_fob_many : ∀ i, (-1 : Int) ≤ (fob_many i).toInt ∧ (fob_many i).toInt ≤ 60) (p_fob_width : ∀ i, (0 : Int) ≤ (fob_width i).toInt ∧ (fob_width i).toInt ≤ 3) : Met l yX10_paste (Cond.code yX10_paste cX10_paste 7 (some .int) :: wAll) ({ frames := 2, cells := 0, slots := 0, locals := 45 }) (va_Pc [.ref ob, .int 2, .int a2, .int 0, .int a4, .int a5] (kp G y sz [(ce_X10 ob ob_thrown ob_world ob_images ob_hasImage ob_tape ob_taped ob_five ob_size ob_at ob_from ob_token ob_value ob_faultKind ob_faultPlace ob_fresh ob_parts ob_houses ob_houseMany ob_worthOf ob_byCall ob_over ob_bestSet ob_bestOver ob_bestWorth ob_row ob_tenDebts ob_tenMany ob_fewestBy ob_covered ob_queue ob_cameBy ob_parent ob_met ob_calls ob_callMany ob_calledOn ob_saved ob_many ob_width ob_numbers ob_moving), (ce_i4 y ob_many fob_many), (ce_i4 y ob_width fob_width), (ce_l240 y ob_numbers fob_numbers), (ce_l60 y ob_moving fob_moving)])) (va_Qi (fun (r : Int32) (w : va_W) => (((fob_many 2).toInt = -1 ∨ (fob_many 0).toInt = -1) ∧ r = (-6) ∧ w = [(ce_X10 ob ob_thrown ob_world ob_images ob_hasImage ob_tape ob_taped ob_five ob_size ob_at ob_from ob_token ob_value ob_faultKind ob_faultPlace ob_fresh ob_parts ob_houses ob_houseMany ob_worthOf ob_byCall ob_over ob_bestSet ob_bestOver ob_bestWorth ob_row ob_tenDebts ob_tenMany ob_fewestBy ob_covered ob_queue ob_cameBy ob_parent ob_met ob_calls ob_callMany ob_calledOn ob_saved ob_many ob_width ob_numbers ob_moving), (ce_i4 y ob_many fob_many), (ce_i4 y ob_width fob_width), (ce_l240 y ob_numbers fob_numbers), (ce_l60 y ob_moving fob_moving)]) ∨ ((¬ (fob_many 2).toInt = -1 ∧ ¬ (fob_many 0).toInt = -1 ∧ (fob_width 2).toInt = (fob_width 0).toInt ∧ ¬ (0 ≤ a2.toInt ∧ 0 ≤ a4.toInt ∧ 0 ≤ a5.toInt ∧ a2.toInt + a5.toInt ≤ (fob_many 2).toInt ∧ a4.toInt + a5.toInt ≤ (fob_many 0).toInt)) ∧ r = (-7) ∧ w = [(ce_X10 ob ob_thrown ob_world ob_images ob_hasImage ob_tape ob_taped ob_five ob_size ob_at ob_from ob_token ob_value ob_faultKind ob_faultPlace ob_fresh ob_parts ob_houses ob_houseMany ob_worthOf ob_byCall ob_over ob_bestSet ob_bestOver ob_bestWorth ob_row ob_tenDebts ob_tenMany ob_fewestBy ob_covered ob_queue ob_cameBy ob_parent ob_met ob_calls ob_callMany ob_calledOn ob_saved ob_many ob_width ob_numbers ob_moving), (ce_i4 y ob_many fob_many), (ce_i4 y ob_width fob_width), (ce_l240 y ob_numbers fob_numbers), (ce_l60 y ob_moving fob_moving)]) ∨ ((¬ (fob_many 2).toInt = -1 ∧ ¬ (fob_many 0).toInt = -1 ∧ ¬ (fob_width 2).toInt = (fob_width 0).toInt) ∧ r = (-8) ∧ w = [(ce_X10 ob ob_thrown ob_world ob_images ob_hasImage ob_tape ob_taped ob_five ob_size ob_at ob_from ob_token ob_value ob_faultKind ob_faultPlace ob_fresh ob_parts ob_houses ob_houseMany ob_worthOf ob_byCall ob_over ob_bestSet ob_bestOver ob_bestWorth ob_row ob_tenDebts ob_tenMany ob_fewestBy ob_covered ob_queue ob_cameBy ob_parent ob_met ob_calls ob_callMany ob_calledOn ob_saved ob_many ob_width ob_numbers ob_moving), (ce_i4 y ob_many fob_many), (ce_i4 y ob_width fob_width), (ce_l240 y ob_numbers fob_numbers), (ce_l60 y ob_moving fob_moving)]) ∨ (∃ (f_227 : Nat → Int64) (f_228 : Nat → Int64), ((0 : Int) ≤ a2.toInt ∧ a2.toInt ≤ 60) ∧ ((0 : Int) ≤ a4.toInt ∧ a4.toInt ≤ 60) ∧ ((0 : Int) ≤ a5.toInt ∧ a5.toInt ≤ 60) ∧ (¬ (fob_many 2).toInt = -1 ∧ ¬ (fob_many 0).toInt = -1 ∧ (fob_width 2).toInt = (fob_width 0).toInt ∧ 0 ≤ a2.toInt ∧ 0 ≤ a4.toInt ∧ 0 ≤ a5.toInt ∧ a2.toInt + a5.toInt ≤ (fob_many 2).toInt ∧ a4.toInt + a5.toInt ≤ (fob_many 0).toInt) ∧ (pL f_227 fob_numbers (120 + a2.toInt.toNat) (0 + a4.toInt.toNat) a5.toInt) ∧ r = 0 ∧ w = [(ce_X10 ob ob_thrown ob_world ob_images ob_hasImage ob_tape ob_taped ob_five ob_size ob_at ob_from ob_token ob_value ob_faultKind ob_faultPlace ob_fresh ob_parts ob_houses ob_houseMany ob_worthOf ob_byCall ob_over ob_bestSet ob_bestOver ob_bestWorth ob_row ob_tenDebts ob_tenMany ob_fewestBy ob_covered ob_queue ob_cameBy ob_parent ob_met ob_calls ob_callMany ob_calledOn ob_saved ob_many ob_width ob_numbers ob_moving), (ce_i4 y ob_many fob_many), (ce_i4 y ob_width fob_width), (ce_l240 y ob_numbers f_227), (ce_l60 y ob_moving f_228)])) (kq G (va_A [(ce_X10 ob ob_thrown ob_world ob_images ob_hasImage ob_tape ob_taped ob_five ob_size ob_at ob_from ob_token ob_value ob_faultKind ob_faultPlace ob_fresh ob_parts ob_houses ob_houseMany ob_worthOf ob_byCall ob_over ob_bestSet ob_bestOver ob_bestWorth ob_row ob_tenDebts ob_tenMany ob_fewestBy ob_covered ob_queue ob_cameBy ob_parent ob_met ob_calls ob_callMany ob_calledOn ob_saved ob_many ob_width ob_numbers ob_moving), (ce_i4 y ob_many fob_many), (ce_i4 y ob_width fob_width), (ce_l240 y ob_numbers fob_numbers), (ce_l60 y ob_moving fob_moving)] sz)) (va_A [(ce_X10 ob ob_thrown ob_world ob_images ob_hasImage ob_tape ob_taped ob_five ob_size ob_at ob_from ob_token ob_value ob_faultKind ob_faultPlace ob_fresh ob_parts ob_houses ob_houseMany ob_worthOf ob_byCall ob_over ob_bestSet ob_bestOver ob_bestWorth ob_row ob_tenDebts ob_tenMany ob_fewestBy ob_covered ob_queue ob_cameBy ob_parent ob_met ob_calls ob_callMany ob_calledOn ob_saved ob_many ob_width ob_numbers ob_moving), (ce_i4 y ob_many fob_many), (ce_i4 y ob_width fob_width), (ce_l240 y ob_numbers fob_numbers), (ce_l60 y ob_moving fob_moving)] sz)) 0 0 (va_A [(ce_X10 ob ob_thrown ob_world ob_images ob_hasImage ob_tape ob_taped ob_five ob_size ob_at ob_from ob_token ob_value ob_faultKind ob_faultPlace ob_fresh ob_parts ob_houses ob_houseMany ob_worthOf ob_byCall ob_over ob_bestSet ob_bestOver ob_bestWorth ob_row ob_tenDebts ob_tenMany ob_fewestBy ob_covered ob_queue ob_cameBy ob_parent ob_met ob_calls ob_callMany ob_calledOn ob_saved ob_many ob_width ob_numbers ob_moving), (ce_i4 y ob_many fob_many), (ce_i4 y ob_width fob_width), (ce_l240 y ob_numbers fob_numbers), (ce_l60 y ob_moving fob_moving)] sz) := by
  refine Met.ofW (cc := cX10_paste) (maxL := 7) (ret := (some .int)) (by decide) rfl ?_
  intro p e s m args below meth c s₁ B hml hv
  obtain ⟨rfl, hsz, hP, hK, hD0⟩ := hv
  have hx := B.exec
  have hb := B.bytes
  have hr := B.returns
  have hw0 : ∀ w ∈ wAll, w.before _ s = true := fun w h => atoms_spec (ws := Cond.code yX10_paste cX10_paste 7 (some .int) :: wAll) B.pre w (List.mem_cons_of_mem _ h)
  have hown : s.vm.findClass RX10 = some m.cls := findClass_of_methodNamed B.named
  subst hsz
  have hD := hD0.self (sz := s.heap.size)
  generalize hAe : va_A [(ce_X10 ob ob_thrown ob_world ob_images ob_hasImage ob_tape ob_taped ob_five ob_size ob_at ob_from ob_token ob_value ob_faultKind ob_faultPlace ob_fresh ob_parts ob_houses ob_houseMany ob_worthOf ob_byCall ob_over ob_bestSet ob_bestOver ob_bestWorth ob_row ob_tenDebts ob_tenMany ob_fewestBy ob_covered ob_queue ob_cameBy ob_parent ob_met ob_calls ob_callMany ob_calledOn ob_saved ob_many ob_width ob_numbers ob_moving), (ce_i4 y ob_many fob_many), (ce_i4 y ob_width fob_width), (ce_l240 y ob_numbers fob_numbers), (ce_l60 y ob_moving fob_moving)] s.heap.size = A at hD ⊢
  have hA : ∀ q : Nat, s.heap.size ≤ q → A q := fun q h => by rw [← hAe]; exact Or.inr h
  have hS : va_S A s.heap s.heap [] := va_S.rf
  have hP : va_P G vwCl [(ce_X10 ob ob_thrown ob_world ob_images ob_hasImage ob_tape ob_taped ob_five ob_size ob_at ob_from ob_token ob_value ob_faultKind ob_faultPlace ob_fresh ob_parts ob_houses ob_houseMany ob_worthOf ob_byCall ob_over ob_bestSet ob_bestOver ob_bestWorth ob_row ob_tenDebts ob_tenMany ob_fewestBy ob_covered ob_queue ob_cameBy ob_parent ob_met ob_calls ob_callMany ob_calledOn ob_saved ob_many ob_width ob_numbers ob_moving), (ce_i4 y ob_many fob_many), (ce_i4 y ob_width fob_width), (ce_l240 y ob_numbers fob_numbers), (ce_l60 y ob_moving fob_moving)] s.heap := hP
  have hl := lv_entry ([.ref ob, .int 2, .int a2, .int 0, .int a4, .int a5]) (n := 7) (Nat.le_of_ble_eq_true rfl)
  rw [lg_entry_eq]
  generalize (lg_sl ([.ref ob, .int 2, .int a2, .int 0, .int a4, .int a5]) ++ List.replicate (7 - (lg_sl ([.ref ob, .int 2, .int a2, .int 0, .int a4, .int a5])).length) Slot.unset).toArray = ls at hl ⊢
  have hl : lv_has ls 7 [(0, .ref ob), (1, .int 2), (2, .int a2), (3, .int 0), (4, .int a4), (5, .int a5)] := hl
  refine lv_iload_n hx hb dX10_paste_0 rfl (lv_at hl 1 rfl) ?_
  refine cSim (As := [.int 2]) (rest := []) ⟨hx, hb, hml, hown, hw0⟩ hA hK hP hD hS [] (gisSlotM l G y _ 2 ) rfl ⟨(callB_of 1 hw0 (gA m_543) rfl rfl rfl (hw0 _ m_41) (hw0 _ m_433) cb_X10_isSlot ⟨Nat.le_of_ble_eq_true rfl, Nat.le_of_ble_eq_true rfl⟩), (hw0 _ m_434)⟩ rfl hl.1 (Nat.le_of_ble_eq_true rfl) dX10_paste_1 ⟨Nat.le_of_ble_eq_true rfl, Nat.le_of_ble_eq_true rfl⟩ (fun r_1001 w_1001 H locs hw_1001 hP hD hS => ?_)
  rcases hw_1001 with ⟨h_1002, rfl, rfl⟩ | ⟨h_1003, h_1004, rfl, rfl⟩
  · skip
    exact False.elim (by have h9 : Int32.toInt 2 = 2 := (by decide); omega)
  · skip
    obtain ⟨hP, hD⟩ : vPD G A H [(ce_X10 ob ob_thrown ob_world ob_images ob_hasImage ob_tape ob_taped ob_five ob_size ob_at ob_from ob_token ob_value ob_faultKind ob_faultPlace ob_fresh ob_parts ob_houses ob_houseMany ob_worthOf ob_byCall ob_over ob_bestSet ob_bestOver ob_bestWorth ob_row ob_tenDebts ob_tenMany ob_fewestBy ob_covered ob_queue ob_cameBy ob_parent ob_met ob_calls ob_callMany ob_calledOn ob_saved ob_many ob_width ob_numbers ob_moving), (ce_i4 y ob_many fob_many), (ce_i4 y ob_width fob_width), (ce_l240 y ob_numbers fob_numbers), (ce_l60 y ob_moving fob_moving)] := ⟨hP, hD⟩
    refine lv_if_eq (tgt := 14) hx hb dX10_paste_4 (by decide) (fun c9 => absurd c9 (by decide)) (fun _ => ?_)
    refine lv_iload_n hx hb dX10_paste_7 rfl (lv_at hl 3 rfl) ?_
    refine cSim (As := [.int 0]) (rest := []) ⟨hx, hb, hml, hown, hw0⟩ hA hK hP hD hS [] (gisSlotM l G y _ 0 ) rfl ⟨(callB_of 1 hw0 (gA m_543) rfl rfl rfl (hw0 _ m_41) (hw0 _ m_433) cb_X10_isSlot ⟨Nat.le_of_ble_eq_true rfl, Nat.le_of_ble_eq_true rfl⟩), (hw0 _ m_434)⟩ rfl hl.1 (Nat.le_of_ble_eq_true rfl) dX10_paste_8 ⟨Nat.le_of_ble_eq_true rfl, Nat.le_of_ble_eq_true rfl⟩ (fun r_1005 w_1005 H locs hw_1005 hP hD hS => ?_)
    rcases hw_1005 with ⟨h_1006, rfl, rfl⟩ | ⟨h_1007, h_1008, rfl, rfl⟩
    · skip
      exact False.elim (by have h9 : Int32.toInt 0 = 0 := (by decide); omega)
    · skip
      obtain ⟨hP, hD⟩ : vPD G A H [(ce_X10 ob ob_thrown ob_world ob_images ob_hasImage ob_tape ob_taped ob_five ob_size ob_at ob_from ob_token ob_value ob_faultKind ob_faultPlace ob_fresh ob_parts ob_houses ob_houseMany ob_worthOf ob_byCall ob_over ob_bestSet ob_bestOver ob_bestWorth ob_row ob_tenDebts ob_tenMany ob_fewestBy ob_covered ob_queue ob_cameBy ob_parent ob_met ob_calls ob_callMany ob_calledOn ob_saved ob_many ob_width ob_numbers ob_moving), (ce_i4 y ob_many fob_many), (ce_i4 y ob_width fob_width), (ce_l240 y ob_numbers fob_numbers), (ce_l60 y ob_moving fob_moving)] := ⟨hP, hD⟩
      refine lv_if_ne (tgt := 17) hx hb dX10_paste_11 (by decide) (fun _ => ?_) (fun c9 => absurd c9 (by decide))
      refine lv_aload_n hx hb dX10_paste_17 rfl (lv_at hl 0 rfl) ?_
      refine va_get (D := G) (ci := 10) (v := .ref ob_many) (C := RX10) (T := TX10) (N := 41) hx hb hw0 inA_wsX100 hown hK.1 hP 0 rfl rfl 37 (by decide) (hw0 _ m_406) (fun _ h9 => h9) rfl dX10_paste_18 ?_
      refine lv_iload_n hx hb dX10_paste_21 rfl (lv_at hl 1 rfl) ?_
      refine va_iald hx hb hK.1 hP 1 1 rfl rfl (vi (bkc (x := 2) (c := 2) (by decide)) (by decide)) dX10_paste_22 ?_
      refine lv_topi (fun v_1009 ev_1009 => ?_)
      have bv_1009 : (-1 : Int) ≤ v_1009.toInt ∧ v_1009.toInt ≤ 60 := rd_b ev_1009 p_fob_many
      have yv_1009 : v_1009.toInt = (fob_many 2).toInt := congrArg Int32.toInt ev_1009
      refine lv_iconst (v := (-1)) hx hb dX10_paste_23 (by decide) ?_
      refine lv_icmp_eq (tgt := 37) hx hb dX10_paste_24 (by decide) (fun c_1010 => ?_) (fun c_1010 => ?_)
      · skip
        have nc_1010 := nb_eq (-1) (-1) c_1010 bv_1009 (bkc (x := (-1)) (c := -1) (by decide)) (by decide)
        refine lv_bipush (v := (-6)) hx hb dX10_paste_37 (by decide) ?_
        exact W.iret (v := (-6)) hx hb hr (fun t ht hW => ⟨⟨(-6), _, rfl, Or.inl (⟨by have h90 : Int32.toInt (-6) = -6 := (by decide); have h91 : Int32.toInt 0 = 0 := (by decide); have h92 : Int32.toInt 2 = 2 := (by decide); omega, rfl, rfl⟩), by rw [ht]; exact hP, hD⟩, hS.F ht⟩) hS.2.2 dX10_paste_39
      · skip
        have nc_1010 := nb_ne (0) (60) c_1010 bv_1009 (k := -1) (by decide) (by decide)
        refine lv_aload_n hx hb dX10_paste_27 rfl (lv_at hl 0 rfl) ?_
        refine va_get (D := G) (ci := 10) (v := .ref ob_many) (C := RX10) (T := TX10) (N := 41) hx hb hw0 inA_wsX100 hown hK.1 hP 0 rfl rfl 37 (by decide) (hw0 _ m_406) (fun _ h9 => h9) rfl dX10_paste_28 ?_
        refine lv_iload_n hx hb dX10_paste_31 rfl (lv_at hl 3 rfl) ?_
        refine va_iald hx hb hK.1 hP 1 1 rfl rfl (vi (bkc (x := 0) (c := 0) (by decide)) (by decide)) dX10_paste_32 ?_
        refine lv_topi (fun v_1011 ev_1011 => ?_)
        have bv_1011 : (-1 : Int) ≤ v_1011.toInt ∧ v_1011.toInt ≤ 60 := rd_b ev_1011 p_fob_many
        have yv_1011 : v_1011.toInt = (fob_many 0).toInt := congrArg Int32.toInt ev_1011
        refine lv_iconst (v := (-1)) hx hb dX10_paste_33 (by decide) ?_
        refine lv_icmp_ne (tgt := 40) hx hb dX10_paste_34 (by decide) (fun c_1012 => ?_) (fun c_1012 => ?_)
        · skip
          have nc_1012 := nb_ne (0) (60) c_1012 bv_1011 (k := -1) (by decide) (by decide)
          refine lv_aload_n hx hb dX10_paste_40 rfl (lv_at hl 0 rfl) ?_
          refine va_get (D := G) (ci := 10) (v := .ref ob_width) (C := RX10) (T := TX10) (N := 41) hx hb hw0 inA_wsX100 hown hK.1 hP 0 rfl rfl 38 (by decide) (hw0 _ m_527) (fun _ h9 => h9) rfl dX10_paste_41 ?_
          refine lv_iload_n hx hb dX10_paste_44 rfl (lv_at hl 1 rfl) ?_
          refine va_iald hx hb hK.1 hP 2 1 rfl rfl (vi (bkc (x := 2) (c := 2) (by decide)) (by decide)) dX10_paste_45 ?_
          refine lv_topi (fun v_1013 ev_1013 => ?_)
          have bv_1013 : (0 : Int) ≤ v_1013.toInt ∧ v_1013.toInt ≤ 3 := rd_b ev_1013 p_fob_width
          have yv_1013 : v_1013.toInt = (fob_width 2).toInt := congrArg Int32.toInt ev_1013
          refine lv_aload_n hx hb dX10_paste_46 rfl (lv_at hl 0 rfl) ?_
          refine va_get (D := G) (ci := 10) (v := .ref ob_width) (C := RX10) (T := TX10) (N := 41) hx hb hw0 inA_wsX100 hown hK.1 hP 0 rfl rfl 38 (by decide) (hw0 _ m_527) (fun _ h9 => h9) rfl dX10_paste_47 ?_
          refine lv_iload_n hx hb dX10_paste_50 rfl (lv_at hl 3 rfl) ?_
          refine va_iald hx hb hK.1 hP 2 1 rfl rfl (vi (bkc (x := 0) (c := 0) (by decide)) (by decide)) dX10_paste_51 ?_
          refine lv_topi (fun v_1014 ev_1014 => ?_)
          have bv_1014 : (0 : Int) ≤ v_1014.toInt ∧ v_1014.toInt ≤ 3 := rd_b ev_1014 p_fob_width
          have yv_1014 : v_1014.toInt = (fob_width 0).toInt := congrArg Int32.toInt ev_1014
          refine lv_icmp_eq (tgt := 58) hx hb dX10_paste_52 (by decide) (fun c_1015 => ?_) (fun c_1015 => ?_)
          · skip
            have nc_1015 := nb_eq (0) (3) c_1015 bv_1013 bv_1014 (by decide)
            refine lv_iload_n hx hb dX10_paste_58 rfl (lv_at hl 2 rfl) ?_
            refine lv_if_lt (tgt := 107) hx hb dX10_paste_59 (by decide) (fun c_1016 => ?_) (fun c_1016 => ?_)
            · skip
              have nc_1016 := nb_lt (-1) (0) c_1016 (btop a2) (bkc (x := 0) (c := 0) (by decide)) (by decide)
              refine lv_bipush (v := (-7)) hx hb dX10_paste_107 (by decide) ?_
              exact W.iret (v := (-7)) hx hb hr (fun t ht hW => ⟨⟨(-7), _, rfl, Or.inr (Or.inl (⟨by have h90 : Int32.toInt (-7) = -7 := (by decide); have h91 : Int32.toInt 0 = 0 := (by decide); have h92 : Int32.toInt 2 = 2 := (by decide); omega, rfl, rfl⟩)), by rw [ht]; exact hP, hD⟩, hS.F ht⟩) hS.2.2 dX10_paste_109
            · skip
              have nc_1016 := nb_nlt (0) (0) c_1016 (bkc (x := 0) (c := 0) (by decide)) (btop a2) (by decide)
              refine lv_iload hx hb dX10_paste_62 (lv_at hl 4 rfl) ?_
              refine lv_if_lt (tgt := 107) hx hb dX10_paste_64 (by decide) (fun c_1017 => ?_) (fun c_1017 => ?_)
              · skip
                have nc_1017 := nb_lt (-1) (0) c_1017 (btop a4) (bkc (x := 0) (c := 0) (by decide)) (by decide)
                refine lv_bipush (v := (-7)) hx hb dX10_paste_107 (by decide) ?_
                exact W.iret (v := (-7)) hx hb hr (fun t ht hW => ⟨⟨(-7), _, rfl, Or.inr (Or.inl (⟨by have h90 : Int32.toInt (-7) = -7 := (by decide); have h91 : Int32.toInt 0 = 0 := (by decide); have h92 : Int32.toInt 2 = 2 := (by decide); omega, rfl, rfl⟩)), by rw [ht]; exact hP, hD⟩, hS.F ht⟩) hS.2.2 dX10_paste_109
              · skip
                have nc_1017 := nb_nlt (0) (0) c_1017 (bkc (x := 0) (c := 0) (by decide)) (btop a4) (by decide)
                refine lv_iload hx hb dX10_paste_67 (lv_at hl 5 rfl) ?_
                refine lv_if_lt (tgt := 107) hx hb dX10_paste_69 (by decide) (fun c_1018 => ?_) (fun c_1018 => ?_)
                · skip
                  have nc_1018 := nb_lt (-1) (0) c_1018 (btop a5) (bkc (x := 0) (c := 0) (by decide)) (by decide)
                  refine lv_bipush (v := (-7)) hx hb dX10_paste_107 (by decide) ?_
                  exact W.iret (v := (-7)) hx hb hr (fun t ht hW => ⟨⟨(-7), _, rfl, Or.inr (Or.inl (⟨by have h90 : Int32.toInt (-7) = -7 := (by decide); have h91 : Int32.toInt 0 = 0 := (by decide); have h92 : Int32.toInt 2 = 2 := (by decide); omega, rfl, rfl⟩)), by rw [ht]; exact hP, hD⟩, hS.F ht⟩) hS.2.2 dX10_paste_109
                · skip
                  have nc_1018 := nb_nlt (0) (0) c_1018 (bkc (x := 0) (c := 0) (by decide)) (btop a5) (by decide)
                  refine lv_iload_n hx hb dX10_paste_72 rfl (lv_at hl 2 rfl) ?_
                  refine lv_i2l hx hb dX10_paste_73 rfl ?_
                  have kk_1019 : ((a2).toInt64).toInt = (a2).toInt := Int32.toInt_toInt64 _
                  refine lv_iload hx hb dX10_paste_74 (lv_at hl 5 rfl) ?_
                  refine lv_i2l hx hb dX10_paste_76 rfl ?_
                  have kk_1020 : ((a5).toInt64).toInt = (a5).toInt := Int32.toInt_toInt64 _
                  refine lv_ladd hx hb dX10_paste_77 ?_
                  refine lv_topl (fun v_1021 ev_1021 => ?_)
                  have qv_1021 := la_add ev_1021
                  refine lv_aload_n hx hb dX10_paste_78 rfl (lv_at hl 0 rfl) ?_
                  refine va_get (D := G) (ci := 10) (v := .ref ob_many) (C := RX10) (T := TX10) (N := 41) hx hb hw0 inA_wsX100 hown hK.1 hP 0 rfl rfl 37 (by decide) (hw0 _ m_406) (fun _ h9 => h9) rfl dX10_paste_79 ?_
                  refine lv_iload_n hx hb dX10_paste_82 rfl (lv_at hl 1 rfl) ?_
                  refine va_iald hx hb hK.1 hP 1 1 rfl rfl (vi (bkc (x := 2) (c := 2) (by decide)) (by decide)) dX10_paste_83 ?_
                  refine lv_topi (fun v_1022 ev_1022 => ?_)
                  obtain rfl : v_1009 = v_1022 := (ev_1022.trans (ev_1009.symm)).symm
                  refine lv_i2l hx hb dX10_paste_84 rfl ?_
                  have kk_1023 : ((v_1009).toInt64).toInt = (v_1009).toInt := Int32.toInt_toInt64 _
                  refine W.lcmp hx hb dX10_paste_85 ?_
                  refine lv_if_gt (tgt := 107) hx hb dX10_paste_86 (by decide) (fun c_1024 => ?_) (fun c_1024 => ?_)
                  · skip
                    have nc_1024 := jl_gt c_1024
                    refine lv_bipush (v := (-7)) hx hb dX10_paste_107 (by decide) ?_
                    exact W.iret (v := (-7)) hx hb hr (fun t ht hW => ⟨⟨(-7), _, rfl, Or.inr (Or.inl (⟨by have h90 : Int32.toInt (-7) = -7 := (by decide); have h91 : Int32.toInt 0 = 0 := (by decide); have h92 : Int32.toInt 2 = 2 := (by decide); omega, rfl, rfl⟩)), by rw [ht]; exact hP, hD⟩, hS.F ht⟩) hS.2.2 dX10_paste_109
                  · skip
                    have nc_1024 := jl_ngt c_1024
                    refine lv_iload hx hb dX10_paste_89 (lv_at hl 4 rfl) ?_
                    refine lv_i2l hx hb dX10_paste_91 rfl ?_
                    have kk_1025 : ((a4).toInt64).toInt = (a4).toInt := Int32.toInt_toInt64 _
                    refine lv_iload hx hb dX10_paste_92 (lv_at hl 5 rfl) ?_
                    refine lv_i2l hx hb dX10_paste_94 rfl ?_
                    have kk_1026 : ((a5).toInt64).toInt = (a5).toInt := Int32.toInt_toInt64 _
                    refine lv_ladd hx hb dX10_paste_95 ?_
                    refine lv_topl (fun v_1027 ev_1027 => ?_)
                    have qv_1027 := la_add ev_1027
                    refine lv_aload_n hx hb dX10_paste_96 rfl (lv_at hl 0 rfl) ?_
                    refine va_get (D := G) (ci := 10) (v := .ref ob_many) (C := RX10) (T := TX10) (N := 41) hx hb hw0 inA_wsX100 hown hK.1 hP 0 rfl rfl 37 (by decide) (hw0 _ m_406) (fun _ h9 => h9) rfl dX10_paste_97 ?_
                    refine lv_iload_n hx hb dX10_paste_100 rfl (lv_at hl 3 rfl) ?_
                    refine va_iald hx hb hK.1 hP 1 1 rfl rfl (vi (bkc (x := 0) (c := 0) (by decide)) (by decide)) dX10_paste_101 ?_
                    refine lv_topi (fun v_1028 ev_1028 => ?_)
                    obtain rfl : v_1011 = v_1028 := (ev_1028.trans (ev_1011.symm)).symm
                    refine lv_i2l hx hb dX10_paste_102 rfl ?_
                    have kk_1029 : ((v_1011).toInt64).toInt = (v_1011).toInt := Int32.toInt_toInt64 _
                    refine W.lcmp hx hb dX10_paste_103 ?_
                    refine lv_if_le (tgt := 110) hx hb dX10_paste_104 (by decide) (fun c_1030 => ?_) (fun c_1030 => ?_)
                    · skip
                      have nc_1030 := jl_le c_1030
                      have h_1031 : (0 : Int) ≤ a2.toInt ∧ a2.toInt ≤ 60 := by omega
                      have h_1032 : (0 : Int) ≤ a4.toInt ∧ a4.toInt ≤ 60 := by omega
                      have h_1033 : (0 : Int) ≤ a5.toInt ∧ a5.toInt ≤ 60 := by omega
                      refine lv_iconst (v := 0) hx hb dX10_paste_110 (by decide) ?_
                      refine lv_istore (lv' := [(6, .int 0), (0, .ref ob), (1, .int 2), (2, .int a2), (3, .int 0), (4, .int a4), (5, .int a5)]) hx hb dX10_paste_111 hl (by decide) rfl (fun ls hl => ?_)
                      refine loopX (fun n H locs ls st => ∃ (v_1058 : Int32) (f_1059 : Nat → Int64), (60 - v_1058.toInt).toNat = n ∧ ((0 : Int) ≤ v_1058.toInt ∧ v_1058.toInt ≤ 60) ∧ (mL f_1059 fob_numbers (120 + a2.toInt.toNat) v_1058.toInt) ∧ st = [] ∧ vPD G A H [(ce_X10 ob ob_thrown ob_world ob_images ob_hasImage ob_tape ob_taped ob_five ob_size ob_at ob_from ob_token ob_value ob_faultKind ob_faultPlace ob_fresh ob_parts ob_houses ob_houseMany ob_worthOf ob_byCall ob_over ob_bestSet ob_bestOver ob_bestWorth ob_row ob_tenDebts ob_tenMany ob_fewestBy ob_covered ob_queue ob_cameBy ob_parent ob_met ob_calls ob_callMany ob_calledOn ob_saved ob_many ob_width ob_numbers ob_moving), (ce_i4 y ob_many fob_many), (ce_i4 y ob_width fob_width), (ce_l240 y ob_numbers fob_numbers), (ce_l60 y ob_moving f_1059)] ∧ va_S A s.heap H locs ∧ lv_has ls 7 [(6, .int v_1058), (0, .ref ob), (1, .int 2), (2, .int a2), (3, .int 0), (4, .int a4), (5, .int a5)]) ?_ (n := (60 - (0 : Int32).toInt).toNat) ⟨0, fob_moving, rfl, (bw (0) (60) (bkc (x := 0) (c := 0) (by decide)) (by decide)), (ml_0 (by have h90 : Int32.toInt 0 = 0 := (by decide); have h91 : Int32.toInt 2 = 2 := (by decide); omega)), rfl, ⟨hP, hD⟩, hS, lv_sub hl [0, 1, 2, 3, 4, 5, 6] rfl⟩
                      rintro n ih_1066 H locs ls st ⟨v_1058, f_1059, hn_1066, bv_1058, rl1059_0, rfl, ⟨hP, hD⟩, hS, hl⟩
                      refine lv_iload hx hb dX10_paste_113 (lv_at hl 0 rfl) ?_
                      refine lv_iload hx hb dX10_paste_115 (lv_at hl 6 rfl) ?_
                      refine lv_icmp_ge (tgt := 147) hx hb dX10_paste_117 (by decide) (fun c_1067 => ?_) (fun c_1067 => ?_)
                      · skip
                        have nc_1067 := nb_le (60) (0) c_1067 h_1033 bv_1058 (by decide)
                        refine lv_iconst (v := 0) hx hb dX10_paste_147 (by decide) ?_
                        refine lv_istore (lv' := [(6, .int 0), (0, .ref ob), (1, .int 2), (2, .int a2), (3, .int 0), (4, .int a4), (5, .int a5)]) hx hb dX10_paste_148 hl (by decide) rfl (fun ls hl => ?_)
                        refine loopX (fun n H locs ls st => ∃ (v_1092 : Int32) (f_1093 : Nat → Int64), (60 - v_1092.toInt).toNat = n ∧ ((0 : Int) ≤ v_1092.toInt ∧ v_1092.toInt ≤ 60) ∧ (nL f_1093 fob_numbers f_1059 (0 + a4.toInt.toNat) v_1092.toInt) ∧ (v_1092.toInt ≤ a5.toInt) ∧ st = [] ∧ vPD G A H [(ce_X10 ob ob_thrown ob_world ob_images ob_hasImage ob_tape ob_taped ob_five ob_size ob_at ob_from ob_token ob_value ob_faultKind ob_faultPlace ob_fresh ob_parts ob_houses ob_houseMany ob_worthOf ob_byCall ob_over ob_bestSet ob_bestOver ob_bestWorth ob_row ob_tenDebts ob_tenMany ob_fewestBy ob_covered ob_queue ob_cameBy ob_parent ob_met ob_calls ob_callMany ob_calledOn ob_saved ob_many ob_width ob_numbers ob_moving), (ce_i4 y ob_many fob_many), (ce_i4 y ob_width fob_width), (ce_l240 y ob_numbers f_1093), (ce_l60 y ob_moving f_1059)] ∧ va_S A s.heap H locs ∧ lv_has ls 7 [(6, .int v_1092), (0, .ref ob), (3, .int 0), (4, .int a4), (5, .int a5)]) ?_ (n := (60 - (0 : Int32).toInt).toNat) ⟨0, fob_numbers, rfl, (bw (0) (60) (bkc (x := 0) (c := 0) (by decide)) (by decide)), (nl_0 (by have h90 : Int32.toInt 0 = 0 := (by decide); have h91 : Int32.toInt 2 = 2 := (by decide); omega)), (by have h90 : Int32.toInt 0 = 0 := (by decide); omega), rfl, ⟨hP, hD⟩, hS, lv_sub hl [0, 1, 4, 5, 6] rfl⟩
                        rintro n ih_1100 H locs ls st ⟨v_1092, f_1093, hn_1100, bv_1092, rl1093_0, rl1093_1, rfl, ⟨hP, hD⟩, hS, hl⟩
                        refine lv_iload hx hb dX10_paste_150 (lv_at hl 0 rfl) ?_
                        refine lv_iload hx hb dX10_paste_152 (lv_at hl 4 rfl) ?_
                        refine lv_icmp_ge (tgt := 185) hx hb dX10_paste_154 (by decide) (fun c_1101 => ?_) (fun c_1101 => ?_)
                        · skip
                          have nc_1101 := nb_le (60) (0) c_1101 nc_1067.1 bv_1092 (by decide)
                          refine lv_iconst (v := 0) hx hb dX10_paste_185 (by decide) ?_
                          exact W.iret (v := 0) hx hb hr (fun t ht hW => ⟨⟨0, _, rfl, Or.inr (Or.inr (Or.inr (⟨f_1093, f_1059, h_1031, h_1032, nc_1101.1, by have h90 : Int32.toInt 0 = 0 := (by decide); omega, (pl_e rl1059_0 rl1093_0 (by omega) (by omega)), rfl, rfl⟩))), by rw [ht]; exact hP, hD⟩, hS.F ht⟩) hS.2.2 dX10_paste_186
                        · skip
                          have nc_1101 := nb_nle (59) (1) c_1101 bv_1092 nc_1067.1 (by decide)
                          refine lv_aload_n hx hb dX10_paste_157 rfl (lv_at hl 1 rfl) ?_
                          refine va_get (D := G) (ci := 10) (v := .ref ob_numbers) (C := RX10) (T := TX10) (N := 41) hx hb hw0 inA_wsX100 hown hK.1 hP 0 rfl rfl 39 (by decide) (hw0 _ m_435) (fun _ h9 => h9) rfl dX10_paste_158 ?_
                          refine lv_bipush (v := 60) hx hb dX10_paste_161 (by decide) ?_
                          refine lv_iload_n hx hb dX10_paste_163 rfl (lv_at hl 2 rfl) ?_
                          refine lv_imul hx hb dX10_paste_164 ?_
                          refine lv_topi (fun v_1102 ev_1102 => ?_)
                          obtain rfl : 0 = v_1102 := (ev_1102.trans (by decide)).symm
                          refine lv_iload hx hb dX10_paste_165 (lv_at hl 3 rfl) ?_
                          refine lv_iadd hx hb dX10_paste_167 ?_
                          refine lv_topi (fun v_1103 ev_1103 => ?_)
                          have qv_1103 := ba_add ev_1103 (bkc (x := 0) (c := 0) (by decide)) h_1032 (by decide)
                          have bv_1103 : (0 : Int) ≤ v_1103.toInt ∧ v_1103.toInt ≤ 60 := bq_add qv_1103 (bkc (x := 0) (c := 0) (by decide)) h_1032 _ _ (by decide)
                          have qv_1103 : v_1103.toInt = (0) + a4.toInt := qv_1103
                          refine lv_iload hx hb dX10_paste_168 (lv_at hl 0 rfl) ?_
                          refine lv_iadd hx hb dX10_paste_170 ?_
                          refine lv_topi (fun v_1104 ev_1104 => ?_)
                          have qv_1104 := ba_add ev_1104 bv_1103 nc_1101.1 (by decide)
                          have bv_1104 : (0 : Int) ≤ v_1104.toInt ∧ v_1104.toInt ≤ 119 := bq_add qv_1104 bv_1103 nc_1101.1 _ _ (by decide)
                          refine lv_aload_n hx hb dX10_paste_171 rfl (lv_at hl 1 rfl) ?_
                          refine va_get (D := G) (ci := 10) (v := .ref ob_moving) (C := RX10) (T := TX10) (N := 41) hx hb hw0 inA_wsX100 hown hK.1 hP 0 rfl rfl 40 (by decide) (hw0 _ m_529) (fun _ h9 => h9) rfl dX10_paste_172 ?_
                          refine lv_iload hx hb dX10_paste_175 (lv_at hl 0 rfl) ?_
                          refine va_lald hx hb hK.1 hP 4 2 rfl rfl (vi nc_1101.1 (by decide)) dX10_paste_177 ?_
                          refine lv_topl (fun v_1105 ev_1105 => ?_)
                          refine va_last hx hb hK.1 hP hD hS 3 2 rfl rfl (vi bv_1104 (by decide)) dX10_paste_178 (fun H locs hP hD hS => ?_)
                          generalize hf_1106 : (vp_updL f_1093 (v_1104 : Int32).toNatClampNeg v_1105) = f_1106 at hP hD
                          obtain ⟨hP, hD⟩ : vPD G A H [(ce_X10 ob ob_thrown ob_world ob_images ob_hasImage ob_tape ob_taped ob_five ob_size ob_at ob_from ob_token ob_value ob_faultKind ob_faultPlace ob_fresh ob_parts ob_houses ob_houseMany ob_worthOf ob_byCall ob_over ob_bestSet ob_bestOver ob_bestWorth ob_row ob_tenDebts ob_tenMany ob_fewestBy ob_covered ob_queue ob_cameBy ob_parent ob_met ob_calls ob_callMany ob_calledOn ob_saved ob_many ob_width ob_numbers ob_moving), (ce_i4 y ob_many fob_many), (ce_i4 y ob_width fob_width), (ce_l240 y ob_numbers f_1106), (ce_l60 y ob_moving f_1059)] := ⟨hP, hD⟩
                          obtain ⟨v_1107, ev_1107⟩ : ∃ z : Int32, z = v_1092 + 1 := ⟨_, rfl⟩
                          have qv_1107 := ba_add ev_1107 nc_1101.1 (bkc (x := 1) (c := 1) (by decide)) (by decide)
                          have bv_1107 : (1 : Int) ≤ v_1107.toInt ∧ v_1107.toInt ≤ 60 := bq_add qv_1107 nc_1101.1 (bkc (x := 1) (c := 1) (by decide)) _ _ (by decide)
                          have qv_1107 : v_1107.toInt = v_1092.toInt + (1) := qv_1107
                          refine lv_iinc (v := v_1107) (lv' := [(6, .int v_1107), (0, .ref ob), (3, .int 0), (4, .int a4), (5, .int a5)]) hx hb dX10_paste_179 hl (k := 0) rfl (ev_1107.symm) (by decide) rfl (fun ls hl => ?_)
                          refine lv_goto (tgt := 150) hx hb dX10_paste_182 (by decide) ?_
                          exact ih_1100 _ (ml_inc (hi := 60) hn_1100 qv_1107 (by decide) ((bw (0) (60) bv_1107 (by decide))).2) _ _ _ _ ⟨v_1107, f_1106, rfl, (bw (0) (60) bv_1107 (by decide)), (nl_s rl1093_0 hf_1106 ev_1105 (by omega) (by omega) (by omega) (by omega)), (by omega), rfl, ⟨hP, hD⟩, hS, lv_sub hl [0, 1, 2, 3, 4] rfl⟩
                      · skip
                        have nc_1067 := nb_nle (59) (1) c_1067 bv_1058 h_1033 (by decide)
                        refine lv_aload_n hx hb dX10_paste_120 rfl (lv_at hl 1 rfl) ?_
                        refine va_get (D := G) (ci := 10) (v := .ref ob_moving) (C := RX10) (T := TX10) (N := 41) hx hb hw0 inA_wsX100 hown hK.1 hP 0 rfl rfl 40 (by decide) (hw0 _ m_529) (fun _ h9 => h9) rfl dX10_paste_121 ?_
                        refine lv_iload hx hb dX10_paste_124 (lv_at hl 0 rfl) ?_
                        refine lv_aload_n hx hb dX10_paste_126 rfl (lv_at hl 1 rfl) ?_
                        refine va_get (D := G) (ci := 10) (v := .ref ob_numbers) (C := RX10) (T := TX10) (N := 41) hx hb hw0 inA_wsX100 hown hK.1 hP 0 rfl rfl 39 (by decide) (hw0 _ m_435) (fun _ h9 => h9) rfl dX10_paste_127 ?_
                        refine lv_bipush (v := 60) hx hb dX10_paste_130 (by decide) ?_
                        refine lv_iload_n hx hb dX10_paste_132 rfl (lv_at hl 2 rfl) ?_
                        refine lv_imul hx hb dX10_paste_133 ?_
                        refine lv_topi (fun v_1108 ev_1108 => ?_)
                        obtain rfl : 120 = v_1108 := (ev_1108.trans (by decide)).symm
                        refine lv_iload_n hx hb dX10_paste_134 rfl (lv_at hl 3 rfl) ?_
                        refine lv_iadd hx hb dX10_paste_135 ?_
                        refine lv_topi (fun v_1109 ev_1109 => ?_)
                        have qv_1109 := ba_add ev_1109 (bkc (x := 120) (c := 120) (by decide)) h_1031 (by decide)
                        have bv_1109 : (120 : Int) ≤ v_1109.toInt ∧ v_1109.toInt ≤ 180 := bq_add qv_1109 (bkc (x := 120) (c := 120) (by decide)) h_1031 _ _ (by decide)
                        have qv_1109 : v_1109.toInt = (120) + a2.toInt := qv_1109
                        refine lv_iload hx hb dX10_paste_136 (lv_at hl 0 rfl) ?_
                        refine lv_iadd hx hb dX10_paste_138 ?_
                        refine lv_topi (fun v_1110 ev_1110 => ?_)
                        have qv_1110 := ba_add ev_1110 bv_1109 nc_1067.1 (by decide)
                        have bv_1110 : (120 : Int) ≤ v_1110.toInt ∧ v_1110.toInt ≤ 239 := bq_add qv_1110 bv_1109 nc_1067.1 _ _ (by decide)
                        refine va_lald hx hb hK.1 hP 3 2 rfl rfl (vi bv_1110 (by decide)) dX10_paste_139 ?_
                        refine lv_topl (fun v_1111 ev_1111 => ?_)
                        refine va_last hx hb hK.1 hP hD hS 4 2 rfl rfl (vi nc_1067.1 (by decide)) dX10_paste_140 (fun H locs hP hD hS => ?_)
                        generalize hf_1112 : (vp_updL f_1059 (v_1058 : Int32).toNatClampNeg v_1111) = f_1112 at hP hD
                        obtain ⟨hP, hD⟩ : vPD G A H [(ce_X10 ob ob_thrown ob_world ob_images ob_hasImage ob_tape ob_taped ob_five ob_size ob_at ob_from ob_token ob_value ob_faultKind ob_faultPlace ob_fresh ob_parts ob_houses ob_houseMany ob_worthOf ob_byCall ob_over ob_bestSet ob_bestOver ob_bestWorth ob_row ob_tenDebts ob_tenMany ob_fewestBy ob_covered ob_queue ob_cameBy ob_parent ob_met ob_calls ob_callMany ob_calledOn ob_saved ob_many ob_width ob_numbers ob_moving), (ce_i4 y ob_many fob_many), (ce_i4 y ob_width fob_width), (ce_l240 y ob_numbers fob_numbers), (ce_l60 y ob_moving f_1112)] := ⟨hP, hD⟩
                        obtain ⟨v_1113, ev_1113⟩ : ∃ z : Int32, z = v_1058 + 1 := ⟨_, rfl⟩
                        have qv_1113 := ba_add ev_1113 nc_1067.1 (bkc (x := 1) (c := 1) (by decide)) (by decide)
                        have bv_1113 : (1 : Int) ≤ v_1113.toInt ∧ v_1113.toInt ≤ 60 := bq_add qv_1113 nc_1067.1 (bkc (x := 1) (c := 1) (by decide)) _ _ (by decide)
                        have qv_1113 : v_1113.toInt = v_1058.toInt + (1) := qv_1113
                        refine lv_iinc (v := v_1113) (lv' := [(6, .int v_1113), (0, .ref ob), (1, .int 2), (2, .int a2), (3, .int 0), (4, .int a4), (5, .int a5)]) hx hb dX10_paste_141 hl (k := 0) rfl (ev_1113.symm) (by decide) rfl (fun ls hl => ?_)
                        refine lv_goto (tgt := 113) hx hb dX10_paste_144 (by decide) ?_
                        exact ih_1066 _ (ml_inc (hi := 60) hn_1066 qv_1113 (by decide) ((bw (0) (60) bv_1113 (by decide))).2) _ _ _ _ ⟨v_1113, f_1112, rfl, (bw (0) (60) bv_1113 (by decide)), (ml_s rl1059_0 hf_1112 ev_1111 (by omega) (by omega) (by omega) (by omega)), rfl, ⟨hP, hD⟩, hS, lv_sub hl [0, 1, 2, 3, 4, 5, 6] rfl⟩
                    · skip
                      have nc_1030 := jl_nle c_1030
                      refine lv_bipush (v := (-7)) hx hb dX10_paste_107 (by decide) ?_
                      exact W.iret (v := (-7)) hx hb hr (fun t ht hW => ⟨⟨(-7), _, rfl, Or.inr (Or.inl (⟨by have h90 : Int32.toInt (-7) = -7 := (by decide); have h91 : Int32.toInt 0 = 0 := (by decide); have h92 : Int32.toInt 2 = 2 := (by decide); omega, rfl, rfl⟩)), by rw [ht]; exact hP, hD⟩, hS.F ht⟩) hS.2.2 dX10_paste_109
          · skip
            have nc_1015 : v_1013.toInt ≠ v_1014.toInt := fun h9 => c_1015 (Int32.toInt_inj.mp h9)
            refine lv_bipush (v := (-8)) hx hb dX10_paste_55 (by decide) ?_
            exact W.iret (v := (-8)) hx hb hr (fun t ht hW => ⟨⟨(-8), _, rfl, Or.inr (Or.inr (Or.inl (⟨by have h90 : Int32.toInt (-8) = -8 := (by decide); have h91 : Int32.toInt 0 = 0 := (by decide); have h92 : Int32.toInt 2 = 2 := (by decide); omega, rfl, rfl⟩))), by rw [ht]; exact hP, hD⟩, hS.F ht⟩) hS.2.2 dX10_paste_57
        · skip
          have nc_1012 := nb_eq (-1) (-1) c_1012 bv_1011 (bkc (x := (-1)) (c := -1) (by decide)) (by decide)
          refine lv_bipush (v := (-6)) hx hb dX10_paste_37 (by decide) ?_
          exact W.iret (v := (-6)) hx hb hr (fun t ht hW => ⟨⟨(-6), _, rfl, Or.inl (⟨by have h90 : Int32.toInt (-6) = -6 := (by decide); have h91 : Int32.toInt 0 = 0 := (by decide); have h92 : Int32.toInt 2 = 2 := (by decide); omega, rfl, rfl⟩), by rw [ht]; exact hP, hD⟩, hS.F ht⟩) hS.2.2 dX10_paste_39

set_option maxHeartbeats 4000000 in
set_option maxRecDepth 100000 in
theorem fpasteM21 (l : Launch) (G : va_G) (y : Nat → ClassId) (sz : Nat) (ob : Nat) (a2 : Int32) (a4 : Int32) (a5 : Int32) (ob_thrown : Int32) (ob_world : Nat) (ob_images : Nat) (ob_hasImage : Nat) (ob_tape : Nat) (ob_taped : Int32) (ob_five : Nat) (ob_size : Int32) (ob_at : Int32) (ob_from : Int32) (ob_token : Int32) (ob_value : Int32) (ob_faultKind : Int32) (ob_faultPlace : Int32) (ob_fresh : Nat) (ob_parts : Nat) (ob_houses : Nat) (ob_houseMany : Int32) (ob_worthOf : Nat) (ob_byCall : Nat) (ob_over : Nat) (ob_bestSet : Int32) (ob_bestOver : Int32) (ob_bestWorth : Int32) (ob_row : Nat) (ob_tenDebts : Nat) (ob_tenMany : Int32) (ob_fewestBy : Nat) (ob_covered : Nat) (ob_queue : Nat) (ob_cameBy : Nat) (ob_parent : Nat) (ob_met : Nat) (ob_calls : Nat) (ob_callMany : Int32) (ob_calledOn : Nat) (ob_saved : Nat) (ob_many : Nat) (ob_width : Nat) (ob_numbers : Nat) (ob_moving : Nat) (fob_many : Nat → Int32) (fob_width : Nat → Int32) (fob_numbers : Nat → Int64) (fob_moving : Nat → Int64) (p_ob_taped : (0 : Int) ≤ ob_taped.toInt ∧ ob_taped.toInt ≤ 1400) (p_ob_size : (0 : Int) ≤ ob_size.toInt ∧ ob_size.toInt ≤ 1400) (p_ob_at : (0 : Int) ≤ ob_at.toInt ∧ ob_at.toInt ≤ 1400) (p_ob_from : (0 : Int) ≤ ob_from.toInt ∧ ob_from.toInt ≤ 1400) (p_ob_token : (0 : Int) ≤ ob_token.toInt ∧ ob_token.toInt ≤ 4) (p_ob_value : (0 : Int) ≤ ob_value.toInt ∧ ob_value.toInt ≤ 9999) (p_ob_faultKind : (0 : Int) ≤ ob_faultKind.toInt ∧ ob_faultKind.toInt ≤ 3) (p_ob_houseMany : (0 : Int) ≤ ob_houseMany.toInt ∧ ob_houseMany.toInt ≤ 10) (p_ob_bestSet : (0 : Int) ≤ ob_bestSet.toInt ∧ ob_bestSet.toInt ≤ 1023) (p_ob_bestOver : (-1 : Int) ≤ ob_bestOver.toInt ∧ ob_bestOver.toInt ≤ 180) (p_ob_tenMany : (0 : Int) ≤ ob_tenMany.toInt ∧ ob_tenMany.toInt ≤ 10) (p_ob_callMany : (0 : Int) ≤ ob_callMany.toInt ∧ ob_callMany.toInt ≤ 16) (p_fob_many : ∀ i, (-1 : Int) ≤ (fob_many i).toInt ∧ (fob_many i).toInt ≤ 60) (p_fob_width : ∀ i, (0 : Int) ≤ (fob_width i).toInt ∧ (fob_width i).toInt ≤ 3) : Met l yX10_paste (Cond.code yX10_paste cX10_paste 7 (some .int) :: wAll) ({ frames := 2, cells := 0, slots := 0, locals := 45 }) (va_Pc [.ref ob, .int 2, .int a2, .int 1, .int a4, .int a5] (kp G y sz [(ce_X10 ob ob_thrown ob_world ob_images ob_hasImage ob_tape ob_taped ob_five ob_size ob_at ob_from ob_token ob_value ob_faultKind ob_faultPlace ob_fresh ob_parts ob_houses ob_houseMany ob_worthOf ob_byCall ob_over ob_bestSet ob_bestOver ob_bestWorth ob_row ob_tenDebts ob_tenMany ob_fewestBy ob_covered ob_queue ob_cameBy ob_parent ob_met ob_calls ob_callMany ob_calledOn ob_saved ob_many ob_width ob_numbers ob_moving), (ce_i4 y ob_many fob_many), (ce_i4 y ob_width fob_width), (ce_l240 y ob_numbers fob_numbers), (ce_l60 y ob_moving fob_moving)])) (va_Qi (fun (r : Int32) (w : va_W) => (((fob_many 2).toInt = -1 ∨ (fob_many 1).toInt = -1) ∧ r = (-6) ∧ w = [(ce_X10 ob ob_thrown ob_world ob_images ob_hasImage ob_tape ob_taped ob_five ob_size ob_at ob_from ob_token ob_value ob_faultKind ob_faultPlace ob_fresh ob_parts ob_houses ob_houseMany ob_worthOf ob_byCall ob_over ob_bestSet ob_bestOver ob_bestWorth ob_row ob_tenDebts ob_tenMany ob_fewestBy ob_covered ob_queue ob_cameBy ob_parent ob_met ob_calls ob_callMany ob_calledOn ob_saved ob_many ob_width ob_numbers ob_moving), (ce_i4 y ob_many fob_many), (ce_i4 y ob_width fob_width), (ce_l240 y ob_numbers fob_numbers), (ce_l60 y ob_moving fob_moving)]) ∨ ((¬ (fob_many 2).toInt = -1 ∧ ¬ (fob_many 1).toInt = -1 ∧ (fob_width 2).toInt = (fob_width 1).toInt ∧ ¬ (0 ≤ a2.toInt ∧ 0 ≤ a4.toInt ∧ 0 ≤ a5.toInt ∧ a2.toInt + a5.toInt ≤ (fob_many 2).toInt ∧ a4.toInt + a5.toInt ≤ (fob_many 1).toInt)) ∧ r = (-7) ∧ w = [(ce_X10 ob ob_thrown ob_world ob_images ob_hasImage ob_tape ob_taped ob_five ob_size ob_at ob_from ob_token ob_value ob_faultKind ob_faultPlace ob_fresh ob_parts ob_houses ob_houseMany ob_worthOf ob_byCall ob_over ob_bestSet ob_bestOver ob_bestWorth ob_row ob_tenDebts ob_tenMany ob_fewestBy ob_covered ob_queue ob_cameBy ob_parent ob_met ob_calls ob_callMany ob_calledOn ob_saved ob_many ob_width ob_numbers ob_moving), (ce_i4 y ob_many fob_many), (ce_i4 y ob_width fob_width), (ce_l240 y ob_numbers fob_numbers), (ce_l60 y ob_moving fob_moving)]) ∨ ((¬ (fob_many 2).toInt = -1 ∧ ¬ (fob_many 1).toInt = -1 ∧ ¬ (fob_width 2).toInt = (fob_width 1).toInt) ∧ r = (-8) ∧ w = [(ce_X10 ob ob_thrown ob_world ob_images ob_hasImage ob_tape ob_taped ob_five ob_size ob_at ob_from ob_token ob_value ob_faultKind ob_faultPlace ob_fresh ob_parts ob_houses ob_houseMany ob_worthOf ob_byCall ob_over ob_bestSet ob_bestOver ob_bestWorth ob_row ob_tenDebts ob_tenMany ob_fewestBy ob_covered ob_queue ob_cameBy ob_parent ob_met ob_calls ob_callMany ob_calledOn ob_saved ob_many ob_width ob_numbers ob_moving), (ce_i4 y ob_many fob_many), (ce_i4 y ob_width fob_width), (ce_l240 y ob_numbers fob_numbers), (ce_l60 y ob_moving fob_moving)]) ∨ (∃ (f_227 : Nat → Int64) (f_228 : Nat → Int64), ((0 : Int) ≤ a2.toInt ∧ a2.toInt ≤ 60) ∧ ((0 : Int) ≤ a4.toInt ∧ a4.toInt ≤ 60) ∧ ((0 : Int) ≤ a5.toInt ∧ a5.toInt ≤ 60) ∧ (¬ (fob_many 2).toInt = -1 ∧ ¬ (fob_many 1).toInt = -1 ∧ (fob_width 2).toInt = (fob_width 1).toInt ∧ 0 ≤ a2.toInt ∧ 0 ≤ a4.toInt ∧ 0 ≤ a5.toInt ∧ a2.toInt + a5.toInt ≤ (fob_many 2).toInt ∧ a4.toInt + a5.toInt ≤ (fob_many 1).toInt) ∧ (pL f_227 fob_numbers (120 + a2.toInt.toNat) (60 + a4.toInt.toNat) a5.toInt) ∧ r = 0 ∧ w = [(ce_X10 ob ob_thrown ob_world ob_images ob_hasImage ob_tape ob_taped ob_five ob_size ob_at ob_from ob_token ob_value ob_faultKind ob_faultPlace ob_fresh ob_parts ob_houses ob_houseMany ob_worthOf ob_byCall ob_over ob_bestSet ob_bestOver ob_bestWorth ob_row ob_tenDebts ob_tenMany ob_fewestBy ob_covered ob_queue ob_cameBy ob_parent ob_met ob_calls ob_callMany ob_calledOn ob_saved ob_many ob_width ob_numbers ob_moving), (ce_i4 y ob_many fob_many), (ce_i4 y ob_width fob_width), (ce_l240 y ob_numbers f_227), (ce_l60 y ob_moving f_228)])) (kq G (va_A [(ce_X10 ob ob_thrown ob_world ob_images ob_hasImage ob_tape ob_taped ob_five ob_size ob_at ob_from ob_token ob_value ob_faultKind ob_faultPlace ob_fresh ob_parts ob_houses ob_houseMany ob_worthOf ob_byCall ob_over ob_bestSet ob_bestOver ob_bestWorth ob_row ob_tenDebts ob_tenMany ob_fewestBy ob_covered ob_queue ob_cameBy ob_parent ob_met ob_calls ob_callMany ob_calledOn ob_saved ob_many ob_width ob_numbers ob_moving), (ce_i4 y ob_many fob_many), (ce_i4 y ob_width fob_width), (ce_l240 y ob_numbers fob_numbers), (ce_l60 y ob_moving fob_moving)] sz)) (va_A [(ce_X10 ob ob_thrown ob_world ob_images ob_hasImage ob_tape ob_taped ob_five ob_size ob_at ob_from ob_token ob_value ob_faultKind ob_faultPlace ob_fresh ob_parts ob_houses ob_houseMany ob_worthOf ob_byCall ob_over ob_bestSet ob_bestOver ob_bestWorth ob_row ob_tenDebts ob_tenMany ob_fewestBy ob_covered ob_queue ob_cameBy ob_parent ob_met ob_calls ob_callMany ob_calledOn ob_saved ob_many ob_width ob_numbers ob_moving), (ce_i4 y ob_many fob_many), (ce_i4 y ob_width fob_width), (ce_l240 y ob_numbers fob_numbers), (ce_l60 y ob_moving fob_moving)] sz)) 0 0 (va_A [(ce_X10 ob ob_thrown ob_world ob_images ob_hasImage ob_tape ob_taped ob_five ob_size ob_at ob_from ob_token ob_value ob_faultKind ob_faultPlace ob_fresh ob_parts ob_houses ob_houseMany ob_worthOf ob_byCall ob_over ob_bestSet ob_bestOver ob_bestWorth ob_row ob_tenDebts ob_tenMany ob_fewestBy ob_covered ob_queue ob_cameBy ob_parent ob_met ob_calls ob_callMany ob_calledOn ob_saved ob_many ob_width ob_numbers ob_moving), (ce_i4 y ob_many fob_many), (ce_i4 y ob_width fob_width), (ce_l240 y ob_numbers fob_numbers), (ce_l60 y ob_moving fob_moving)] sz) := by
  refine Met.ofW (cc := cX10_paste) (maxL := 7) (ret := (some .int)) (by decide) rfl ?_
  intro p e s m args below meth c s₁ B hml hv
  obtain ⟨rfl, hsz, hP, hK, hD0⟩ := hv
  have hx := B.exec
  have hb := B.bytes
  have hr := B.returns
  have hw0 : ∀ w ∈ wAll, w.before _ s = true := fun w h => atoms_spec (ws := Cond.code yX10_paste cX10_paste 7 (some .int) :: wAll) B.pre w (List.mem_cons_of_mem _ h)
  have hown : s.vm.findClass RX10 = some m.cls := findClass_of_methodNamed B.named
  subst hsz
  have hD := hD0.self (sz := s.heap.size)
  generalize hAe : va_A [(ce_X10 ob ob_thrown ob_world ob_images ob_hasImage ob_tape ob_taped ob_five ob_size ob_at ob_from ob_token ob_value ob_faultKind ob_faultPlace ob_fresh ob_parts ob_houses ob_houseMany ob_worthOf ob_byCall ob_over ob_bestSet ob_bestOver ob_bestWorth ob_row ob_tenDebts ob_tenMany ob_fewestBy ob_covered ob_queue ob_cameBy ob_parent ob_met ob_calls ob_callMany ob_calledOn ob_saved ob_many ob_width ob_numbers ob_moving), (ce_i4 y ob_many fob_many), (ce_i4 y ob_width fob_width), (ce_l240 y ob_numbers fob_numbers), (ce_l60 y ob_moving fob_moving)] s.heap.size = A at hD ⊢
  have hA : ∀ q : Nat, s.heap.size ≤ q → A q := fun q h => by rw [← hAe]; exact Or.inr h
  have hS : va_S A s.heap s.heap [] := va_S.rf
  have hP : va_P G vwCl [(ce_X10 ob ob_thrown ob_world ob_images ob_hasImage ob_tape ob_taped ob_five ob_size ob_at ob_from ob_token ob_value ob_faultKind ob_faultPlace ob_fresh ob_parts ob_houses ob_houseMany ob_worthOf ob_byCall ob_over ob_bestSet ob_bestOver ob_bestWorth ob_row ob_tenDebts ob_tenMany ob_fewestBy ob_covered ob_queue ob_cameBy ob_parent ob_met ob_calls ob_callMany ob_calledOn ob_saved ob_many ob_width ob_numbers ob_moving), (ce_i4 y ob_many fob_many), (ce_i4 y ob_width fob_width), (ce_l240 y ob_numbers fob_numbers), (ce_l60 y ob_moving fob_moving)] s.heap := hP
  have hl := lv_entry ([.ref ob, .int 2, .int a2, .int 1, .int a4, .int a5]) (n := 7) (Nat.le_of_ble_eq_true rfl)
  rw [lg_entry_eq]
  generalize (lg_sl ([.ref ob, .int 2, .int a2, .int 1, .int a4, .int a5]) ++ List.replicate (7 - (lg_sl ([.ref ob, .int 2, .int a2, .int 1, .int a4, .int a5])).length) Slot.unset).toArray = ls at hl ⊢
  have hl : lv_has ls 7 [(0, .ref ob), (1, .int 2), (2, .int a2), (3, .int 1), (4, .int a4), (5, .int a5)] := hl
  refine lv_iload_n hx hb dX10_paste_0 rfl (lv_at hl 1 rfl) ?_
  refine cSim (As := [.int 2]) (rest := []) ⟨hx, hb, hml, hown, hw0⟩ hA hK hP hD hS [] (gisSlotM l G y _ 2 ) rfl ⟨(callB_of 1 hw0 (gA m_543) rfl rfl rfl (hw0 _ m_41) (hw0 _ m_433) cb_X10_isSlot ⟨Nat.le_of_ble_eq_true rfl, Nat.le_of_ble_eq_true rfl⟩), (hw0 _ m_434)⟩ rfl hl.1 (Nat.le_of_ble_eq_true rfl) dX10_paste_1 ⟨Nat.le_of_ble_eq_true rfl, Nat.le_of_ble_eq_true rfl⟩ (fun r_1001 w_1001 H locs hw_1001 hP hD hS => ?_)
  rcases hw_1001 with ⟨h_1002, rfl, rfl⟩ | ⟨h_1003, h_1004, rfl, rfl⟩
  · skip
    exact False.elim (by have h9 : Int32.toInt 2 = 2 := (by decide); omega)
  · skip
    obtain ⟨hP, hD⟩ : vPD G A H [(ce_X10 ob ob_thrown ob_world ob_images ob_hasImage ob_tape ob_taped ob_five ob_size ob_at ob_from ob_token ob_value ob_faultKind ob_faultPlace ob_fresh ob_parts ob_houses ob_houseMany ob_worthOf ob_byCall ob_over ob_bestSet ob_bestOver ob_bestWorth ob_row ob_tenDebts ob_tenMany ob_fewestBy ob_covered ob_queue ob_cameBy ob_parent ob_met ob_calls ob_callMany ob_calledOn ob_saved ob_many ob_width ob_numbers ob_moving), (ce_i4 y ob_many fob_many), (ce_i4 y ob_width fob_width), (ce_l240 y ob_numbers fob_numbers), (ce_l60 y ob_moving fob_moving)] := ⟨hP, hD⟩
    refine lv_if_eq (tgt := 14) hx hb dX10_paste_4 (by decide) (fun c9 => absurd c9 (by decide)) (fun _ => ?_)
    refine lv_iload_n hx hb dX10_paste_7 rfl (lv_at hl 3 rfl) ?_
    refine cSim (As := [.int 1]) (rest := []) ⟨hx, hb, hml, hown, hw0⟩ hA hK hP hD hS [] (gisSlotM l G y _ 1 ) rfl ⟨(callB_of 1 hw0 (gA m_543) rfl rfl rfl (hw0 _ m_41) (hw0 _ m_433) cb_X10_isSlot ⟨Nat.le_of_ble_eq_true rfl, Nat.le_of_ble_eq_true rfl⟩), (hw0 _ m_434)⟩ rfl hl.1 (Nat.le_of_ble_eq_true rfl) dX10_paste_8 ⟨Nat.le_of_ble_eq_true rfl, Nat.le_of_ble_eq_true rfl⟩ (fun r_1005 w_1005 H locs hw_1005 hP hD hS => ?_)
    rcases hw_1005 with ⟨h_1006, rfl, rfl⟩ | ⟨h_1007, h_1008, rfl, rfl⟩
    · skip
      exact False.elim (by have h9 : Int32.toInt 1 = 1 := (by decide); omega)
    · skip
      obtain ⟨hP, hD⟩ : vPD G A H [(ce_X10 ob ob_thrown ob_world ob_images ob_hasImage ob_tape ob_taped ob_five ob_size ob_at ob_from ob_token ob_value ob_faultKind ob_faultPlace ob_fresh ob_parts ob_houses ob_houseMany ob_worthOf ob_byCall ob_over ob_bestSet ob_bestOver ob_bestWorth ob_row ob_tenDebts ob_tenMany ob_fewestBy ob_covered ob_queue ob_cameBy ob_parent ob_met ob_calls ob_callMany ob_calledOn ob_saved ob_many ob_width ob_numbers ob_moving), (ce_i4 y ob_many fob_many), (ce_i4 y ob_width fob_width), (ce_l240 y ob_numbers fob_numbers), (ce_l60 y ob_moving fob_moving)] := ⟨hP, hD⟩
      refine lv_if_ne (tgt := 17) hx hb dX10_paste_11 (by decide) (fun _ => ?_) (fun c9 => absurd c9 (by decide))
      refine lv_aload_n hx hb dX10_paste_17 rfl (lv_at hl 0 rfl) ?_
      refine va_get (D := G) (ci := 10) (v := .ref ob_many) (C := RX10) (T := TX10) (N := 41) hx hb hw0 inA_wsX100 hown hK.1 hP 0 rfl rfl 37 (by decide) (hw0 _ m_406) (fun _ h9 => h9) rfl dX10_paste_18 ?_
      refine lv_iload_n hx hb dX10_paste_21 rfl (lv_at hl 1 rfl) ?_
      refine va_iald hx hb hK.1 hP 1 1 rfl rfl (vi (bkc (x := 2) (c := 2) (by decide)) (by decide)) dX10_paste_22 ?_
      refine lv_topi (fun v_1009 ev_1009 => ?_)
      have bv_1009 : (-1 : Int) ≤ v_1009.toInt ∧ v_1009.toInt ≤ 60 := rd_b ev_1009 p_fob_many
      have yv_1009 : v_1009.toInt = (fob_many 2).toInt := congrArg Int32.toInt ev_1009
      refine lv_iconst (v := (-1)) hx hb dX10_paste_23 (by decide) ?_
      refine lv_icmp_eq (tgt := 37) hx hb dX10_paste_24 (by decide) (fun c_1010 => ?_) (fun c_1010 => ?_)
      · skip
        have nc_1010 := nb_eq (-1) (-1) c_1010 bv_1009 (bkc (x := (-1)) (c := -1) (by decide)) (by decide)
        refine lv_bipush (v := (-6)) hx hb dX10_paste_37 (by decide) ?_
        exact W.iret (v := (-6)) hx hb hr (fun t ht hW => ⟨⟨(-6), _, rfl, Or.inl (⟨by have h90 : Int32.toInt (-6) = -6 := (by decide); have h91 : Int32.toInt 1 = 1 := (by decide); have h92 : Int32.toInt 2 = 2 := (by decide); omega, rfl, rfl⟩), by rw [ht]; exact hP, hD⟩, hS.F ht⟩) hS.2.2 dX10_paste_39
      · skip
        have nc_1010 := nb_ne (0) (60) c_1010 bv_1009 (k := -1) (by decide) (by decide)
        refine lv_aload_n hx hb dX10_paste_27 rfl (lv_at hl 0 rfl) ?_
        refine va_get (D := G) (ci := 10) (v := .ref ob_many) (C := RX10) (T := TX10) (N := 41) hx hb hw0 inA_wsX100 hown hK.1 hP 0 rfl rfl 37 (by decide) (hw0 _ m_406) (fun _ h9 => h9) rfl dX10_paste_28 ?_
        refine lv_iload_n hx hb dX10_paste_31 rfl (lv_at hl 3 rfl) ?_
        refine va_iald hx hb hK.1 hP 1 1 rfl rfl (vi (bkc (x := 1) (c := 1) (by decide)) (by decide)) dX10_paste_32 ?_
        refine lv_topi (fun v_1011 ev_1011 => ?_)
        have bv_1011 : (-1 : Int) ≤ v_1011.toInt ∧ v_1011.toInt ≤ 60 := rd_b ev_1011 p_fob_many
        have yv_1011 : v_1011.toInt = (fob_many 1).toInt := congrArg Int32.toInt ev_1011
        refine lv_iconst (v := (-1)) hx hb dX10_paste_33 (by decide) ?_
        refine lv_icmp_ne (tgt := 40) hx hb dX10_paste_34 (by decide) (fun c_1012 => ?_) (fun c_1012 => ?_)
        · skip
          have nc_1012 := nb_ne (0) (60) c_1012 bv_1011 (k := -1) (by decide) (by decide)
          refine lv_aload_n hx hb dX10_paste_40 rfl (lv_at hl 0 rfl) ?_
          refine va_get (D := G) (ci := 10) (v := .ref ob_width) (C := RX10) (T := TX10) (N := 41) hx hb hw0 inA_wsX100 hown hK.1 hP 0 rfl rfl 38 (by decide) (hw0 _ m_527) (fun _ h9 => h9) rfl dX10_paste_41 ?_
          refine lv_iload_n hx hb dX10_paste_44 rfl (lv_at hl 1 rfl) ?_
          refine va_iald hx hb hK.1 hP 2 1 rfl rfl (vi (bkc (x := 2) (c := 2) (by decide)) (by decide)) dX10_paste_45 ?_
          refine lv_topi (fun v_1013 ev_1013 => ?_)
          have bv_1013 : (0 : Int) ≤ v_1013.toInt ∧ v_1013.toInt ≤ 3 := rd_b ev_1013 p_fob_width
          have yv_1013 : v_1013.toInt = (fob_width 2).toInt := congrArg Int32.toInt ev_1013
          refine lv_aload_n hx hb dX10_paste_46 rfl (lv_at hl 0 rfl) ?_
          refine va_get (D := G) (ci := 10) (v := .ref ob_width) (C := RX10) (T := TX10) (N := 41) hx hb hw0 inA_wsX100 hown hK.1 hP 0 rfl rfl 38 (by decide) (hw0 _ m_527) (fun _ h9 => h9) rfl dX10_paste_47 ?_
          refine lv_iload_n hx hb dX10_paste_50 rfl (lv_at hl 3 rfl) ?_
          refine va_iald hx hb hK.1 hP 2 1 rfl rfl (vi (bkc (x := 1) (c := 1) (by decide)) (by decide)) dX10_paste_51 ?_
          refine lv_topi (fun v_1014 ev_1014 => ?_)
          have bv_1014 : (0 : Int) ≤ v_1014.toInt ∧ v_1014.toInt ≤ 3 := rd_b ev_1014 p_fob_width
          have yv_1014 : v_1014.toInt = (fob_width 1).toInt := congrArg Int32.toInt ev_1014
          refine lv_icmp_eq (tgt := 58) hx hb dX10_paste_52 (by decide) (fun c_1015 => ?_) (fun c_1015 => ?_)
          · skip
            have nc_1015 := nb_eq (0) (3) c_1015 bv_1013 bv_1014 (by decide)
            refine lv_iload_n hx hb dX10_paste_58 rfl (lv_at hl 2 rfl) ?_
            refine lv_if_lt (tgt := 107) hx hb dX10_paste_59 (by decide) (fun c_1016 => ?_) (fun c_1016 => ?_)
            · skip
              have nc_1016 := nb_lt (-1) (0) c_1016 (btop a2) (bkc (x := 0) (c := 0) (by decide)) (by decide)
              refine lv_bipush (v := (-7)) hx hb dX10_paste_107 (by decide) ?_
              exact W.iret (v := (-7)) hx hb hr (fun t ht hW => ⟨⟨(-7), _, rfl, Or.inr (Or.inl (⟨by have h90 : Int32.toInt (-7) = -7 := (by decide); have h91 : Int32.toInt 1 = 1 := (by decide); have h92 : Int32.toInt 2 = 2 := (by decide); omega, rfl, rfl⟩)), by rw [ht]; exact hP, hD⟩, hS.F ht⟩) hS.2.2 dX10_paste_109
            · skip
              have nc_1016 := nb_nlt (0) (0) c_1016 (bkc (x := 0) (c := 0) (by decide)) (btop a2) (by decide)
              refine lv_iload hx hb dX10_paste_62 (lv_at hl 4 rfl) ?_
              refine lv_if_lt (tgt := 107) hx hb dX10_paste_64 (by decide) (fun c_1017 => ?_) (fun c_1017 => ?_)
              · skip
                have nc_1017 := nb_lt (-1) (0) c_1017 (btop a4) (bkc (x := 0) (c := 0) (by decide)) (by decide)
                refine lv_bipush (v := (-7)) hx hb dX10_paste_107 (by decide) ?_
                exact W.iret (v := (-7)) hx hb hr (fun t ht hW => ⟨⟨(-7), _, rfl, Or.inr (Or.inl (⟨by have h90 : Int32.toInt (-7) = -7 := (by decide); have h91 : Int32.toInt 1 = 1 := (by decide); have h92 : Int32.toInt 2 = 2 := (by decide); omega, rfl, rfl⟩)), by rw [ht]; exact hP, hD⟩, hS.F ht⟩) hS.2.2 dX10_paste_109
              · skip
                have nc_1017 := nb_nlt (0) (0) c_1017 (bkc (x := 0) (c := 0) (by decide)) (btop a4) (by decide)
                refine lv_iload hx hb dX10_paste_67 (lv_at hl 5 rfl) ?_
                refine lv_if_lt (tgt := 107) hx hb dX10_paste_69 (by decide) (fun c_1018 => ?_) (fun c_1018 => ?_)
                · skip
                  have nc_1018 := nb_lt (-1) (0) c_1018 (btop a5) (bkc (x := 0) (c := 0) (by decide)) (by decide)
                  refine lv_bipush (v := (-7)) hx hb dX10_paste_107 (by decide) ?_
                  exact W.iret (v := (-7)) hx hb hr (fun t ht hW => ⟨⟨(-7), _, rfl, Or.inr (Or.inl (⟨by have h90 : Int32.toInt (-7) = -7 := (by decide); have h91 : Int32.toInt 1 = 1 := (by decide); have h92 : Int32.toInt 2 = 2 := (by decide); omega, rfl, rfl⟩)), by rw [ht]; exact hP, hD⟩, hS.F ht⟩) hS.2.2 dX10_paste_109
                · skip
                  have nc_1018 := nb_nlt (0) (0) c_1018 (bkc (x := 0) (c := 0) (by decide)) (btop a5) (by decide)
                  refine lv_iload_n hx hb dX10_paste_72 rfl (lv_at hl 2 rfl) ?_
                  refine lv_i2l hx hb dX10_paste_73 rfl ?_
                  have kk_1019 : ((a2).toInt64).toInt = (a2).toInt := Int32.toInt_toInt64 _
                  refine lv_iload hx hb dX10_paste_74 (lv_at hl 5 rfl) ?_
                  refine lv_i2l hx hb dX10_paste_76 rfl ?_
                  have kk_1020 : ((a5).toInt64).toInt = (a5).toInt := Int32.toInt_toInt64 _
                  refine lv_ladd hx hb dX10_paste_77 ?_
                  refine lv_topl (fun v_1021 ev_1021 => ?_)
                  have qv_1021 := la_add ev_1021
                  refine lv_aload_n hx hb dX10_paste_78 rfl (lv_at hl 0 rfl) ?_
                  refine va_get (D := G) (ci := 10) (v := .ref ob_many) (C := RX10) (T := TX10) (N := 41) hx hb hw0 inA_wsX100 hown hK.1 hP 0 rfl rfl 37 (by decide) (hw0 _ m_406) (fun _ h9 => h9) rfl dX10_paste_79 ?_
                  refine lv_iload_n hx hb dX10_paste_82 rfl (lv_at hl 1 rfl) ?_
                  refine va_iald hx hb hK.1 hP 1 1 rfl rfl (vi (bkc (x := 2) (c := 2) (by decide)) (by decide)) dX10_paste_83 ?_
                  refine lv_topi (fun v_1022 ev_1022 => ?_)
                  obtain rfl : v_1009 = v_1022 := (ev_1022.trans (ev_1009.symm)).symm
                  refine lv_i2l hx hb dX10_paste_84 rfl ?_
                  have kk_1023 : ((v_1009).toInt64).toInt = (v_1009).toInt := Int32.toInt_toInt64 _
                  refine W.lcmp hx hb dX10_paste_85 ?_
                  refine lv_if_gt (tgt := 107) hx hb dX10_paste_86 (by decide) (fun c_1024 => ?_) (fun c_1024 => ?_)
                  · skip
                    have nc_1024 := jl_gt c_1024
                    refine lv_bipush (v := (-7)) hx hb dX10_paste_107 (by decide) ?_
                    exact W.iret (v := (-7)) hx hb hr (fun t ht hW => ⟨⟨(-7), _, rfl, Or.inr (Or.inl (⟨by have h90 : Int32.toInt (-7) = -7 := (by decide); have h91 : Int32.toInt 1 = 1 := (by decide); have h92 : Int32.toInt 2 = 2 := (by decide); omega, rfl, rfl⟩)), by rw [ht]; exact hP, hD⟩, hS.F ht⟩) hS.2.2 dX10_paste_109
                  · skip
                    have nc_1024 := jl_ngt c_1024
                    refine lv_iload hx hb dX10_paste_89 (lv_at hl 4 rfl) ?_
                    refine lv_i2l hx hb dX10_paste_91 rfl ?_
                    have kk_1025 : ((a4).toInt64).toInt = (a4).toInt := Int32.toInt_toInt64 _
                    refine lv_iload hx hb dX10_paste_92 (lv_at hl 5 rfl) ?_
                    refine lv_i2l hx hb dX10_paste_94 rfl ?_
                    have kk_1026 : ((a5).toInt64).toInt = (a5).toInt := Int32.toInt_toInt64 _
                    refine lv_ladd hx hb dX10_paste_95 ?_
                    refine lv_topl (fun v_1027 ev_1027 => ?_)
                    have qv_1027 := la_add ev_1027
                    refine lv_aload_n hx hb dX10_paste_96 rfl (lv_at hl 0 rfl) ?_
                    refine va_get (D := G) (ci := 10) (v := .ref ob_many) (C := RX10) (T := TX10) (N := 41) hx hb hw0 inA_wsX100 hown hK.1 hP 0 rfl rfl 37 (by decide) (hw0 _ m_406) (fun _ h9 => h9) rfl dX10_paste_97 ?_
                    refine lv_iload_n hx hb dX10_paste_100 rfl (lv_at hl 3 rfl) ?_
                    refine va_iald hx hb hK.1 hP 1 1 rfl rfl (vi (bkc (x := 1) (c := 1) (by decide)) (by decide)) dX10_paste_101 ?_
                    refine lv_topi (fun v_1028 ev_1028 => ?_)
                    obtain rfl : v_1011 = v_1028 := (ev_1028.trans (ev_1011.symm)).symm
                    refine lv_i2l hx hb dX10_paste_102 rfl ?_
                    have kk_1029 : ((v_1011).toInt64).toInt = (v_1011).toInt := Int32.toInt_toInt64 _
                    refine W.lcmp hx hb dX10_paste_103 ?_
                    refine lv_if_le (tgt := 110) hx hb dX10_paste_104 (by decide) (fun c_1030 => ?_) (fun c_1030 => ?_)
                    · skip
                      have nc_1030 := jl_le c_1030
                      have h_1031 : (0 : Int) ≤ a2.toInt ∧ a2.toInt ≤ 60 := by omega
                      have h_1032 : (0 : Int) ≤ a4.toInt ∧ a4.toInt ≤ 60 := by omega
                      have h_1033 : (0 : Int) ≤ a5.toInt ∧ a5.toInt ≤ 60 := by omega
                      refine lv_iconst (v := 0) hx hb dX10_paste_110 (by decide) ?_
                      refine lv_istore (lv' := [(6, .int 0), (0, .ref ob), (1, .int 2), (2, .int a2), (3, .int 1), (4, .int a4), (5, .int a5)]) hx hb dX10_paste_111 hl (by decide) rfl (fun ls hl => ?_)
                      refine loopX (fun n H locs ls st => ∃ (v_1058 : Int32) (f_1059 : Nat → Int64), (60 - v_1058.toInt).toNat = n ∧ ((0 : Int) ≤ v_1058.toInt ∧ v_1058.toInt ≤ 60) ∧ (mL f_1059 fob_numbers (120 + a2.toInt.toNat) v_1058.toInt) ∧ st = [] ∧ vPD G A H [(ce_X10 ob ob_thrown ob_world ob_images ob_hasImage ob_tape ob_taped ob_five ob_size ob_at ob_from ob_token ob_value ob_faultKind ob_faultPlace ob_fresh ob_parts ob_houses ob_houseMany ob_worthOf ob_byCall ob_over ob_bestSet ob_bestOver ob_bestWorth ob_row ob_tenDebts ob_tenMany ob_fewestBy ob_covered ob_queue ob_cameBy ob_parent ob_met ob_calls ob_callMany ob_calledOn ob_saved ob_many ob_width ob_numbers ob_moving), (ce_i4 y ob_many fob_many), (ce_i4 y ob_width fob_width), (ce_l240 y ob_numbers fob_numbers), (ce_l60 y ob_moving f_1059)] ∧ va_S A s.heap H locs ∧ lv_has ls 7 [(6, .int v_1058), (0, .ref ob), (1, .int 2), (2, .int a2), (3, .int 1), (4, .int a4), (5, .int a5)]) ?_ (n := (60 - (0 : Int32).toInt).toNat) ⟨0, fob_moving, rfl, (bw (0) (60) (bkc (x := 0) (c := 0) (by decide)) (by decide)), (ml_0 (by have h90 : Int32.toInt 0 = 0 := (by decide); have h91 : Int32.toInt 1 = 1 := (by decide); have h92 : Int32.toInt 2 = 2 := (by decide); omega)), rfl, ⟨hP, hD⟩, hS, lv_sub hl [0, 1, 2, 3, 4, 5, 6] rfl⟩
                      rintro n ih_1066 H locs ls st ⟨v_1058, f_1059, hn_1066, bv_1058, rl1059_0, rfl, ⟨hP, hD⟩, hS, hl⟩
                      refine lv_iload hx hb dX10_paste_113 (lv_at hl 0 rfl) ?_
                      refine lv_iload hx hb dX10_paste_115 (lv_at hl 6 rfl) ?_
                      refine lv_icmp_ge (tgt := 147) hx hb dX10_paste_117 (by decide) (fun c_1067 => ?_) (fun c_1067 => ?_)
                      · skip
                        have nc_1067 := nb_le (60) (0) c_1067 h_1033 bv_1058 (by decide)
                        refine lv_iconst (v := 0) hx hb dX10_paste_147 (by decide) ?_
                        refine lv_istore (lv' := [(6, .int 0), (0, .ref ob), (1, .int 2), (2, .int a2), (3, .int 1), (4, .int a4), (5, .int a5)]) hx hb dX10_paste_148 hl (by decide) rfl (fun ls hl => ?_)
                        refine loopX (fun n H locs ls st => ∃ (v_1092 : Int32) (f_1093 : Nat → Int64), (60 - v_1092.toInt).toNat = n ∧ ((0 : Int) ≤ v_1092.toInt ∧ v_1092.toInt ≤ 60) ∧ (nL f_1093 fob_numbers f_1059 (60 + a4.toInt.toNat) v_1092.toInt) ∧ (v_1092.toInt ≤ a5.toInt) ∧ st = [] ∧ vPD G A H [(ce_X10 ob ob_thrown ob_world ob_images ob_hasImage ob_tape ob_taped ob_five ob_size ob_at ob_from ob_token ob_value ob_faultKind ob_faultPlace ob_fresh ob_parts ob_houses ob_houseMany ob_worthOf ob_byCall ob_over ob_bestSet ob_bestOver ob_bestWorth ob_row ob_tenDebts ob_tenMany ob_fewestBy ob_covered ob_queue ob_cameBy ob_parent ob_met ob_calls ob_callMany ob_calledOn ob_saved ob_many ob_width ob_numbers ob_moving), (ce_i4 y ob_many fob_many), (ce_i4 y ob_width fob_width), (ce_l240 y ob_numbers f_1093), (ce_l60 y ob_moving f_1059)] ∧ va_S A s.heap H locs ∧ lv_has ls 7 [(6, .int v_1092), (0, .ref ob), (3, .int 1), (4, .int a4), (5, .int a5)]) ?_ (n := (60 - (0 : Int32).toInt).toNat) ⟨0, fob_numbers, rfl, (bw (0) (60) (bkc (x := 0) (c := 0) (by decide)) (by decide)), (nl_0 (by have h90 : Int32.toInt 0 = 0 := (by decide); have h91 : Int32.toInt 1 = 1 := (by decide); have h92 : Int32.toInt 2 = 2 := (by decide); omega)), (by have h90 : Int32.toInt 0 = 0 := (by decide); omega), rfl, ⟨hP, hD⟩, hS, lv_sub hl [0, 1, 4, 5, 6] rfl⟩
                        rintro n ih_1100 H locs ls st ⟨v_1092, f_1093, hn_1100, bv_1092, rl1093_0, rl1093_1, rfl, ⟨hP, hD⟩, hS, hl⟩
                        refine lv_iload hx hb dX10_paste_150 (lv_at hl 0 rfl) ?_
                        refine lv_iload hx hb dX10_paste_152 (lv_at hl 4 rfl) ?_
                        refine lv_icmp_ge (tgt := 185) hx hb dX10_paste_154 (by decide) (fun c_1101 => ?_) (fun c_1101 => ?_)
                        · skip
                          have nc_1101 := nb_le (60) (0) c_1101 nc_1067.1 bv_1092 (by decide)
                          refine lv_iconst (v := 0) hx hb dX10_paste_185 (by decide) ?_
                          exact W.iret (v := 0) hx hb hr (fun t ht hW => ⟨⟨0, _, rfl, Or.inr (Or.inr (Or.inr (⟨f_1093, f_1059, h_1031, h_1032, nc_1101.1, by have h90 : Int32.toInt 0 = 0 := (by decide); have h91 : Int32.toInt 1 = 1 := (by decide); omega, (pl_e rl1059_0 rl1093_0 (by omega) (by omega)), rfl, rfl⟩))), by rw [ht]; exact hP, hD⟩, hS.F ht⟩) hS.2.2 dX10_paste_186
                        · skip
                          have nc_1101 := nb_nle (59) (1) c_1101 bv_1092 nc_1067.1 (by decide)
                          refine lv_aload_n hx hb dX10_paste_157 rfl (lv_at hl 1 rfl) ?_
                          refine va_get (D := G) (ci := 10) (v := .ref ob_numbers) (C := RX10) (T := TX10) (N := 41) hx hb hw0 inA_wsX100 hown hK.1 hP 0 rfl rfl 39 (by decide) (hw0 _ m_435) (fun _ h9 => h9) rfl dX10_paste_158 ?_
                          refine lv_bipush (v := 60) hx hb dX10_paste_161 (by decide) ?_
                          refine lv_iload_n hx hb dX10_paste_163 rfl (lv_at hl 2 rfl) ?_
                          refine lv_imul hx hb dX10_paste_164 ?_
                          refine lv_topi (fun v_1102 ev_1102 => ?_)
                          obtain rfl : 60 = v_1102 := (ev_1102.trans (by decide)).symm
                          refine lv_iload hx hb dX10_paste_165 (lv_at hl 3 rfl) ?_
                          refine lv_iadd hx hb dX10_paste_167 ?_
                          refine lv_topi (fun v_1103 ev_1103 => ?_)
                          have qv_1103 := ba_add ev_1103 (bkc (x := 60) (c := 60) (by decide)) h_1032 (by decide)
                          have bv_1103 : (60 : Int) ≤ v_1103.toInt ∧ v_1103.toInt ≤ 120 := bq_add qv_1103 (bkc (x := 60) (c := 60) (by decide)) h_1032 _ _ (by decide)
                          have qv_1103 : v_1103.toInt = (60) + a4.toInt := qv_1103
                          refine lv_iload hx hb dX10_paste_168 (lv_at hl 0 rfl) ?_
                          refine lv_iadd hx hb dX10_paste_170 ?_
                          refine lv_topi (fun v_1104 ev_1104 => ?_)
                          have qv_1104 := ba_add ev_1104 bv_1103 nc_1101.1 (by decide)
                          have bv_1104 : (60 : Int) ≤ v_1104.toInt ∧ v_1104.toInt ≤ 179 := bq_add qv_1104 bv_1103 nc_1101.1 _ _ (by decide)
                          refine lv_aload_n hx hb dX10_paste_171 rfl (lv_at hl 1 rfl) ?_
                          refine va_get (D := G) (ci := 10) (v := .ref ob_moving) (C := RX10) (T := TX10) (N := 41) hx hb hw0 inA_wsX100 hown hK.1 hP 0 rfl rfl 40 (by decide) (hw0 _ m_529) (fun _ h9 => h9) rfl dX10_paste_172 ?_
                          refine lv_iload hx hb dX10_paste_175 (lv_at hl 0 rfl) ?_
                          refine va_lald hx hb hK.1 hP 4 2 rfl rfl (vi nc_1101.1 (by decide)) dX10_paste_177 ?_
                          refine lv_topl (fun v_1105 ev_1105 => ?_)
                          refine va_last hx hb hK.1 hP hD hS 3 2 rfl rfl (vi bv_1104 (by decide)) dX10_paste_178 (fun H locs hP hD hS => ?_)
                          generalize hf_1106 : (vp_updL f_1093 (v_1104 : Int32).toNatClampNeg v_1105) = f_1106 at hP hD
                          obtain ⟨hP, hD⟩ : vPD G A H [(ce_X10 ob ob_thrown ob_world ob_images ob_hasImage ob_tape ob_taped ob_five ob_size ob_at ob_from ob_token ob_value ob_faultKind ob_faultPlace ob_fresh ob_parts ob_houses ob_houseMany ob_worthOf ob_byCall ob_over ob_bestSet ob_bestOver ob_bestWorth ob_row ob_tenDebts ob_tenMany ob_fewestBy ob_covered ob_queue ob_cameBy ob_parent ob_met ob_calls ob_callMany ob_calledOn ob_saved ob_many ob_width ob_numbers ob_moving), (ce_i4 y ob_many fob_many), (ce_i4 y ob_width fob_width), (ce_l240 y ob_numbers f_1106), (ce_l60 y ob_moving f_1059)] := ⟨hP, hD⟩
                          obtain ⟨v_1107, ev_1107⟩ : ∃ z : Int32, z = v_1092 + 1 := ⟨_, rfl⟩
                          have qv_1107 := ba_add ev_1107 nc_1101.1 (bkc (x := 1) (c := 1) (by decide)) (by decide)
                          have bv_1107 : (1 : Int) ≤ v_1107.toInt ∧ v_1107.toInt ≤ 60 := bq_add qv_1107 nc_1101.1 (bkc (x := 1) (c := 1) (by decide)) _ _ (by decide)
                          have qv_1107 : v_1107.toInt = v_1092.toInt + (1) := qv_1107
                          refine lv_iinc (v := v_1107) (lv' := [(6, .int v_1107), (0, .ref ob), (3, .int 1), (4, .int a4), (5, .int a5)]) hx hb dX10_paste_179 hl (k := 0) rfl (ev_1107.symm) (by decide) rfl (fun ls hl => ?_)
                          refine lv_goto (tgt := 150) hx hb dX10_paste_182 (by decide) ?_
                          exact ih_1100 _ (ml_inc (hi := 60) hn_1100 qv_1107 (by decide) ((bw (0) (60) bv_1107 (by decide))).2) _ _ _ _ ⟨v_1107, f_1106, rfl, (bw (0) (60) bv_1107 (by decide)), (nl_s rl1093_0 hf_1106 ev_1105 (by omega) (by omega) (by omega) (by omega)), (by omega), rfl, ⟨hP, hD⟩, hS, lv_sub hl [0, 1, 2, 3, 4] rfl⟩
                      · skip
                        have nc_1067 := nb_nle (59) (1) c_1067 bv_1058 h_1033 (by decide)
                        refine lv_aload_n hx hb dX10_paste_120 rfl (lv_at hl 1 rfl) ?_
                        refine va_get (D := G) (ci := 10) (v := .ref ob_moving) (C := RX10) (T := TX10) (N := 41) hx hb hw0 inA_wsX100 hown hK.1 hP 0 rfl rfl 40 (by decide) (hw0 _ m_529) (fun _ h9 => h9) rfl dX10_paste_121 ?_
                        refine lv_iload hx hb dX10_paste_124 (lv_at hl 0 rfl) ?_
                        refine lv_aload_n hx hb dX10_paste_126 rfl (lv_at hl 1 rfl) ?_
                        refine va_get (D := G) (ci := 10) (v := .ref ob_numbers) (C := RX10) (T := TX10) (N := 41) hx hb hw0 inA_wsX100 hown hK.1 hP 0 rfl rfl 39 (by decide) (hw0 _ m_435) (fun _ h9 => h9) rfl dX10_paste_127 ?_
                        refine lv_bipush (v := 60) hx hb dX10_paste_130 (by decide) ?_
                        refine lv_iload_n hx hb dX10_paste_132 rfl (lv_at hl 2 rfl) ?_
                        refine lv_imul hx hb dX10_paste_133 ?_
                        refine lv_topi (fun v_1108 ev_1108 => ?_)
                        obtain rfl : 120 = v_1108 := (ev_1108.trans (by decide)).symm
                        refine lv_iload_n hx hb dX10_paste_134 rfl (lv_at hl 3 rfl) ?_
                        refine lv_iadd hx hb dX10_paste_135 ?_
                        refine lv_topi (fun v_1109 ev_1109 => ?_)
                        have qv_1109 := ba_add ev_1109 (bkc (x := 120) (c := 120) (by decide)) h_1031 (by decide)
                        have bv_1109 : (120 : Int) ≤ v_1109.toInt ∧ v_1109.toInt ≤ 180 := bq_add qv_1109 (bkc (x := 120) (c := 120) (by decide)) h_1031 _ _ (by decide)
                        have qv_1109 : v_1109.toInt = (120) + a2.toInt := qv_1109
                        refine lv_iload hx hb dX10_paste_136 (lv_at hl 0 rfl) ?_
                        refine lv_iadd hx hb dX10_paste_138 ?_
                        refine lv_topi (fun v_1110 ev_1110 => ?_)
                        have qv_1110 := ba_add ev_1110 bv_1109 nc_1067.1 (by decide)
                        have bv_1110 : (120 : Int) ≤ v_1110.toInt ∧ v_1110.toInt ≤ 239 := bq_add qv_1110 bv_1109 nc_1067.1 _ _ (by decide)
                        refine va_lald hx hb hK.1 hP 3 2 rfl rfl (vi bv_1110 (by decide)) dX10_paste_139 ?_
                        refine lv_topl (fun v_1111 ev_1111 => ?_)
                        refine va_last hx hb hK.1 hP hD hS 4 2 rfl rfl (vi nc_1067.1 (by decide)) dX10_paste_140 (fun H locs hP hD hS => ?_)
                        generalize hf_1112 : (vp_updL f_1059 (v_1058 : Int32).toNatClampNeg v_1111) = f_1112 at hP hD
                        obtain ⟨hP, hD⟩ : vPD G A H [(ce_X10 ob ob_thrown ob_world ob_images ob_hasImage ob_tape ob_taped ob_five ob_size ob_at ob_from ob_token ob_value ob_faultKind ob_faultPlace ob_fresh ob_parts ob_houses ob_houseMany ob_worthOf ob_byCall ob_over ob_bestSet ob_bestOver ob_bestWorth ob_row ob_tenDebts ob_tenMany ob_fewestBy ob_covered ob_queue ob_cameBy ob_parent ob_met ob_calls ob_callMany ob_calledOn ob_saved ob_many ob_width ob_numbers ob_moving), (ce_i4 y ob_many fob_many), (ce_i4 y ob_width fob_width), (ce_l240 y ob_numbers fob_numbers), (ce_l60 y ob_moving f_1112)] := ⟨hP, hD⟩
                        obtain ⟨v_1113, ev_1113⟩ : ∃ z : Int32, z = v_1058 + 1 := ⟨_, rfl⟩
                        have qv_1113 := ba_add ev_1113 nc_1067.1 (bkc (x := 1) (c := 1) (by decide)) (by decide)
                        have bv_1113 : (1 : Int) ≤ v_1113.toInt ∧ v_1113.toInt ≤ 60 := bq_add qv_1113 nc_1067.1 (bkc (x := 1) (c := 1) (by decide)) _ _ (by decide)
                        have qv_1113 : v_1113.toInt = v_1058.toInt + (1) := qv_1113
                        refine lv_iinc (v := v_1113) (lv' := [(6, .int v_1113), (0, .ref ob), (1, .int 2), (2, .int a2), (3, .int 1), (4, .int a4), (5, .int a5)]) hx hb dX10_paste_141 hl (k := 0) rfl (ev_1113.symm) (by decide) rfl (fun ls hl => ?_)
                        refine lv_goto (tgt := 113) hx hb dX10_paste_144 (by decide) ?_
                        exact ih_1066 _ (ml_inc (hi := 60) hn_1066 qv_1113 (by decide) ((bw (0) (60) bv_1113 (by decide))).2) _ _ _ _ ⟨v_1113, f_1112, rfl, (bw (0) (60) bv_1113 (by decide)), (ml_s rl1059_0 hf_1112 ev_1111 (by omega) (by omega) (by omega) (by omega)), rfl, ⟨hP, hD⟩, hS, lv_sub hl [0, 1, 2, 3, 4, 5, 6] rfl⟩
                    · skip
                      have nc_1030 := jl_nle c_1030
                      refine lv_bipush (v := (-7)) hx hb dX10_paste_107 (by decide) ?_
                      exact W.iret (v := (-7)) hx hb hr (fun t ht hW => ⟨⟨(-7), _, rfl, Or.inr (Or.inl (⟨by have h90 : Int32.toInt (-7) = -7 := (by decide); have h91 : Int32.toInt 1 = 1 := (by decide); have h92 : Int32.toInt 2 = 2 := (by decide); omega, rfl, rfl⟩)), by rw [ht]; exact hP, hD⟩, hS.F ht⟩) hS.2.2 dX10_paste_109
          · skip
            have nc_1015 : v_1013.toInt ≠ v_1014.toInt := fun h9 => c_1015 (Int32.toInt_inj.mp h9)
            refine lv_bipush (v := (-8)) hx hb dX10_paste_55 (by decide) ?_
            exact W.iret (v := (-8)) hx hb hr (fun t ht hW => ⟨⟨(-8), _, rfl, Or.inr (Or.inr (Or.inl (⟨by have h90 : Int32.toInt (-8) = -8 := (by decide); have h91 : Int32.toInt 1 = 1 := (by decide); have h92 : Int32.toInt 2 = 2 := (by decide); omega, rfl, rfl⟩))), by rw [ht]; exact hP, hD⟩, hS.F ht⟩) hS.2.2 dX10_paste_57
        · skip
          have nc_1012 := nb_eq (-1) (-1) c_1012 bv_1011 (bkc (x := (-1)) (c := -1) (by decide)) (by decide)
          refine lv_bipush (v := (-6)) hx hb dX10_paste_37 (by decide) ?_
          exact W.iret (v := (-6)) hx hb hr (fun t ht hW => ⟨⟨(-6), _, rfl, Or.inl (⟨by have h90 : Int32.toInt (-6) = -6 := (by decide); have h91 : Int32.toInt 1 = 1 := (by decide); have h92 : Int32.toInt 2 = 2 := (by decide); omega, rfl, rfl⟩), by rw [ht]; exact hP, hD⟩, hS.F ht⟩) hS.2.2 dX10_paste_39

set_option maxHeartbeats 4000000 in
set_option maxRecDepth 100000 in
theorem fpasteM22 (l : Launch) (G : va_G) (y : Nat → ClassId) (sz : Nat) (ob : Nat) (a2 : Int32) (a4 : Int32) (a5 : Int32) (ob_thrown : Int32) (ob_world : Nat) (ob_images : Nat) (ob_hasImage : Nat) (ob_tape : Nat) (ob_taped : Int32) (ob_five : Nat) (ob_size : Int32) (ob_at : Int32) (ob_from : Int32) (ob_token : Int32) (ob_value : Int32) (ob_faultKind : Int32) (ob_faultPlace : Int32) (ob_fresh : Nat) (ob_parts : Nat) (ob_houses : Nat) (ob_houseMany : Int32) (ob_worthOf : Nat) (ob_byCall : Nat) (ob_over : Nat) (ob_bestSet : Int32) (ob_bestOver : Int32) (ob_bestWorth : Int32) (ob_row : Nat) (ob_tenDebts : Nat) (ob_tenMany : Int32) (ob_fewestBy : Nat) (ob_covered : Nat) (ob_queue : Nat) (ob_cameBy : Nat) (ob_parent : Nat) (ob_met : Nat) (ob_calls : Nat) (ob_callMany : Int32) (ob_calledOn : Nat) (ob_saved : Nat) (ob_many : Nat) (ob_width : Nat) (ob_numbers : Nat) (ob_moving : Nat) (fob_many : Nat → Int32) (fob_width : Nat → Int32) (fob_numbers : Nat → Int64) (fob_moving : Nat → Int64) (p_ob_taped : (0 : Int) ≤ ob_taped.toInt ∧ ob_taped.toInt ≤ 1400) (p_ob_size : (0 : Int) ≤ ob_size.toInt ∧ ob_size.toInt ≤ 1400) (p_ob_at : (0 : Int) ≤ ob_at.toInt ∧ ob_at.toInt ≤ 1400) (p_ob_from : (0 : Int) ≤ ob_from.toInt ∧ ob_from.toInt ≤ 1400) (p_ob_token : (0 : Int) ≤ ob_token.toInt ∧ ob_token.toInt ≤ 4) (p_ob_value : (0 : Int) ≤ ob_value.toInt ∧ ob_value.toInt ≤ 9999) (p_ob_faultKind : (0 : Int) ≤ ob_faultKind.toInt ∧ ob_faultKind.toInt ≤ 3) (p_ob_houseMany : (0 : Int) ≤ ob_houseMany.toInt ∧ ob_houseMany.toInt ≤ 10) (p_ob_bestSet : (0 : Int) ≤ ob_bestSet.toInt ∧ ob_bestSet.toInt ≤ 1023) (p_ob_bestOver : (-1 : Int) ≤ ob_bestOver.toInt ∧ ob_bestOver.toInt ≤ 180) (p_ob_tenMany : (0 : Int) ≤ ob_tenMany.toInt ∧ ob_tenMany.toInt ≤ 10) (p_ob_callMany : (0 : Int) ≤ ob_callMany.toInt ∧ ob_callMany.toInt ≤ 16) (p_fob_many : ∀ i, (-1 : Int) ≤ (fob_many i).toInt ∧ (fob_many i).toInt ≤ 60) (p_fob_width : ∀ i, (0 : Int) ≤ (fob_width i).toInt ∧ (fob_width i).toInt ≤ 3) : Met l yX10_paste (Cond.code yX10_paste cX10_paste 7 (some .int) :: wAll) ({ frames := 2, cells := 0, slots := 0, locals := 45 }) (va_Pc [.ref ob, .int 2, .int a2, .int 2, .int a4, .int a5] (kp G y sz [(ce_X10 ob ob_thrown ob_world ob_images ob_hasImage ob_tape ob_taped ob_five ob_size ob_at ob_from ob_token ob_value ob_faultKind ob_faultPlace ob_fresh ob_parts ob_houses ob_houseMany ob_worthOf ob_byCall ob_over ob_bestSet ob_bestOver ob_bestWorth ob_row ob_tenDebts ob_tenMany ob_fewestBy ob_covered ob_queue ob_cameBy ob_parent ob_met ob_calls ob_callMany ob_calledOn ob_saved ob_many ob_width ob_numbers ob_moving), (ce_i4 y ob_many fob_many), (ce_i4 y ob_width fob_width), (ce_l240 y ob_numbers fob_numbers), (ce_l60 y ob_moving fob_moving)])) (va_Qi (fun (r : Int32) (w : va_W) => (((fob_many 2).toInt = -1 ∨ (fob_many 2).toInt = -1) ∧ r = (-6) ∧ w = [(ce_X10 ob ob_thrown ob_world ob_images ob_hasImage ob_tape ob_taped ob_five ob_size ob_at ob_from ob_token ob_value ob_faultKind ob_faultPlace ob_fresh ob_parts ob_houses ob_houseMany ob_worthOf ob_byCall ob_over ob_bestSet ob_bestOver ob_bestWorth ob_row ob_tenDebts ob_tenMany ob_fewestBy ob_covered ob_queue ob_cameBy ob_parent ob_met ob_calls ob_callMany ob_calledOn ob_saved ob_many ob_width ob_numbers ob_moving), (ce_i4 y ob_many fob_many), (ce_i4 y ob_width fob_width), (ce_l240 y ob_numbers fob_numbers), (ce_l60 y ob_moving fob_moving)]) ∨ ((¬ (fob_many 2).toInt = -1 ∧ ¬ (fob_many 2).toInt = -1 ∧ (fob_width 2).toInt = (fob_width 2).toInt ∧ ¬ (0 ≤ a2.toInt ∧ 0 ≤ a4.toInt ∧ 0 ≤ a5.toInt ∧ a2.toInt + a5.toInt ≤ (fob_many 2).toInt ∧ a4.toInt + a5.toInt ≤ (fob_many 2).toInt)) ∧ r = (-7) ∧ w = [(ce_X10 ob ob_thrown ob_world ob_images ob_hasImage ob_tape ob_taped ob_five ob_size ob_at ob_from ob_token ob_value ob_faultKind ob_faultPlace ob_fresh ob_parts ob_houses ob_houseMany ob_worthOf ob_byCall ob_over ob_bestSet ob_bestOver ob_bestWorth ob_row ob_tenDebts ob_tenMany ob_fewestBy ob_covered ob_queue ob_cameBy ob_parent ob_met ob_calls ob_callMany ob_calledOn ob_saved ob_many ob_width ob_numbers ob_moving), (ce_i4 y ob_many fob_many), (ce_i4 y ob_width fob_width), (ce_l240 y ob_numbers fob_numbers), (ce_l60 y ob_moving fob_moving)]) ∨ (∃ (f_223 : Nat → Int64) (f_224 : Nat → Int64), ((0 : Int) ≤ a2.toInt ∧ a2.toInt ≤ 60) ∧ ((0 : Int) ≤ a4.toInt ∧ a4.toInt ≤ 60) ∧ ((0 : Int) ≤ a5.toInt ∧ a5.toInt ≤ 60) ∧ (¬ (fob_many 2).toInt = -1 ∧ ¬ (fob_many 2).toInt = -1 ∧ (fob_width 2).toInt = (fob_width 2).toInt ∧ 0 ≤ a2.toInt ∧ 0 ≤ a4.toInt ∧ 0 ≤ a5.toInt ∧ a2.toInt + a5.toInt ≤ (fob_many 2).toInt ∧ a4.toInt + a5.toInt ≤ (fob_many 2).toInt) ∧ (pL f_223 fob_numbers (120 + a2.toInt.toNat) (120 + a4.toInt.toNat) a5.toInt) ∧ r = 0 ∧ w = [(ce_X10 ob ob_thrown ob_world ob_images ob_hasImage ob_tape ob_taped ob_five ob_size ob_at ob_from ob_token ob_value ob_faultKind ob_faultPlace ob_fresh ob_parts ob_houses ob_houseMany ob_worthOf ob_byCall ob_over ob_bestSet ob_bestOver ob_bestWorth ob_row ob_tenDebts ob_tenMany ob_fewestBy ob_covered ob_queue ob_cameBy ob_parent ob_met ob_calls ob_callMany ob_calledOn ob_saved ob_many ob_width ob_numbers ob_moving), (ce_i4 y ob_many fob_many), (ce_i4 y ob_width fob_width), (ce_l240 y ob_numbers f_223), (ce_l60 y ob_moving f_224)])) (kq G (va_A [(ce_X10 ob ob_thrown ob_world ob_images ob_hasImage ob_tape ob_taped ob_five ob_size ob_at ob_from ob_token ob_value ob_faultKind ob_faultPlace ob_fresh ob_parts ob_houses ob_houseMany ob_worthOf ob_byCall ob_over ob_bestSet ob_bestOver ob_bestWorth ob_row ob_tenDebts ob_tenMany ob_fewestBy ob_covered ob_queue ob_cameBy ob_parent ob_met ob_calls ob_callMany ob_calledOn ob_saved ob_many ob_width ob_numbers ob_moving), (ce_i4 y ob_many fob_many), (ce_i4 y ob_width fob_width), (ce_l240 y ob_numbers fob_numbers), (ce_l60 y ob_moving fob_moving)] sz)) (va_A [(ce_X10 ob ob_thrown ob_world ob_images ob_hasImage ob_tape ob_taped ob_five ob_size ob_at ob_from ob_token ob_value ob_faultKind ob_faultPlace ob_fresh ob_parts ob_houses ob_houseMany ob_worthOf ob_byCall ob_over ob_bestSet ob_bestOver ob_bestWorth ob_row ob_tenDebts ob_tenMany ob_fewestBy ob_covered ob_queue ob_cameBy ob_parent ob_met ob_calls ob_callMany ob_calledOn ob_saved ob_many ob_width ob_numbers ob_moving), (ce_i4 y ob_many fob_many), (ce_i4 y ob_width fob_width), (ce_l240 y ob_numbers fob_numbers), (ce_l60 y ob_moving fob_moving)] sz)) 0 0 (va_A [(ce_X10 ob ob_thrown ob_world ob_images ob_hasImage ob_tape ob_taped ob_five ob_size ob_at ob_from ob_token ob_value ob_faultKind ob_faultPlace ob_fresh ob_parts ob_houses ob_houseMany ob_worthOf ob_byCall ob_over ob_bestSet ob_bestOver ob_bestWorth ob_row ob_tenDebts ob_tenMany ob_fewestBy ob_covered ob_queue ob_cameBy ob_parent ob_met ob_calls ob_callMany ob_calledOn ob_saved ob_many ob_width ob_numbers ob_moving), (ce_i4 y ob_many fob_many), (ce_i4 y ob_width fob_width), (ce_l240 y ob_numbers fob_numbers), (ce_l60 y ob_moving fob_moving)] sz) := by
  refine Met.ofW (cc := cX10_paste) (maxL := 7) (ret := (some .int)) (by decide) rfl ?_
  intro p e s m args below meth c s₁ B hml hv
  obtain ⟨rfl, hsz, hP, hK, hD0⟩ := hv
  have hx := B.exec
  have hb := B.bytes
  have hr := B.returns
  have hw0 : ∀ w ∈ wAll, w.before _ s = true := fun w h => atoms_spec (ws := Cond.code yX10_paste cX10_paste 7 (some .int) :: wAll) B.pre w (List.mem_cons_of_mem _ h)
  have hown : s.vm.findClass RX10 = some m.cls := findClass_of_methodNamed B.named
  subst hsz
  have hD := hD0.self (sz := s.heap.size)
  generalize hAe : va_A [(ce_X10 ob ob_thrown ob_world ob_images ob_hasImage ob_tape ob_taped ob_five ob_size ob_at ob_from ob_token ob_value ob_faultKind ob_faultPlace ob_fresh ob_parts ob_houses ob_houseMany ob_worthOf ob_byCall ob_over ob_bestSet ob_bestOver ob_bestWorth ob_row ob_tenDebts ob_tenMany ob_fewestBy ob_covered ob_queue ob_cameBy ob_parent ob_met ob_calls ob_callMany ob_calledOn ob_saved ob_many ob_width ob_numbers ob_moving), (ce_i4 y ob_many fob_many), (ce_i4 y ob_width fob_width), (ce_l240 y ob_numbers fob_numbers), (ce_l60 y ob_moving fob_moving)] s.heap.size = A at hD ⊢
  have hA : ∀ q : Nat, s.heap.size ≤ q → A q := fun q h => by rw [← hAe]; exact Or.inr h
  have hS : va_S A s.heap s.heap [] := va_S.rf
  have hP : va_P G vwCl [(ce_X10 ob ob_thrown ob_world ob_images ob_hasImage ob_tape ob_taped ob_five ob_size ob_at ob_from ob_token ob_value ob_faultKind ob_faultPlace ob_fresh ob_parts ob_houses ob_houseMany ob_worthOf ob_byCall ob_over ob_bestSet ob_bestOver ob_bestWorth ob_row ob_tenDebts ob_tenMany ob_fewestBy ob_covered ob_queue ob_cameBy ob_parent ob_met ob_calls ob_callMany ob_calledOn ob_saved ob_many ob_width ob_numbers ob_moving), (ce_i4 y ob_many fob_many), (ce_i4 y ob_width fob_width), (ce_l240 y ob_numbers fob_numbers), (ce_l60 y ob_moving fob_moving)] s.heap := hP
  have hl := lv_entry ([.ref ob, .int 2, .int a2, .int 2, .int a4, .int a5]) (n := 7) (Nat.le_of_ble_eq_true rfl)
  rw [lg_entry_eq]
  generalize (lg_sl ([.ref ob, .int 2, .int a2, .int 2, .int a4, .int a5]) ++ List.replicate (7 - (lg_sl ([.ref ob, .int 2, .int a2, .int 2, .int a4, .int a5])).length) Slot.unset).toArray = ls at hl ⊢
  have hl : lv_has ls 7 [(0, .ref ob), (1, .int 2), (2, .int a2), (3, .int 2), (4, .int a4), (5, .int a5)] := hl
  refine lv_iload_n hx hb dX10_paste_0 rfl (lv_at hl 1 rfl) ?_
  refine cSim (As := [.int 2]) (rest := []) ⟨hx, hb, hml, hown, hw0⟩ hA hK hP hD hS [] (gisSlotM l G y _ 2 ) rfl ⟨(callB_of 1 hw0 (gA m_543) rfl rfl rfl (hw0 _ m_41) (hw0 _ m_433) cb_X10_isSlot ⟨Nat.le_of_ble_eq_true rfl, Nat.le_of_ble_eq_true rfl⟩), (hw0 _ m_434)⟩ rfl hl.1 (Nat.le_of_ble_eq_true rfl) dX10_paste_1 ⟨Nat.le_of_ble_eq_true rfl, Nat.le_of_ble_eq_true rfl⟩ (fun r_1001 w_1001 H locs hw_1001 hP hD hS => ?_)
  rcases hw_1001 with ⟨h_1002, rfl, rfl⟩ | ⟨h_1003, h_1004, rfl, rfl⟩
  · skip
    exact False.elim (by have h9 : Int32.toInt 2 = 2 := (by decide); omega)
  · skip
    obtain ⟨hP, hD⟩ : vPD G A H [(ce_X10 ob ob_thrown ob_world ob_images ob_hasImage ob_tape ob_taped ob_five ob_size ob_at ob_from ob_token ob_value ob_faultKind ob_faultPlace ob_fresh ob_parts ob_houses ob_houseMany ob_worthOf ob_byCall ob_over ob_bestSet ob_bestOver ob_bestWorth ob_row ob_tenDebts ob_tenMany ob_fewestBy ob_covered ob_queue ob_cameBy ob_parent ob_met ob_calls ob_callMany ob_calledOn ob_saved ob_many ob_width ob_numbers ob_moving), (ce_i4 y ob_many fob_many), (ce_i4 y ob_width fob_width), (ce_l240 y ob_numbers fob_numbers), (ce_l60 y ob_moving fob_moving)] := ⟨hP, hD⟩
    refine lv_if_eq (tgt := 14) hx hb dX10_paste_4 (by decide) (fun c9 => absurd c9 (by decide)) (fun _ => ?_)
    refine lv_iload_n hx hb dX10_paste_7 rfl (lv_at hl 3 rfl) ?_
    refine cSim (As := [.int 2]) (rest := []) ⟨hx, hb, hml, hown, hw0⟩ hA hK hP hD hS [] (gisSlotM l G y _ 2 ) rfl ⟨(callB_of 1 hw0 (gA m_543) rfl rfl rfl (hw0 _ m_41) (hw0 _ m_433) cb_X10_isSlot ⟨Nat.le_of_ble_eq_true rfl, Nat.le_of_ble_eq_true rfl⟩), (hw0 _ m_434)⟩ rfl hl.1 (Nat.le_of_ble_eq_true rfl) dX10_paste_8 ⟨Nat.le_of_ble_eq_true rfl, Nat.le_of_ble_eq_true rfl⟩ (fun r_1005 w_1005 H locs hw_1005 hP hD hS => ?_)
    rcases hw_1005 with ⟨h_1006, rfl, rfl⟩ | ⟨h_1007, h_1008, rfl, rfl⟩
    · skip
      exact False.elim (by have h9 : Int32.toInt 2 = 2 := (by decide); omega)
    · skip
      obtain ⟨hP, hD⟩ : vPD G A H [(ce_X10 ob ob_thrown ob_world ob_images ob_hasImage ob_tape ob_taped ob_five ob_size ob_at ob_from ob_token ob_value ob_faultKind ob_faultPlace ob_fresh ob_parts ob_houses ob_houseMany ob_worthOf ob_byCall ob_over ob_bestSet ob_bestOver ob_bestWorth ob_row ob_tenDebts ob_tenMany ob_fewestBy ob_covered ob_queue ob_cameBy ob_parent ob_met ob_calls ob_callMany ob_calledOn ob_saved ob_many ob_width ob_numbers ob_moving), (ce_i4 y ob_many fob_many), (ce_i4 y ob_width fob_width), (ce_l240 y ob_numbers fob_numbers), (ce_l60 y ob_moving fob_moving)] := ⟨hP, hD⟩
      refine lv_if_ne (tgt := 17) hx hb dX10_paste_11 (by decide) (fun _ => ?_) (fun c9 => absurd c9 (by decide))
      refine lv_aload_n hx hb dX10_paste_17 rfl (lv_at hl 0 rfl) ?_
      refine va_get (D := G) (ci := 10) (v := .ref ob_many) (C := RX10) (T := TX10) (N := 41) hx hb hw0 inA_wsX100 hown hK.1 hP 0 rfl rfl 37 (by decide) (hw0 _ m_406) (fun _ h9 => h9) rfl dX10_paste_18 ?_
      refine lv_iload_n hx hb dX10_paste_21 rfl (lv_at hl 1 rfl) ?_
      refine va_iald hx hb hK.1 hP 1 1 rfl rfl (vi (bkc (x := 2) (c := 2) (by decide)) (by decide)) dX10_paste_22 ?_
      refine lv_topi (fun v_1009 ev_1009 => ?_)
      have bv_1009 : (-1 : Int) ≤ v_1009.toInt ∧ v_1009.toInt ≤ 60 := rd_b ev_1009 p_fob_many
      have yv_1009 : v_1009.toInt = (fob_many 2).toInt := congrArg Int32.toInt ev_1009
      refine lv_iconst (v := (-1)) hx hb dX10_paste_23 (by decide) ?_
      refine lv_icmp_eq (tgt := 37) hx hb dX10_paste_24 (by decide) (fun c_1010 => ?_) (fun c_1010 => ?_)
      · skip
        have nc_1010 := nb_eq (-1) (-1) c_1010 bv_1009 (bkc (x := (-1)) (c := -1) (by decide)) (by decide)
        refine lv_bipush (v := (-6)) hx hb dX10_paste_37 (by decide) ?_
        exact W.iret (v := (-6)) hx hb hr (fun t ht hW => ⟨⟨(-6), _, rfl, Or.inl (⟨by have h90 : Int32.toInt (-6) = -6 := (by decide); have h91 : Int32.toInt 2 = 2 := (by decide); omega, rfl, rfl⟩), by rw [ht]; exact hP, hD⟩, hS.F ht⟩) hS.2.2 dX10_paste_39
      · skip
        have nc_1010 := nb_ne (0) (60) c_1010 bv_1009 (k := -1) (by decide) (by decide)
        refine lv_aload_n hx hb dX10_paste_27 rfl (lv_at hl 0 rfl) ?_
        refine va_get (D := G) (ci := 10) (v := .ref ob_many) (C := RX10) (T := TX10) (N := 41) hx hb hw0 inA_wsX100 hown hK.1 hP 0 rfl rfl 37 (by decide) (hw0 _ m_406) (fun _ h9 => h9) rfl dX10_paste_28 ?_
        refine lv_iload_n hx hb dX10_paste_31 rfl (lv_at hl 3 rfl) ?_
        refine va_iald hx hb hK.1 hP 1 1 rfl rfl (vi (bkc (x := 2) (c := 2) (by decide)) (by decide)) dX10_paste_32 ?_
        refine lv_topi (fun v_1011 ev_1011 => ?_)
        obtain rfl : v_1009 = v_1011 := (ev_1011.trans (ev_1009.symm)).symm
        refine lv_iconst (v := (-1)) hx hb dX10_paste_33 (by decide) ?_
        refine lv_icmp_ne (tgt := 40) hx hb dX10_paste_34 (by decide) (fun _ => ?_) (fun c9 => absurd c9 (dc_neq nc_1010.1 (bkc (x := (-1)) (c := -1) (by decide)) (by decide)))
        refine lv_aload_n hx hb dX10_paste_40 rfl (lv_at hl 0 rfl) ?_
        refine va_get (D := G) (ci := 10) (v := .ref ob_width) (C := RX10) (T := TX10) (N := 41) hx hb hw0 inA_wsX100 hown hK.1 hP 0 rfl rfl 38 (by decide) (hw0 _ m_527) (fun _ h9 => h9) rfl dX10_paste_41 ?_
        refine lv_iload_n hx hb dX10_paste_44 rfl (lv_at hl 1 rfl) ?_
        refine va_iald hx hb hK.1 hP 2 1 rfl rfl (vi (bkc (x := 2) (c := 2) (by decide)) (by decide)) dX10_paste_45 ?_
        refine lv_topi (fun v_1012 ev_1012 => ?_)
        have bv_1012 : (0 : Int) ≤ v_1012.toInt ∧ v_1012.toInt ≤ 3 := rd_b ev_1012 p_fob_width
        have yv_1012 : v_1012.toInt = (fob_width 2).toInt := congrArg Int32.toInt ev_1012
        refine lv_aload_n hx hb dX10_paste_46 rfl (lv_at hl 0 rfl) ?_
        refine va_get (D := G) (ci := 10) (v := .ref ob_width) (C := RX10) (T := TX10) (N := 41) hx hb hw0 inA_wsX100 hown hK.1 hP 0 rfl rfl 38 (by decide) (hw0 _ m_527) (fun _ h9 => h9) rfl dX10_paste_47 ?_
        refine lv_iload_n hx hb dX10_paste_50 rfl (lv_at hl 3 rfl) ?_
        refine va_iald hx hb hK.1 hP 2 1 rfl rfl (vi (bkc (x := 2) (c := 2) (by decide)) (by decide)) dX10_paste_51 ?_
        refine lv_topi (fun v_1013 ev_1013 => ?_)
        obtain rfl : v_1012 = v_1013 := (ev_1013.trans (ev_1012.symm)).symm
        refine lv_icmp_eq (tgt := 58) hx hb dX10_paste_52 (by decide) (fun _ => ?_) (fun c9 => absurd (rfl) c9)
        refine lv_iload_n hx hb dX10_paste_58 rfl (lv_at hl 2 rfl) ?_
        refine lv_if_lt (tgt := 107) hx hb dX10_paste_59 (by decide) (fun c_1014 => ?_) (fun c_1014 => ?_)
        · skip
          have nc_1014 := nb_lt (-1) (0) c_1014 (btop a2) (bkc (x := 0) (c := 0) (by decide)) (by decide)
          refine lv_bipush (v := (-7)) hx hb dX10_paste_107 (by decide) ?_
          exact W.iret (v := (-7)) hx hb hr (fun t ht hW => ⟨⟨(-7), _, rfl, Or.inr (Or.inl (⟨by have h90 : Int32.toInt (-7) = -7 := (by decide); have h91 : Int32.toInt 2 = 2 := (by decide); omega, rfl, rfl⟩)), by rw [ht]; exact hP, hD⟩, hS.F ht⟩) hS.2.2 dX10_paste_109
        · skip
          have nc_1014 := nb_nlt (0) (0) c_1014 (bkc (x := 0) (c := 0) (by decide)) (btop a2) (by decide)
          refine lv_iload hx hb dX10_paste_62 (lv_at hl 4 rfl) ?_
          refine lv_if_lt (tgt := 107) hx hb dX10_paste_64 (by decide) (fun c_1015 => ?_) (fun c_1015 => ?_)
          · skip
            have nc_1015 := nb_lt (-1) (0) c_1015 (btop a4) (bkc (x := 0) (c := 0) (by decide)) (by decide)
            refine lv_bipush (v := (-7)) hx hb dX10_paste_107 (by decide) ?_
            exact W.iret (v := (-7)) hx hb hr (fun t ht hW => ⟨⟨(-7), _, rfl, Or.inr (Or.inl (⟨by have h90 : Int32.toInt (-7) = -7 := (by decide); have h91 : Int32.toInt 2 = 2 := (by decide); omega, rfl, rfl⟩)), by rw [ht]; exact hP, hD⟩, hS.F ht⟩) hS.2.2 dX10_paste_109
          · skip
            have nc_1015 := nb_nlt (0) (0) c_1015 (bkc (x := 0) (c := 0) (by decide)) (btop a4) (by decide)
            refine lv_iload hx hb dX10_paste_67 (lv_at hl 5 rfl) ?_
            refine lv_if_lt (tgt := 107) hx hb dX10_paste_69 (by decide) (fun c_1016 => ?_) (fun c_1016 => ?_)
            · skip
              have nc_1016 := nb_lt (-1) (0) c_1016 (btop a5) (bkc (x := 0) (c := 0) (by decide)) (by decide)
              refine lv_bipush (v := (-7)) hx hb dX10_paste_107 (by decide) ?_
              exact W.iret (v := (-7)) hx hb hr (fun t ht hW => ⟨⟨(-7), _, rfl, Or.inr (Or.inl (⟨by have h90 : Int32.toInt (-7) = -7 := (by decide); have h91 : Int32.toInt 2 = 2 := (by decide); omega, rfl, rfl⟩)), by rw [ht]; exact hP, hD⟩, hS.F ht⟩) hS.2.2 dX10_paste_109
            · skip
              have nc_1016 := nb_nlt (0) (0) c_1016 (bkc (x := 0) (c := 0) (by decide)) (btop a5) (by decide)
              refine lv_iload_n hx hb dX10_paste_72 rfl (lv_at hl 2 rfl) ?_
              refine lv_i2l hx hb dX10_paste_73 rfl ?_
              have kk_1017 : ((a2).toInt64).toInt = (a2).toInt := Int32.toInt_toInt64 _
              refine lv_iload hx hb dX10_paste_74 (lv_at hl 5 rfl) ?_
              refine lv_i2l hx hb dX10_paste_76 rfl ?_
              have kk_1018 : ((a5).toInt64).toInt = (a5).toInt := Int32.toInt_toInt64 _
              refine lv_ladd hx hb dX10_paste_77 ?_
              refine lv_topl (fun v_1019 ev_1019 => ?_)
              have qv_1019 := la_add ev_1019
              refine lv_aload_n hx hb dX10_paste_78 rfl (lv_at hl 0 rfl) ?_
              refine va_get (D := G) (ci := 10) (v := .ref ob_many) (C := RX10) (T := TX10) (N := 41) hx hb hw0 inA_wsX100 hown hK.1 hP 0 rfl rfl 37 (by decide) (hw0 _ m_406) (fun _ h9 => h9) rfl dX10_paste_79 ?_
              refine lv_iload_n hx hb dX10_paste_82 rfl (lv_at hl 1 rfl) ?_
              refine va_iald hx hb hK.1 hP 1 1 rfl rfl (vi (bkc (x := 2) (c := 2) (by decide)) (by decide)) dX10_paste_83 ?_
              refine lv_topi (fun v_1020 ev_1020 => ?_)
              obtain rfl : v_1009 = v_1020 := (ev_1020.trans (ev_1009.symm)).symm
              refine lv_i2l hx hb dX10_paste_84 rfl ?_
              have kk_1021 : ((v_1009).toInt64).toInt = (v_1009).toInt := Int32.toInt_toInt64 _
              refine W.lcmp hx hb dX10_paste_85 ?_
              refine lv_if_gt (tgt := 107) hx hb dX10_paste_86 (by decide) (fun c_1022 => ?_) (fun c_1022 => ?_)
              · skip
                have nc_1022 := jl_gt c_1022
                refine lv_bipush (v := (-7)) hx hb dX10_paste_107 (by decide) ?_
                exact W.iret (v := (-7)) hx hb hr (fun t ht hW => ⟨⟨(-7), _, rfl, Or.inr (Or.inl (⟨by have h90 : Int32.toInt (-7) = -7 := (by decide); have h91 : Int32.toInt 2 = 2 := (by decide); omega, rfl, rfl⟩)), by rw [ht]; exact hP, hD⟩, hS.F ht⟩) hS.2.2 dX10_paste_109
              · skip
                have nc_1022 := jl_ngt c_1022
                refine lv_iload hx hb dX10_paste_89 (lv_at hl 4 rfl) ?_
                refine lv_i2l hx hb dX10_paste_91 rfl ?_
                have kk_1023 : ((a4).toInt64).toInt = (a4).toInt := Int32.toInt_toInt64 _
                refine lv_iload hx hb dX10_paste_92 (lv_at hl 5 rfl) ?_
                refine lv_i2l hx hb dX10_paste_94 rfl ?_
                have kk_1024 : ((a5).toInt64).toInt = (a5).toInt := Int32.toInt_toInt64 _
                refine lv_ladd hx hb dX10_paste_95 ?_
                refine lv_topl (fun v_1025 ev_1025 => ?_)
                have qv_1025 := la_add ev_1025
                refine lv_aload_n hx hb dX10_paste_96 rfl (lv_at hl 0 rfl) ?_
                refine va_get (D := G) (ci := 10) (v := .ref ob_many) (C := RX10) (T := TX10) (N := 41) hx hb hw0 inA_wsX100 hown hK.1 hP 0 rfl rfl 37 (by decide) (hw0 _ m_406) (fun _ h9 => h9) rfl dX10_paste_97 ?_
                refine lv_iload_n hx hb dX10_paste_100 rfl (lv_at hl 3 rfl) ?_
                refine va_iald hx hb hK.1 hP 1 1 rfl rfl (vi (bkc (x := 2) (c := 2) (by decide)) (by decide)) dX10_paste_101 ?_
                refine lv_topi (fun v_1026 ev_1026 => ?_)
                obtain rfl : v_1009 = v_1026 := (ev_1026.trans (ev_1009.symm)).symm
                refine lv_i2l hx hb dX10_paste_102 rfl ?_
                have kk_1027 : ((v_1009).toInt64).toInt = (v_1009).toInt := Int32.toInt_toInt64 _
                refine W.lcmp hx hb dX10_paste_103 ?_
                refine lv_if_le (tgt := 110) hx hb dX10_paste_104 (by decide) (fun c_1028 => ?_) (fun c_1028 => ?_)
                · skip
                  have nc_1028 := jl_le c_1028
                  have h_1029 : (0 : Int) ≤ a2.toInt ∧ a2.toInt ≤ 60 := by omega
                  have h_1030 : (0 : Int) ≤ a4.toInt ∧ a4.toInt ≤ 60 := by omega
                  have h_1031 : (0 : Int) ≤ a5.toInt ∧ a5.toInt ≤ 60 := by omega
                  refine lv_iconst (v := 0) hx hb dX10_paste_110 (by decide) ?_
                  refine lv_istore (lv' := [(6, .int 0), (0, .ref ob), (1, .int 2), (2, .int a2), (3, .int 2), (4, .int a4), (5, .int a5)]) hx hb dX10_paste_111 hl (by decide) rfl (fun ls hl => ?_)
                  refine loopX (fun n H locs ls st => ∃ (v_1056 : Int32) (f_1057 : Nat → Int64), (60 - v_1056.toInt).toNat = n ∧ ((0 : Int) ≤ v_1056.toInt ∧ v_1056.toInt ≤ 60) ∧ (mL f_1057 fob_numbers (120 + a2.toInt.toNat) v_1056.toInt) ∧ st = [] ∧ vPD G A H [(ce_X10 ob ob_thrown ob_world ob_images ob_hasImage ob_tape ob_taped ob_five ob_size ob_at ob_from ob_token ob_value ob_faultKind ob_faultPlace ob_fresh ob_parts ob_houses ob_houseMany ob_worthOf ob_byCall ob_over ob_bestSet ob_bestOver ob_bestWorth ob_row ob_tenDebts ob_tenMany ob_fewestBy ob_covered ob_queue ob_cameBy ob_parent ob_met ob_calls ob_callMany ob_calledOn ob_saved ob_many ob_width ob_numbers ob_moving), (ce_i4 y ob_many fob_many), (ce_i4 y ob_width fob_width), (ce_l240 y ob_numbers fob_numbers), (ce_l60 y ob_moving f_1057)] ∧ va_S A s.heap H locs ∧ lv_has ls 7 [(6, .int v_1056), (0, .ref ob), (1, .int 2), (2, .int a2), (3, .int 2), (4, .int a4), (5, .int a5)]) ?_ (n := (60 - (0 : Int32).toInt).toNat) ⟨0, fob_moving, rfl, (bw (0) (60) (bkc (x := 0) (c := 0) (by decide)) (by decide)), (ml_0 (by have h90 : Int32.toInt 0 = 0 := (by decide); have h91 : Int32.toInt 2 = 2 := (by decide); omega)), rfl, ⟨hP, hD⟩, hS, lv_sub hl [0, 1, 2, 3, 4, 5, 6] rfl⟩
                  rintro n ih_1064 H locs ls st ⟨v_1056, f_1057, hn_1064, bv_1056, rl1057_0, rfl, ⟨hP, hD⟩, hS, hl⟩
                  refine lv_iload hx hb dX10_paste_113 (lv_at hl 0 rfl) ?_
                  refine lv_iload hx hb dX10_paste_115 (lv_at hl 6 rfl) ?_
                  refine lv_icmp_ge (tgt := 147) hx hb dX10_paste_117 (by decide) (fun c_1065 => ?_) (fun c_1065 => ?_)
                  · skip
                    have nc_1065 := nb_le (60) (0) c_1065 h_1031 bv_1056 (by decide)
                    refine lv_iconst (v := 0) hx hb dX10_paste_147 (by decide) ?_
                    refine lv_istore (lv' := [(6, .int 0), (0, .ref ob), (1, .int 2), (2, .int a2), (3, .int 2), (4, .int a4), (5, .int a5)]) hx hb dX10_paste_148 hl (by decide) rfl (fun ls hl => ?_)
                    refine loopX (fun n H locs ls st => ∃ (v_1090 : Int32) (f_1091 : Nat → Int64), (60 - v_1090.toInt).toNat = n ∧ ((0 : Int) ≤ v_1090.toInt ∧ v_1090.toInt ≤ 60) ∧ (nL f_1091 fob_numbers f_1057 (120 + a4.toInt.toNat) v_1090.toInt) ∧ (v_1090.toInt ≤ a5.toInt) ∧ st = [] ∧ vPD G A H [(ce_X10 ob ob_thrown ob_world ob_images ob_hasImage ob_tape ob_taped ob_five ob_size ob_at ob_from ob_token ob_value ob_faultKind ob_faultPlace ob_fresh ob_parts ob_houses ob_houseMany ob_worthOf ob_byCall ob_over ob_bestSet ob_bestOver ob_bestWorth ob_row ob_tenDebts ob_tenMany ob_fewestBy ob_covered ob_queue ob_cameBy ob_parent ob_met ob_calls ob_callMany ob_calledOn ob_saved ob_many ob_width ob_numbers ob_moving), (ce_i4 y ob_many fob_many), (ce_i4 y ob_width fob_width), (ce_l240 y ob_numbers f_1091), (ce_l60 y ob_moving f_1057)] ∧ va_S A s.heap H locs ∧ lv_has ls 7 [(6, .int v_1090), (0, .ref ob), (3, .int 2), (4, .int a4), (5, .int a5)]) ?_ (n := (60 - (0 : Int32).toInt).toNat) ⟨0, fob_numbers, rfl, (bw (0) (60) (bkc (x := 0) (c := 0) (by decide)) (by decide)), (nl_0 (by have h90 : Int32.toInt 0 = 0 := (by decide); have h91 : Int32.toInt 2 = 2 := (by decide); omega)), (by have h90 : Int32.toInt 0 = 0 := (by decide); omega), rfl, ⟨hP, hD⟩, hS, lv_sub hl [0, 1, 4, 5, 6] rfl⟩
                    rintro n ih_1098 H locs ls st ⟨v_1090, f_1091, hn_1098, bv_1090, rl1091_0, rl1091_1, rfl, ⟨hP, hD⟩, hS, hl⟩
                    refine lv_iload hx hb dX10_paste_150 (lv_at hl 0 rfl) ?_
                    refine lv_iload hx hb dX10_paste_152 (lv_at hl 4 rfl) ?_
                    refine lv_icmp_ge (tgt := 185) hx hb dX10_paste_154 (by decide) (fun c_1099 => ?_) (fun c_1099 => ?_)
                    · skip
                      have nc_1099 := nb_le (60) (0) c_1099 nc_1065.1 bv_1090 (by decide)
                      refine lv_iconst (v := 0) hx hb dX10_paste_185 (by decide) ?_
                      exact W.iret (v := 0) hx hb hr (fun t ht hW => ⟨⟨0, _, rfl, Or.inr (Or.inr (⟨f_1091, f_1057, h_1029, h_1030, nc_1099.1, by have h90 : Int32.toInt 0 = 0 := (by decide); have h91 : Int32.toInt 2 = 2 := (by decide); omega, (pl_e rl1057_0 rl1091_0 (by omega) (by omega)), rfl, rfl⟩)), by rw [ht]; exact hP, hD⟩, hS.F ht⟩) hS.2.2 dX10_paste_186
                    · skip
                      have nc_1099 := nb_nle (59) (1) c_1099 bv_1090 nc_1065.1 (by decide)
                      refine lv_aload_n hx hb dX10_paste_157 rfl (lv_at hl 1 rfl) ?_
                      refine va_get (D := G) (ci := 10) (v := .ref ob_numbers) (C := RX10) (T := TX10) (N := 41) hx hb hw0 inA_wsX100 hown hK.1 hP 0 rfl rfl 39 (by decide) (hw0 _ m_435) (fun _ h9 => h9) rfl dX10_paste_158 ?_
                      refine lv_bipush (v := 60) hx hb dX10_paste_161 (by decide) ?_
                      refine lv_iload_n hx hb dX10_paste_163 rfl (lv_at hl 2 rfl) ?_
                      refine lv_imul hx hb dX10_paste_164 ?_
                      refine lv_topi (fun v_1100 ev_1100 => ?_)
                      obtain rfl : 120 = v_1100 := (ev_1100.trans (by decide)).symm
                      refine lv_iload hx hb dX10_paste_165 (lv_at hl 3 rfl) ?_
                      refine lv_iadd hx hb dX10_paste_167 ?_
                      refine lv_topi (fun v_1101 ev_1101 => ?_)
                      have qv_1101 := ba_add ev_1101 (bkc (x := 120) (c := 120) (by decide)) h_1030 (by decide)
                      have bv_1101 : (120 : Int) ≤ v_1101.toInt ∧ v_1101.toInt ≤ 180 := bq_add qv_1101 (bkc (x := 120) (c := 120) (by decide)) h_1030 _ _ (by decide)
                      have qv_1101 : v_1101.toInt = (120) + a4.toInt := qv_1101
                      refine lv_iload hx hb dX10_paste_168 (lv_at hl 0 rfl) ?_
                      refine lv_iadd hx hb dX10_paste_170 ?_
                      refine lv_topi (fun v_1102 ev_1102 => ?_)
                      have qv_1102 := ba_add ev_1102 bv_1101 nc_1099.1 (by decide)
                      have bv_1102 : (120 : Int) ≤ v_1102.toInt ∧ v_1102.toInt ≤ 239 := bq_add qv_1102 bv_1101 nc_1099.1 _ _ (by decide)
                      refine lv_aload_n hx hb dX10_paste_171 rfl (lv_at hl 1 rfl) ?_
                      refine va_get (D := G) (ci := 10) (v := .ref ob_moving) (C := RX10) (T := TX10) (N := 41) hx hb hw0 inA_wsX100 hown hK.1 hP 0 rfl rfl 40 (by decide) (hw0 _ m_529) (fun _ h9 => h9) rfl dX10_paste_172 ?_
                      refine lv_iload hx hb dX10_paste_175 (lv_at hl 0 rfl) ?_
                      refine va_lald hx hb hK.1 hP 4 2 rfl rfl (vi nc_1099.1 (by decide)) dX10_paste_177 ?_
                      refine lv_topl (fun v_1103 ev_1103 => ?_)
                      refine va_last hx hb hK.1 hP hD hS 3 2 rfl rfl (vi bv_1102 (by decide)) dX10_paste_178 (fun H locs hP hD hS => ?_)
                      generalize hf_1104 : (vp_updL f_1091 (v_1102 : Int32).toNatClampNeg v_1103) = f_1104 at hP hD
                      obtain ⟨hP, hD⟩ : vPD G A H [(ce_X10 ob ob_thrown ob_world ob_images ob_hasImage ob_tape ob_taped ob_five ob_size ob_at ob_from ob_token ob_value ob_faultKind ob_faultPlace ob_fresh ob_parts ob_houses ob_houseMany ob_worthOf ob_byCall ob_over ob_bestSet ob_bestOver ob_bestWorth ob_row ob_tenDebts ob_tenMany ob_fewestBy ob_covered ob_queue ob_cameBy ob_parent ob_met ob_calls ob_callMany ob_calledOn ob_saved ob_many ob_width ob_numbers ob_moving), (ce_i4 y ob_many fob_many), (ce_i4 y ob_width fob_width), (ce_l240 y ob_numbers f_1104), (ce_l60 y ob_moving f_1057)] := ⟨hP, hD⟩
                      obtain ⟨v_1105, ev_1105⟩ : ∃ z : Int32, z = v_1090 + 1 := ⟨_, rfl⟩
                      have qv_1105 := ba_add ev_1105 nc_1099.1 (bkc (x := 1) (c := 1) (by decide)) (by decide)
                      have bv_1105 : (1 : Int) ≤ v_1105.toInt ∧ v_1105.toInt ≤ 60 := bq_add qv_1105 nc_1099.1 (bkc (x := 1) (c := 1) (by decide)) _ _ (by decide)
                      have qv_1105 : v_1105.toInt = v_1090.toInt + (1) := qv_1105
                      refine lv_iinc (v := v_1105) (lv' := [(6, .int v_1105), (0, .ref ob), (3, .int 2), (4, .int a4), (5, .int a5)]) hx hb dX10_paste_179 hl (k := 0) rfl (ev_1105.symm) (by decide) rfl (fun ls hl => ?_)
                      refine lv_goto (tgt := 150) hx hb dX10_paste_182 (by decide) ?_
                      exact ih_1098 _ (ml_inc (hi := 60) hn_1098 qv_1105 (by decide) ((bw (0) (60) bv_1105 (by decide))).2) _ _ _ _ ⟨v_1105, f_1104, rfl, (bw (0) (60) bv_1105 (by decide)), (nl_s rl1091_0 hf_1104 ev_1103 (by omega) (by omega) (by omega) (by omega)), (by omega), rfl, ⟨hP, hD⟩, hS, lv_sub hl [0, 1, 2, 3, 4] rfl⟩
                  · skip
                    have nc_1065 := nb_nle (59) (1) c_1065 bv_1056 h_1031 (by decide)
                    refine lv_aload_n hx hb dX10_paste_120 rfl (lv_at hl 1 rfl) ?_
                    refine va_get (D := G) (ci := 10) (v := .ref ob_moving) (C := RX10) (T := TX10) (N := 41) hx hb hw0 inA_wsX100 hown hK.1 hP 0 rfl rfl 40 (by decide) (hw0 _ m_529) (fun _ h9 => h9) rfl dX10_paste_121 ?_
                    refine lv_iload hx hb dX10_paste_124 (lv_at hl 0 rfl) ?_
                    refine lv_aload_n hx hb dX10_paste_126 rfl (lv_at hl 1 rfl) ?_
                    refine va_get (D := G) (ci := 10) (v := .ref ob_numbers) (C := RX10) (T := TX10) (N := 41) hx hb hw0 inA_wsX100 hown hK.1 hP 0 rfl rfl 39 (by decide) (hw0 _ m_435) (fun _ h9 => h9) rfl dX10_paste_127 ?_
                    refine lv_bipush (v := 60) hx hb dX10_paste_130 (by decide) ?_
                    refine lv_iload_n hx hb dX10_paste_132 rfl (lv_at hl 2 rfl) ?_
                    refine lv_imul hx hb dX10_paste_133 ?_
                    refine lv_topi (fun v_1106 ev_1106 => ?_)
                    obtain rfl : 120 = v_1106 := (ev_1106.trans (by decide)).symm
                    refine lv_iload_n hx hb dX10_paste_134 rfl (lv_at hl 3 rfl) ?_
                    refine lv_iadd hx hb dX10_paste_135 ?_
                    refine lv_topi (fun v_1107 ev_1107 => ?_)
                    have qv_1107 := ba_add ev_1107 (bkc (x := 120) (c := 120) (by decide)) h_1029 (by decide)
                    have bv_1107 : (120 : Int) ≤ v_1107.toInt ∧ v_1107.toInt ≤ 180 := bq_add qv_1107 (bkc (x := 120) (c := 120) (by decide)) h_1029 _ _ (by decide)
                    have qv_1107 : v_1107.toInt = (120) + a2.toInt := qv_1107
                    refine lv_iload hx hb dX10_paste_136 (lv_at hl 0 rfl) ?_
                    refine lv_iadd hx hb dX10_paste_138 ?_
                    refine lv_topi (fun v_1108 ev_1108 => ?_)
                    have qv_1108 := ba_add ev_1108 bv_1107 nc_1065.1 (by decide)
                    have bv_1108 : (120 : Int) ≤ v_1108.toInt ∧ v_1108.toInt ≤ 239 := bq_add qv_1108 bv_1107 nc_1065.1 _ _ (by decide)
                    refine va_lald hx hb hK.1 hP 3 2 rfl rfl (vi bv_1108 (by decide)) dX10_paste_139 ?_
                    refine lv_topl (fun v_1109 ev_1109 => ?_)
                    refine va_last hx hb hK.1 hP hD hS 4 2 rfl rfl (vi nc_1065.1 (by decide)) dX10_paste_140 (fun H locs hP hD hS => ?_)
                    generalize hf_1110 : (vp_updL f_1057 (v_1056 : Int32).toNatClampNeg v_1109) = f_1110 at hP hD
                    obtain ⟨hP, hD⟩ : vPD G A H [(ce_X10 ob ob_thrown ob_world ob_images ob_hasImage ob_tape ob_taped ob_five ob_size ob_at ob_from ob_token ob_value ob_faultKind ob_faultPlace ob_fresh ob_parts ob_houses ob_houseMany ob_worthOf ob_byCall ob_over ob_bestSet ob_bestOver ob_bestWorth ob_row ob_tenDebts ob_tenMany ob_fewestBy ob_covered ob_queue ob_cameBy ob_parent ob_met ob_calls ob_callMany ob_calledOn ob_saved ob_many ob_width ob_numbers ob_moving), (ce_i4 y ob_many fob_many), (ce_i4 y ob_width fob_width), (ce_l240 y ob_numbers fob_numbers), (ce_l60 y ob_moving f_1110)] := ⟨hP, hD⟩
                    obtain ⟨v_1111, ev_1111⟩ : ∃ z : Int32, z = v_1056 + 1 := ⟨_, rfl⟩
                    have qv_1111 := ba_add ev_1111 nc_1065.1 (bkc (x := 1) (c := 1) (by decide)) (by decide)
                    have bv_1111 : (1 : Int) ≤ v_1111.toInt ∧ v_1111.toInt ≤ 60 := bq_add qv_1111 nc_1065.1 (bkc (x := 1) (c := 1) (by decide)) _ _ (by decide)
                    have qv_1111 : v_1111.toInt = v_1056.toInt + (1) := qv_1111
                    refine lv_iinc (v := v_1111) (lv' := [(6, .int v_1111), (0, .ref ob), (1, .int 2), (2, .int a2), (3, .int 2), (4, .int a4), (5, .int a5)]) hx hb dX10_paste_141 hl (k := 0) rfl (ev_1111.symm) (by decide) rfl (fun ls hl => ?_)
                    refine lv_goto (tgt := 113) hx hb dX10_paste_144 (by decide) ?_
                    exact ih_1064 _ (ml_inc (hi := 60) hn_1064 qv_1111 (by decide) ((bw (0) (60) bv_1111 (by decide))).2) _ _ _ _ ⟨v_1111, f_1110, rfl, (bw (0) (60) bv_1111 (by decide)), (ml_s rl1057_0 hf_1110 ev_1109 (by omega) (by omega) (by omega) (by omega)), rfl, ⟨hP, hD⟩, hS, lv_sub hl [0, 1, 2, 3, 4, 5, 6] rfl⟩
                · skip
                  have nc_1028 := jl_nle c_1028
                  refine lv_bipush (v := (-7)) hx hb dX10_paste_107 (by decide) ?_
                  exact W.iret (v := (-7)) hx hb hr (fun t ht hW => ⟨⟨(-7), _, rfl, Or.inr (Or.inl (⟨by have h90 : Int32.toInt (-7) = -7 := (by decide); have h91 : Int32.toInt 2 = 2 := (by decide); omega, rfl, rfl⟩)), by rw [ht]; exact hP, hD⟩, hS.F ht⟩) hS.2.2 dX10_paste_109

set_option maxHeartbeats 4000000 in
set_option maxRecDepth 100000 in
theorem fpasteM23 (l : Launch) (G : va_G) (y : Nat → ClassId) (sz : Nat) (ob : Nat) (a2 : Int32) (a4 : Int32) (a5 : Int32) (ob_thrown : Int32) (ob_world : Nat) (ob_images : Nat) (ob_hasImage : Nat) (ob_tape : Nat) (ob_taped : Int32) (ob_five : Nat) (ob_size : Int32) (ob_at : Int32) (ob_from : Int32) (ob_token : Int32) (ob_value : Int32) (ob_faultKind : Int32) (ob_faultPlace : Int32) (ob_fresh : Nat) (ob_parts : Nat) (ob_houses : Nat) (ob_houseMany : Int32) (ob_worthOf : Nat) (ob_byCall : Nat) (ob_over : Nat) (ob_bestSet : Int32) (ob_bestOver : Int32) (ob_bestWorth : Int32) (ob_row : Nat) (ob_tenDebts : Nat) (ob_tenMany : Int32) (ob_fewestBy : Nat) (ob_covered : Nat) (ob_queue : Nat) (ob_cameBy : Nat) (ob_parent : Nat) (ob_met : Nat) (ob_calls : Nat) (ob_callMany : Int32) (ob_calledOn : Nat) (ob_saved : Nat) (ob_many : Nat) (ob_width : Nat) (ob_numbers : Nat) (ob_moving : Nat) (fob_many : Nat → Int32) (fob_width : Nat → Int32) (fob_numbers : Nat → Int64) (fob_moving : Nat → Int64) (p_ob_taped : (0 : Int) ≤ ob_taped.toInt ∧ ob_taped.toInt ≤ 1400) (p_ob_size : (0 : Int) ≤ ob_size.toInt ∧ ob_size.toInt ≤ 1400) (p_ob_at : (0 : Int) ≤ ob_at.toInt ∧ ob_at.toInt ≤ 1400) (p_ob_from : (0 : Int) ≤ ob_from.toInt ∧ ob_from.toInt ≤ 1400) (p_ob_token : (0 : Int) ≤ ob_token.toInt ∧ ob_token.toInt ≤ 4) (p_ob_value : (0 : Int) ≤ ob_value.toInt ∧ ob_value.toInt ≤ 9999) (p_ob_faultKind : (0 : Int) ≤ ob_faultKind.toInt ∧ ob_faultKind.toInt ≤ 3) (p_ob_houseMany : (0 : Int) ≤ ob_houseMany.toInt ∧ ob_houseMany.toInt ≤ 10) (p_ob_bestSet : (0 : Int) ≤ ob_bestSet.toInt ∧ ob_bestSet.toInt ≤ 1023) (p_ob_bestOver : (-1 : Int) ≤ ob_bestOver.toInt ∧ ob_bestOver.toInt ≤ 180) (p_ob_tenMany : (0 : Int) ≤ ob_tenMany.toInt ∧ ob_tenMany.toInt ≤ 10) (p_ob_callMany : (0 : Int) ≤ ob_callMany.toInt ∧ ob_callMany.toInt ≤ 16) (p_fob_many : ∀ i, (-1 : Int) ≤ (fob_many i).toInt ∧ (fob_many i).toInt ≤ 60) (p_fob_width : ∀ i, (0 : Int) ≤ (fob_width i).toInt ∧ (fob_width i).toInt ≤ 3) : Met l yX10_paste (Cond.code yX10_paste cX10_paste 7 (some .int) :: wAll) ({ frames := 2, cells := 0, slots := 0, locals := 45 }) (va_Pc [.ref ob, .int 2, .int a2, .int 3, .int a4, .int a5] (kp G y sz [(ce_X10 ob ob_thrown ob_world ob_images ob_hasImage ob_tape ob_taped ob_five ob_size ob_at ob_from ob_token ob_value ob_faultKind ob_faultPlace ob_fresh ob_parts ob_houses ob_houseMany ob_worthOf ob_byCall ob_over ob_bestSet ob_bestOver ob_bestWorth ob_row ob_tenDebts ob_tenMany ob_fewestBy ob_covered ob_queue ob_cameBy ob_parent ob_met ob_calls ob_callMany ob_calledOn ob_saved ob_many ob_width ob_numbers ob_moving), (ce_i4 y ob_many fob_many), (ce_i4 y ob_width fob_width), (ce_l240 y ob_numbers fob_numbers), (ce_l60 y ob_moving fob_moving)])) (va_Qi (fun (r : Int32) (w : va_W) => (((fob_many 2).toInt = -1 ∨ (fob_many 3).toInt = -1) ∧ r = (-6) ∧ w = [(ce_X10 ob ob_thrown ob_world ob_images ob_hasImage ob_tape ob_taped ob_five ob_size ob_at ob_from ob_token ob_value ob_faultKind ob_faultPlace ob_fresh ob_parts ob_houses ob_houseMany ob_worthOf ob_byCall ob_over ob_bestSet ob_bestOver ob_bestWorth ob_row ob_tenDebts ob_tenMany ob_fewestBy ob_covered ob_queue ob_cameBy ob_parent ob_met ob_calls ob_callMany ob_calledOn ob_saved ob_many ob_width ob_numbers ob_moving), (ce_i4 y ob_many fob_many), (ce_i4 y ob_width fob_width), (ce_l240 y ob_numbers fob_numbers), (ce_l60 y ob_moving fob_moving)]) ∨ ((¬ (fob_many 2).toInt = -1 ∧ ¬ (fob_many 3).toInt = -1 ∧ (fob_width 2).toInt = (fob_width 3).toInt ∧ ¬ (0 ≤ a2.toInt ∧ 0 ≤ a4.toInt ∧ 0 ≤ a5.toInt ∧ a2.toInt + a5.toInt ≤ (fob_many 2).toInt ∧ a4.toInt + a5.toInt ≤ (fob_many 3).toInt)) ∧ r = (-7) ∧ w = [(ce_X10 ob ob_thrown ob_world ob_images ob_hasImage ob_tape ob_taped ob_five ob_size ob_at ob_from ob_token ob_value ob_faultKind ob_faultPlace ob_fresh ob_parts ob_houses ob_houseMany ob_worthOf ob_byCall ob_over ob_bestSet ob_bestOver ob_bestWorth ob_row ob_tenDebts ob_tenMany ob_fewestBy ob_covered ob_queue ob_cameBy ob_parent ob_met ob_calls ob_callMany ob_calledOn ob_saved ob_many ob_width ob_numbers ob_moving), (ce_i4 y ob_many fob_many), (ce_i4 y ob_width fob_width), (ce_l240 y ob_numbers fob_numbers), (ce_l60 y ob_moving fob_moving)]) ∨ ((¬ (fob_many 2).toInt = -1 ∧ ¬ (fob_many 3).toInt = -1 ∧ ¬ (fob_width 2).toInt = (fob_width 3).toInt) ∧ r = (-8) ∧ w = [(ce_X10 ob ob_thrown ob_world ob_images ob_hasImage ob_tape ob_taped ob_five ob_size ob_at ob_from ob_token ob_value ob_faultKind ob_faultPlace ob_fresh ob_parts ob_houses ob_houseMany ob_worthOf ob_byCall ob_over ob_bestSet ob_bestOver ob_bestWorth ob_row ob_tenDebts ob_tenMany ob_fewestBy ob_covered ob_queue ob_cameBy ob_parent ob_met ob_calls ob_callMany ob_calledOn ob_saved ob_many ob_width ob_numbers ob_moving), (ce_i4 y ob_many fob_many), (ce_i4 y ob_width fob_width), (ce_l240 y ob_numbers fob_numbers), (ce_l60 y ob_moving fob_moving)]) ∨ (∃ (f_237 : Nat → Int64) (f_238 : Nat → Int64), ((0 : Int) ≤ a2.toInt ∧ a2.toInt ≤ 60) ∧ ((0 : Int) ≤ a4.toInt ∧ a4.toInt ≤ 60) ∧ ((0 : Int) ≤ a5.toInt ∧ a5.toInt ≤ 60) ∧ (¬ (fob_many 2).toInt = -1 ∧ ¬ (fob_many 3).toInt = -1 ∧ (fob_width 2).toInt = (fob_width 3).toInt ∧ 0 ≤ a2.toInt ∧ 0 ≤ a4.toInt ∧ 0 ≤ a5.toInt ∧ a2.toInt + a5.toInt ≤ (fob_many 2).toInt ∧ a4.toInt + a5.toInt ≤ (fob_many 3).toInt) ∧ (pL f_237 fob_numbers (120 + a2.toInt.toNat) (180 + a4.toInt.toNat) a5.toInt) ∧ r = 0 ∧ w = [(ce_X10 ob ob_thrown ob_world ob_images ob_hasImage ob_tape ob_taped ob_five ob_size ob_at ob_from ob_token ob_value ob_faultKind ob_faultPlace ob_fresh ob_parts ob_houses ob_houseMany ob_worthOf ob_byCall ob_over ob_bestSet ob_bestOver ob_bestWorth ob_row ob_tenDebts ob_tenMany ob_fewestBy ob_covered ob_queue ob_cameBy ob_parent ob_met ob_calls ob_callMany ob_calledOn ob_saved ob_many ob_width ob_numbers ob_moving), (ce_i4 y ob_many fob_many), (ce_i4 y ob_width fob_width), (ce_l240 y ob_numbers f_237), (ce_l60 y ob_moving f_238)])) (kq G (va_A [(ce_X10 ob ob_thrown ob_world ob_images ob_hasImage ob_tape ob_taped ob_five ob_size ob_at ob_from ob_token ob_value ob_faultKind ob_faultPlace ob_fresh ob_parts ob_houses ob_houseMany ob_worthOf ob_byCall ob_over ob_bestSet ob_bestOver ob_bestWorth ob_row ob_tenDebts ob_tenMany ob_fewestBy ob_covered ob_queue ob_cameBy ob_parent ob_met ob_calls ob_callMany ob_calledOn ob_saved ob_many ob_width ob_numbers ob_moving), (ce_i4 y ob_many fob_many), (ce_i4 y ob_width fob_width), (ce_l240 y ob_numbers fob_numbers), (ce_l60 y ob_moving fob_moving)] sz)) (va_A [(ce_X10 ob ob_thrown ob_world ob_images ob_hasImage ob_tape ob_taped ob_five ob_size ob_at ob_from ob_token ob_value ob_faultKind ob_faultPlace ob_fresh ob_parts ob_houses ob_houseMany ob_worthOf ob_byCall ob_over ob_bestSet ob_bestOver ob_bestWorth ob_row ob_tenDebts ob_tenMany ob_fewestBy ob_covered ob_queue ob_cameBy ob_parent ob_met ob_calls ob_callMany ob_calledOn ob_saved ob_many ob_width ob_numbers ob_moving), (ce_i4 y ob_many fob_many), (ce_i4 y ob_width fob_width), (ce_l240 y ob_numbers fob_numbers), (ce_l60 y ob_moving fob_moving)] sz)) 0 0 (va_A [(ce_X10 ob ob_thrown ob_world ob_images ob_hasImage ob_tape ob_taped ob_five ob_size ob_at ob_from ob_token ob_value ob_faultKind ob_faultPlace ob_fresh ob_parts ob_houses ob_houseMany ob_worthOf ob_byCall ob_over ob_bestSet ob_bestOver ob_bestWorth ob_row ob_tenDebts ob_tenMany ob_fewestBy ob_covered ob_queue ob_cameBy ob_parent ob_met ob_calls ob_callMany ob_calledOn ob_saved ob_many ob_width ob_numbers ob_moving), (ce_i4 y ob_many fob_many), (ce_i4 y ob_width fob_width), (ce_l240 y ob_numbers fob_numbers), (ce_l60 y ob_moving fob_moving)] sz) := by
  refine Met.ofW (cc := cX10_paste) (maxL := 7) (ret := (some .int)) (by decide) rfl ?_
  intro p e s m args below meth c s₁ B hml hv
  obtain ⟨rfl, hsz, hP, hK, hD0⟩ := hv
  have hx := B.exec
  have hb := B.bytes
  have hr := B.returns
  have hw0 : ∀ w ∈ wAll, w.before _ s = true := fun w h => atoms_spec (ws := Cond.code yX10_paste cX10_paste 7 (some .int) :: wAll) B.pre w (List.mem_cons_of_mem _ h)
  have hown : s.vm.findClass RX10 = some m.cls := findClass_of_methodNamed B.named
  subst hsz
  have hD := hD0.self (sz := s.heap.size)
  generalize hAe : va_A [(ce_X10 ob ob_thrown ob_world ob_images ob_hasImage ob_tape ob_taped ob_five ob_size ob_at ob_from ob_token ob_value ob_faultKind ob_faultPlace ob_fresh ob_parts ob_houses ob_houseMany ob_worthOf ob_byCall ob_over ob_bestSet ob_bestOver ob_bestWorth ob_row ob_tenDebts ob_tenMany ob_fewestBy ob_covered ob_queue ob_cameBy ob_parent ob_met ob_calls ob_callMany ob_calledOn ob_saved ob_many ob_width ob_numbers ob_moving), (ce_i4 y ob_many fob_many), (ce_i4 y ob_width fob_width), (ce_l240 y ob_numbers fob_numbers), (ce_l60 y ob_moving fob_moving)] s.heap.size = A at hD ⊢
  have hA : ∀ q : Nat, s.heap.size ≤ q → A q := fun q h => by rw [← hAe]; exact Or.inr h
  have hS : va_S A s.heap s.heap [] := va_S.rf
  have hP : va_P G vwCl [(ce_X10 ob ob_thrown ob_world ob_images ob_hasImage ob_tape ob_taped ob_five ob_size ob_at ob_from ob_token ob_value ob_faultKind ob_faultPlace ob_fresh ob_parts ob_houses ob_houseMany ob_worthOf ob_byCall ob_over ob_bestSet ob_bestOver ob_bestWorth ob_row ob_tenDebts ob_tenMany ob_fewestBy ob_covered ob_queue ob_cameBy ob_parent ob_met ob_calls ob_callMany ob_calledOn ob_saved ob_many ob_width ob_numbers ob_moving), (ce_i4 y ob_many fob_many), (ce_i4 y ob_width fob_width), (ce_l240 y ob_numbers fob_numbers), (ce_l60 y ob_moving fob_moving)] s.heap := hP
  have hl := lv_entry ([.ref ob, .int 2, .int a2, .int 3, .int a4, .int a5]) (n := 7) (Nat.le_of_ble_eq_true rfl)
  rw [lg_entry_eq]
  generalize (lg_sl ([.ref ob, .int 2, .int a2, .int 3, .int a4, .int a5]) ++ List.replicate (7 - (lg_sl ([.ref ob, .int 2, .int a2, .int 3, .int a4, .int a5])).length) Slot.unset).toArray = ls at hl ⊢
  have hl : lv_has ls 7 [(0, .ref ob), (1, .int 2), (2, .int a2), (3, .int 3), (4, .int a4), (5, .int a5)] := hl
  refine lv_iload_n hx hb dX10_paste_0 rfl (lv_at hl 1 rfl) ?_
  refine cSim (As := [.int 2]) (rest := []) ⟨hx, hb, hml, hown, hw0⟩ hA hK hP hD hS [] (gisSlotM l G y _ 2 ) rfl ⟨(callB_of 1 hw0 (gA m_543) rfl rfl rfl (hw0 _ m_41) (hw0 _ m_433) cb_X10_isSlot ⟨Nat.le_of_ble_eq_true rfl, Nat.le_of_ble_eq_true rfl⟩), (hw0 _ m_434)⟩ rfl hl.1 (Nat.le_of_ble_eq_true rfl) dX10_paste_1 ⟨Nat.le_of_ble_eq_true rfl, Nat.le_of_ble_eq_true rfl⟩ (fun r_1001 w_1001 H locs hw_1001 hP hD hS => ?_)
  rcases hw_1001 with ⟨h_1002, rfl, rfl⟩ | ⟨h_1003, h_1004, rfl, rfl⟩
  · skip
    exact False.elim (by have h9 : Int32.toInt 2 = 2 := (by decide); omega)
  · skip
    obtain ⟨hP, hD⟩ : vPD G A H [(ce_X10 ob ob_thrown ob_world ob_images ob_hasImage ob_tape ob_taped ob_five ob_size ob_at ob_from ob_token ob_value ob_faultKind ob_faultPlace ob_fresh ob_parts ob_houses ob_houseMany ob_worthOf ob_byCall ob_over ob_bestSet ob_bestOver ob_bestWorth ob_row ob_tenDebts ob_tenMany ob_fewestBy ob_covered ob_queue ob_cameBy ob_parent ob_met ob_calls ob_callMany ob_calledOn ob_saved ob_many ob_width ob_numbers ob_moving), (ce_i4 y ob_many fob_many), (ce_i4 y ob_width fob_width), (ce_l240 y ob_numbers fob_numbers), (ce_l60 y ob_moving fob_moving)] := ⟨hP, hD⟩
    refine lv_if_eq (tgt := 14) hx hb dX10_paste_4 (by decide) (fun c9 => absurd c9 (by decide)) (fun _ => ?_)
    refine lv_iload_n hx hb dX10_paste_7 rfl (lv_at hl 3 rfl) ?_
    refine cSim (As := [.int 3]) (rest := []) ⟨hx, hb, hml, hown, hw0⟩ hA hK hP hD hS [] (gisSlotM l G y _ 3 ) rfl ⟨(callB_of 1 hw0 (gA m_543) rfl rfl rfl (hw0 _ m_41) (hw0 _ m_433) cb_X10_isSlot ⟨Nat.le_of_ble_eq_true rfl, Nat.le_of_ble_eq_true rfl⟩), (hw0 _ m_434)⟩ rfl hl.1 (Nat.le_of_ble_eq_true rfl) dX10_paste_8 ⟨Nat.le_of_ble_eq_true rfl, Nat.le_of_ble_eq_true rfl⟩ (fun r_1005 w_1005 H locs hw_1005 hP hD hS => ?_)
    rcases hw_1005 with ⟨h_1006, rfl, rfl⟩ | ⟨h_1007, h_1008, rfl, rfl⟩
    · skip
      exact False.elim (by have h9 : Int32.toInt 3 = 3 := (by decide); omega)
    · skip
      obtain ⟨hP, hD⟩ : vPD G A H [(ce_X10 ob ob_thrown ob_world ob_images ob_hasImage ob_tape ob_taped ob_five ob_size ob_at ob_from ob_token ob_value ob_faultKind ob_faultPlace ob_fresh ob_parts ob_houses ob_houseMany ob_worthOf ob_byCall ob_over ob_bestSet ob_bestOver ob_bestWorth ob_row ob_tenDebts ob_tenMany ob_fewestBy ob_covered ob_queue ob_cameBy ob_parent ob_met ob_calls ob_callMany ob_calledOn ob_saved ob_many ob_width ob_numbers ob_moving), (ce_i4 y ob_many fob_many), (ce_i4 y ob_width fob_width), (ce_l240 y ob_numbers fob_numbers), (ce_l60 y ob_moving fob_moving)] := ⟨hP, hD⟩
      refine lv_if_ne (tgt := 17) hx hb dX10_paste_11 (by decide) (fun _ => ?_) (fun c9 => absurd c9 (by decide))
      refine lv_aload_n hx hb dX10_paste_17 rfl (lv_at hl 0 rfl) ?_
      refine va_get (D := G) (ci := 10) (v := .ref ob_many) (C := RX10) (T := TX10) (N := 41) hx hb hw0 inA_wsX100 hown hK.1 hP 0 rfl rfl 37 (by decide) (hw0 _ m_406) (fun _ h9 => h9) rfl dX10_paste_18 ?_
      refine lv_iload_n hx hb dX10_paste_21 rfl (lv_at hl 1 rfl) ?_
      refine va_iald hx hb hK.1 hP 1 1 rfl rfl (vi (bkc (x := 2) (c := 2) (by decide)) (by decide)) dX10_paste_22 ?_
      refine lv_topi (fun v_1009 ev_1009 => ?_)
      have bv_1009 : (-1 : Int) ≤ v_1009.toInt ∧ v_1009.toInt ≤ 60 := rd_b ev_1009 p_fob_many
      have yv_1009 : v_1009.toInt = (fob_many 2).toInt := congrArg Int32.toInt ev_1009
      refine lv_iconst (v := (-1)) hx hb dX10_paste_23 (by decide) ?_
      refine lv_icmp_eq (tgt := 37) hx hb dX10_paste_24 (by decide) (fun c_1010 => ?_) (fun c_1010 => ?_)
      · skip
        have nc_1010 := nb_eq (-1) (-1) c_1010 bv_1009 (bkc (x := (-1)) (c := -1) (by decide)) (by decide)
        refine lv_bipush (v := (-6)) hx hb dX10_paste_37 (by decide) ?_
        exact W.iret (v := (-6)) hx hb hr (fun t ht hW => ⟨⟨(-6), _, rfl, Or.inl (⟨by have h90 : Int32.toInt (-6) = -6 := (by decide); have h91 : Int32.toInt 2 = 2 := (by decide); have h92 : Int32.toInt 3 = 3 := (by decide); omega, rfl, rfl⟩), by rw [ht]; exact hP, hD⟩, hS.F ht⟩) hS.2.2 dX10_paste_39
      · skip
        have nc_1010 := nb_ne (0) (60) c_1010 bv_1009 (k := -1) (by decide) (by decide)
        refine lv_aload_n hx hb dX10_paste_27 rfl (lv_at hl 0 rfl) ?_
        refine va_get (D := G) (ci := 10) (v := .ref ob_many) (C := RX10) (T := TX10) (N := 41) hx hb hw0 inA_wsX100 hown hK.1 hP 0 rfl rfl 37 (by decide) (hw0 _ m_406) (fun _ h9 => h9) rfl dX10_paste_28 ?_
        refine lv_iload_n hx hb dX10_paste_31 rfl (lv_at hl 3 rfl) ?_
        refine va_iald hx hb hK.1 hP 1 1 rfl rfl (vi (bkc (x := 3) (c := 3) (by decide)) (by decide)) dX10_paste_32 ?_
        refine lv_topi (fun v_1011 ev_1011 => ?_)
        have bv_1011 : (-1 : Int) ≤ v_1011.toInt ∧ v_1011.toInt ≤ 60 := rd_b ev_1011 p_fob_many
        have yv_1011 : v_1011.toInt = (fob_many 3).toInt := congrArg Int32.toInt ev_1011
        refine lv_iconst (v := (-1)) hx hb dX10_paste_33 (by decide) ?_
        refine lv_icmp_ne (tgt := 40) hx hb dX10_paste_34 (by decide) (fun c_1012 => ?_) (fun c_1012 => ?_)
        · skip
          have nc_1012 := nb_ne (0) (60) c_1012 bv_1011 (k := -1) (by decide) (by decide)
          refine lv_aload_n hx hb dX10_paste_40 rfl (lv_at hl 0 rfl) ?_
          refine va_get (D := G) (ci := 10) (v := .ref ob_width) (C := RX10) (T := TX10) (N := 41) hx hb hw0 inA_wsX100 hown hK.1 hP 0 rfl rfl 38 (by decide) (hw0 _ m_527) (fun _ h9 => h9) rfl dX10_paste_41 ?_
          refine lv_iload_n hx hb dX10_paste_44 rfl (lv_at hl 1 rfl) ?_
          refine va_iald hx hb hK.1 hP 2 1 rfl rfl (vi (bkc (x := 2) (c := 2) (by decide)) (by decide)) dX10_paste_45 ?_
          refine lv_topi (fun v_1013 ev_1013 => ?_)
          have bv_1013 : (0 : Int) ≤ v_1013.toInt ∧ v_1013.toInt ≤ 3 := rd_b ev_1013 p_fob_width
          have yv_1013 : v_1013.toInt = (fob_width 2).toInt := congrArg Int32.toInt ev_1013
          refine lv_aload_n hx hb dX10_paste_46 rfl (lv_at hl 0 rfl) ?_
          refine va_get (D := G) (ci := 10) (v := .ref ob_width) (C := RX10) (T := TX10) (N := 41) hx hb hw0 inA_wsX100 hown hK.1 hP 0 rfl rfl 38 (by decide) (hw0 _ m_527) (fun _ h9 => h9) rfl dX10_paste_47 ?_
          refine lv_iload_n hx hb dX10_paste_50 rfl (lv_at hl 3 rfl) ?_
          refine va_iald hx hb hK.1 hP 2 1 rfl rfl (vi (bkc (x := 3) (c := 3) (by decide)) (by decide)) dX10_paste_51 ?_
          refine lv_topi (fun v_1014 ev_1014 => ?_)
          have bv_1014 : (0 : Int) ≤ v_1014.toInt ∧ v_1014.toInt ≤ 3 := rd_b ev_1014 p_fob_width
          have yv_1014 : v_1014.toInt = (fob_width 3).toInt := congrArg Int32.toInt ev_1014
          refine lv_icmp_eq (tgt := 58) hx hb dX10_paste_52 (by decide) (fun c_1015 => ?_) (fun c_1015 => ?_)
          · skip
            have nc_1015 := nb_eq (0) (3) c_1015 bv_1013 bv_1014 (by decide)
            refine lv_iload_n hx hb dX10_paste_58 rfl (lv_at hl 2 rfl) ?_
            refine lv_if_lt (tgt := 107) hx hb dX10_paste_59 (by decide) (fun c_1016 => ?_) (fun c_1016 => ?_)
            · skip
              have nc_1016 := nb_lt (-1) (0) c_1016 (btop a2) (bkc (x := 0) (c := 0) (by decide)) (by decide)
              refine lv_bipush (v := (-7)) hx hb dX10_paste_107 (by decide) ?_
              exact W.iret (v := (-7)) hx hb hr (fun t ht hW => ⟨⟨(-7), _, rfl, Or.inr (Or.inl (⟨by have h90 : Int32.toInt (-7) = -7 := (by decide); have h91 : Int32.toInt 2 = 2 := (by decide); have h92 : Int32.toInt 3 = 3 := (by decide); omega, rfl, rfl⟩)), by rw [ht]; exact hP, hD⟩, hS.F ht⟩) hS.2.2 dX10_paste_109
            · skip
              have nc_1016 := nb_nlt (0) (0) c_1016 (bkc (x := 0) (c := 0) (by decide)) (btop a2) (by decide)
              refine lv_iload hx hb dX10_paste_62 (lv_at hl 4 rfl) ?_
              refine lv_if_lt (tgt := 107) hx hb dX10_paste_64 (by decide) (fun c_1017 => ?_) (fun c_1017 => ?_)
              · skip
                have nc_1017 := nb_lt (-1) (0) c_1017 (btop a4) (bkc (x := 0) (c := 0) (by decide)) (by decide)
                refine lv_bipush (v := (-7)) hx hb dX10_paste_107 (by decide) ?_
                exact W.iret (v := (-7)) hx hb hr (fun t ht hW => ⟨⟨(-7), _, rfl, Or.inr (Or.inl (⟨by have h90 : Int32.toInt (-7) = -7 := (by decide); have h91 : Int32.toInt 2 = 2 := (by decide); have h92 : Int32.toInt 3 = 3 := (by decide); omega, rfl, rfl⟩)), by rw [ht]; exact hP, hD⟩, hS.F ht⟩) hS.2.2 dX10_paste_109
              · skip
                have nc_1017 := nb_nlt (0) (0) c_1017 (bkc (x := 0) (c := 0) (by decide)) (btop a4) (by decide)
                refine lv_iload hx hb dX10_paste_67 (lv_at hl 5 rfl) ?_
                refine lv_if_lt (tgt := 107) hx hb dX10_paste_69 (by decide) (fun c_1018 => ?_) (fun c_1018 => ?_)
                · skip
                  have nc_1018 := nb_lt (-1) (0) c_1018 (btop a5) (bkc (x := 0) (c := 0) (by decide)) (by decide)
                  refine lv_bipush (v := (-7)) hx hb dX10_paste_107 (by decide) ?_
                  exact W.iret (v := (-7)) hx hb hr (fun t ht hW => ⟨⟨(-7), _, rfl, Or.inr (Or.inl (⟨by have h90 : Int32.toInt (-7) = -7 := (by decide); have h91 : Int32.toInt 2 = 2 := (by decide); have h92 : Int32.toInt 3 = 3 := (by decide); omega, rfl, rfl⟩)), by rw [ht]; exact hP, hD⟩, hS.F ht⟩) hS.2.2 dX10_paste_109
                · skip
                  have nc_1018 := nb_nlt (0) (0) c_1018 (bkc (x := 0) (c := 0) (by decide)) (btop a5) (by decide)
                  refine lv_iload_n hx hb dX10_paste_72 rfl (lv_at hl 2 rfl) ?_
                  refine lv_i2l hx hb dX10_paste_73 rfl ?_
                  have kk_1019 : ((a2).toInt64).toInt = (a2).toInt := Int32.toInt_toInt64 _
                  refine lv_iload hx hb dX10_paste_74 (lv_at hl 5 rfl) ?_
                  refine lv_i2l hx hb dX10_paste_76 rfl ?_
                  have kk_1020 : ((a5).toInt64).toInt = (a5).toInt := Int32.toInt_toInt64 _
                  refine lv_ladd hx hb dX10_paste_77 ?_
                  refine lv_topl (fun v_1021 ev_1021 => ?_)
                  have qv_1021 := la_add ev_1021
                  refine lv_aload_n hx hb dX10_paste_78 rfl (lv_at hl 0 rfl) ?_
                  refine va_get (D := G) (ci := 10) (v := .ref ob_many) (C := RX10) (T := TX10) (N := 41) hx hb hw0 inA_wsX100 hown hK.1 hP 0 rfl rfl 37 (by decide) (hw0 _ m_406) (fun _ h9 => h9) rfl dX10_paste_79 ?_
                  refine lv_iload_n hx hb dX10_paste_82 rfl (lv_at hl 1 rfl) ?_
                  refine va_iald hx hb hK.1 hP 1 1 rfl rfl (vi (bkc (x := 2) (c := 2) (by decide)) (by decide)) dX10_paste_83 ?_
                  refine lv_topi (fun v_1022 ev_1022 => ?_)
                  obtain rfl : v_1009 = v_1022 := (ev_1022.trans (ev_1009.symm)).symm
                  refine lv_i2l hx hb dX10_paste_84 rfl ?_
                  have kk_1023 : ((v_1009).toInt64).toInt = (v_1009).toInt := Int32.toInt_toInt64 _
                  refine W.lcmp hx hb dX10_paste_85 ?_
                  refine lv_if_gt (tgt := 107) hx hb dX10_paste_86 (by decide) (fun c_1024 => ?_) (fun c_1024 => ?_)
                  · skip
                    have nc_1024 := jl_gt c_1024
                    refine lv_bipush (v := (-7)) hx hb dX10_paste_107 (by decide) ?_
                    exact W.iret (v := (-7)) hx hb hr (fun t ht hW => ⟨⟨(-7), _, rfl, Or.inr (Or.inl (⟨by have h90 : Int32.toInt (-7) = -7 := (by decide); have h91 : Int32.toInt 2 = 2 := (by decide); have h92 : Int32.toInt 3 = 3 := (by decide); omega, rfl, rfl⟩)), by rw [ht]; exact hP, hD⟩, hS.F ht⟩) hS.2.2 dX10_paste_109
                  · skip
                    have nc_1024 := jl_ngt c_1024
                    refine lv_iload hx hb dX10_paste_89 (lv_at hl 4 rfl) ?_
                    refine lv_i2l hx hb dX10_paste_91 rfl ?_
                    have kk_1025 : ((a4).toInt64).toInt = (a4).toInt := Int32.toInt_toInt64 _
                    refine lv_iload hx hb dX10_paste_92 (lv_at hl 5 rfl) ?_
                    refine lv_i2l hx hb dX10_paste_94 rfl ?_
                    have kk_1026 : ((a5).toInt64).toInt = (a5).toInt := Int32.toInt_toInt64 _
                    refine lv_ladd hx hb dX10_paste_95 ?_
                    refine lv_topl (fun v_1027 ev_1027 => ?_)
                    have qv_1027 := la_add ev_1027
                    refine lv_aload_n hx hb dX10_paste_96 rfl (lv_at hl 0 rfl) ?_
                    refine va_get (D := G) (ci := 10) (v := .ref ob_many) (C := RX10) (T := TX10) (N := 41) hx hb hw0 inA_wsX100 hown hK.1 hP 0 rfl rfl 37 (by decide) (hw0 _ m_406) (fun _ h9 => h9) rfl dX10_paste_97 ?_
                    refine lv_iload_n hx hb dX10_paste_100 rfl (lv_at hl 3 rfl) ?_
                    refine va_iald hx hb hK.1 hP 1 1 rfl rfl (vi (bkc (x := 3) (c := 3) (by decide)) (by decide)) dX10_paste_101 ?_
                    refine lv_topi (fun v_1028 ev_1028 => ?_)
                    obtain rfl : v_1011 = v_1028 := (ev_1028.trans (ev_1011.symm)).symm
                    refine lv_i2l hx hb dX10_paste_102 rfl ?_
                    have kk_1029 : ((v_1011).toInt64).toInt = (v_1011).toInt := Int32.toInt_toInt64 _
                    refine W.lcmp hx hb dX10_paste_103 ?_
                    refine lv_if_le (tgt := 110) hx hb dX10_paste_104 (by decide) (fun c_1030 => ?_) (fun c_1030 => ?_)
                    · skip
                      have nc_1030 := jl_le c_1030
                      have h_1031 : (0 : Int) ≤ a2.toInt ∧ a2.toInt ≤ 60 := by omega
                      have h_1032 : (0 : Int) ≤ a4.toInt ∧ a4.toInt ≤ 60 := by omega
                      have h_1033 : (0 : Int) ≤ a5.toInt ∧ a5.toInt ≤ 60 := by omega
                      refine lv_iconst (v := 0) hx hb dX10_paste_110 (by decide) ?_
                      refine lv_istore (lv' := [(6, .int 0), (0, .ref ob), (1, .int 2), (2, .int a2), (3, .int 3), (4, .int a4), (5, .int a5)]) hx hb dX10_paste_111 hl (by decide) rfl (fun ls hl => ?_)
                      refine loopX (fun n H locs ls st => ∃ (v_1058 : Int32) (f_1059 : Nat → Int64), (60 - v_1058.toInt).toNat = n ∧ ((0 : Int) ≤ v_1058.toInt ∧ v_1058.toInt ≤ 60) ∧ (mL f_1059 fob_numbers (120 + a2.toInt.toNat) v_1058.toInt) ∧ st = [] ∧ vPD G A H [(ce_X10 ob ob_thrown ob_world ob_images ob_hasImage ob_tape ob_taped ob_five ob_size ob_at ob_from ob_token ob_value ob_faultKind ob_faultPlace ob_fresh ob_parts ob_houses ob_houseMany ob_worthOf ob_byCall ob_over ob_bestSet ob_bestOver ob_bestWorth ob_row ob_tenDebts ob_tenMany ob_fewestBy ob_covered ob_queue ob_cameBy ob_parent ob_met ob_calls ob_callMany ob_calledOn ob_saved ob_many ob_width ob_numbers ob_moving), (ce_i4 y ob_many fob_many), (ce_i4 y ob_width fob_width), (ce_l240 y ob_numbers fob_numbers), (ce_l60 y ob_moving f_1059)] ∧ va_S A s.heap H locs ∧ lv_has ls 7 [(6, .int v_1058), (0, .ref ob), (1, .int 2), (2, .int a2), (3, .int 3), (4, .int a4), (5, .int a5)]) ?_ (n := (60 - (0 : Int32).toInt).toNat) ⟨0, fob_moving, rfl, (bw (0) (60) (bkc (x := 0) (c := 0) (by decide)) (by decide)), (ml_0 (by have h90 : Int32.toInt 0 = 0 := (by decide); have h91 : Int32.toInt 2 = 2 := (by decide); have h92 : Int32.toInt 3 = 3 := (by decide); omega)), rfl, ⟨hP, hD⟩, hS, lv_sub hl [0, 1, 2, 3, 4, 5, 6] rfl⟩
                      rintro n ih_1066 H locs ls st ⟨v_1058, f_1059, hn_1066, bv_1058, rl1059_0, rfl, ⟨hP, hD⟩, hS, hl⟩
                      refine lv_iload hx hb dX10_paste_113 (lv_at hl 0 rfl) ?_
                      refine lv_iload hx hb dX10_paste_115 (lv_at hl 6 rfl) ?_
                      refine lv_icmp_ge (tgt := 147) hx hb dX10_paste_117 (by decide) (fun c_1067 => ?_) (fun c_1067 => ?_)
                      · skip
                        have nc_1067 := nb_le (60) (0) c_1067 h_1033 bv_1058 (by decide)
                        refine lv_iconst (v := 0) hx hb dX10_paste_147 (by decide) ?_
                        refine lv_istore (lv' := [(6, .int 0), (0, .ref ob), (1, .int 2), (2, .int a2), (3, .int 3), (4, .int a4), (5, .int a5)]) hx hb dX10_paste_148 hl (by decide) rfl (fun ls hl => ?_)
                        refine loopX (fun n H locs ls st => ∃ (v_1095 : Int32) (f_1096 : Nat → Int64), (60 - v_1095.toInt).toNat = n ∧ ((0 : Int) ≤ v_1095.toInt ∧ v_1095.toInt ≤ 60) ∧ (nL f_1096 fob_numbers f_1059 (180 + a4.toInt.toNat) v_1095.toInt) ∧ (v_1095.toInt ≤ a5.toInt) ∧ st = [] ∧ vPD G A H [(ce_X10 ob ob_thrown ob_world ob_images ob_hasImage ob_tape ob_taped ob_five ob_size ob_at ob_from ob_token ob_value ob_faultKind ob_faultPlace ob_fresh ob_parts ob_houses ob_houseMany ob_worthOf ob_byCall ob_over ob_bestSet ob_bestOver ob_bestWorth ob_row ob_tenDebts ob_tenMany ob_fewestBy ob_covered ob_queue ob_cameBy ob_parent ob_met ob_calls ob_callMany ob_calledOn ob_saved ob_many ob_width ob_numbers ob_moving), (ce_i4 y ob_many fob_many), (ce_i4 y ob_width fob_width), (ce_l240 y ob_numbers f_1096), (ce_l60 y ob_moving f_1059)] ∧ va_S A s.heap H locs ∧ lv_has ls 7 [(6, .int v_1095), (0, .ref ob), (3, .int 3), (4, .int a4), (5, .int a5)]) ?_ (n := (60 - (0 : Int32).toInt).toNat) ⟨0, fob_numbers, rfl, (bw (0) (60) (bkc (x := 0) (c := 0) (by decide)) (by decide)), (nl_0 (by have h90 : Int32.toInt 0 = 0 := (by decide); have h91 : Int32.toInt 2 = 2 := (by decide); have h92 : Int32.toInt 3 = 3 := (by decide); omega)), (by have h90 : Int32.toInt 0 = 0 := (by decide); omega), rfl, ⟨hP, hD⟩, hS, lv_sub hl [0, 1, 4, 5, 6] rfl⟩
                        rintro n ih_1104 H locs ls st ⟨v_1095, f_1096, hn_1104, bv_1095, rl1096_0, rl1096_1, rfl, ⟨hP, hD⟩, hS, hl⟩
                        refine lv_iload hx hb dX10_paste_150 (lv_at hl 0 rfl) ?_
                        refine lv_iload hx hb dX10_paste_152 (lv_at hl 4 rfl) ?_
                        refine lv_icmp_ge (tgt := 185) hx hb dX10_paste_154 (by decide) (fun c_1105 => ?_) (fun c_1105 => ?_)
                        · skip
                          have nc_1105 := nb_le (60) (0) c_1105 nc_1067.1 bv_1095 (by decide)
                          refine lv_iconst (v := 0) hx hb dX10_paste_185 (by decide) ?_
                          exact W.iret (v := 0) hx hb hr (fun t ht hW => ⟨⟨0, _, rfl, Or.inr (Or.inr (Or.inr (⟨f_1096, f_1059, h_1031, h_1032, nc_1105.1, by have h90 : Int32.toInt 0 = 0 := (by decide); have h91 : Int32.toInt 3 = 3 := (by decide); omega, (pl_e rl1059_0 rl1096_0 (by omega) (by omega)), rfl, rfl⟩))), by rw [ht]; exact hP, hD⟩, hS.F ht⟩) hS.2.2 dX10_paste_186
                        · skip
                          have nc_1105 := nb_nle (59) (1) c_1105 bv_1095 nc_1067.1 (by decide)
                          refine lv_aload_n hx hb dX10_paste_157 rfl (lv_at hl 1 rfl) ?_
                          refine va_get (D := G) (ci := 10) (v := .ref ob_numbers) (C := RX10) (T := TX10) (N := 41) hx hb hw0 inA_wsX100 hown hK.1 hP 0 rfl rfl 39 (by decide) (hw0 _ m_435) (fun _ h9 => h9) rfl dX10_paste_158 ?_
                          refine lv_bipush (v := 60) hx hb dX10_paste_161 (by decide) ?_
                          refine lv_iload_n hx hb dX10_paste_163 rfl (lv_at hl 2 rfl) ?_
                          refine lv_imul hx hb dX10_paste_164 ?_
                          refine lv_topi (fun v_1106 ev_1106 => ?_)
                          obtain rfl : 180 = v_1106 := (ev_1106.trans (by decide)).symm
                          refine lv_iload hx hb dX10_paste_165 (lv_at hl 3 rfl) ?_
                          refine lv_iadd hx hb dX10_paste_167 ?_
                          refine lv_topi (fun v_1107 ev_1107 => ?_)
                          have qv_1107 := ba_add ev_1107 (bkc (x := 180) (c := 180) (by decide)) h_1032 (by decide)
                          have bv_1107 : (180 : Int) ≤ v_1107.toInt ∧ v_1107.toInt ≤ 240 := bq_add qv_1107 (bkc (x := 180) (c := 180) (by decide)) h_1032 _ _ (by decide)
                          have qv_1107 : v_1107.toInt = (180) + a4.toInt := qv_1107
                          refine lv_iload hx hb dX10_paste_168 (lv_at hl 0 rfl) ?_
                          refine lv_iadd hx hb dX10_paste_170 ?_
                          refine lv_topi (fun v_1108 ev_1108 => ?_)
                          have qv_1108 := ba_add ev_1108 bv_1107 nc_1105.1 (by decide)
                          have bv_1108 : (180 : Int) ≤ v_1108.toInt ∧ v_1108.toInt ≤ 299 := bq_add qv_1108 bv_1107 nc_1105.1 _ _ (by decide)
                          have h_1109 : (0 : Int) ≤ v_1108.toInt ∧ v_1108.toInt ≤ 239 := by omega
                          refine lv_aload_n hx hb dX10_paste_171 rfl (lv_at hl 1 rfl) ?_
                          refine va_get (D := G) (ci := 10) (v := .ref ob_moving) (C := RX10) (T := TX10) (N := 41) hx hb hw0 inA_wsX100 hown hK.1 hP 0 rfl rfl 40 (by decide) (hw0 _ m_529) (fun _ h9 => h9) rfl dX10_paste_172 ?_
                          refine lv_iload hx hb dX10_paste_175 (lv_at hl 0 rfl) ?_
                          refine va_lald hx hb hK.1 hP 4 2 rfl rfl (vi nc_1105.1 (by decide)) dX10_paste_177 ?_
                          refine lv_topl (fun v_1110 ev_1110 => ?_)
                          refine va_last hx hb hK.1 hP hD hS 3 2 rfl rfl (vi h_1109 (by decide)) dX10_paste_178 (fun H locs hP hD hS => ?_)
                          generalize hf_1111 : (vp_updL f_1096 (v_1108 : Int32).toNatClampNeg v_1110) = f_1111 at hP hD
                          obtain ⟨hP, hD⟩ : vPD G A H [(ce_X10 ob ob_thrown ob_world ob_images ob_hasImage ob_tape ob_taped ob_five ob_size ob_at ob_from ob_token ob_value ob_faultKind ob_faultPlace ob_fresh ob_parts ob_houses ob_houseMany ob_worthOf ob_byCall ob_over ob_bestSet ob_bestOver ob_bestWorth ob_row ob_tenDebts ob_tenMany ob_fewestBy ob_covered ob_queue ob_cameBy ob_parent ob_met ob_calls ob_callMany ob_calledOn ob_saved ob_many ob_width ob_numbers ob_moving), (ce_i4 y ob_many fob_many), (ce_i4 y ob_width fob_width), (ce_l240 y ob_numbers f_1111), (ce_l60 y ob_moving f_1059)] := ⟨hP, hD⟩
                          obtain ⟨v_1112, ev_1112⟩ : ∃ z : Int32, z = v_1095 + 1 := ⟨_, rfl⟩
                          have qv_1112 := ba_add ev_1112 nc_1105.1 (bkc (x := 1) (c := 1) (by decide)) (by decide)
                          have bv_1112 : (1 : Int) ≤ v_1112.toInt ∧ v_1112.toInt ≤ 60 := bq_add qv_1112 nc_1105.1 (bkc (x := 1) (c := 1) (by decide)) _ _ (by decide)
                          have qv_1112 : v_1112.toInt = v_1095.toInt + (1) := qv_1112
                          refine lv_iinc (v := v_1112) (lv' := [(6, .int v_1112), (0, .ref ob), (3, .int 3), (4, .int a4), (5, .int a5)]) hx hb dX10_paste_179 hl (k := 0) rfl (ev_1112.symm) (by decide) rfl (fun ls hl => ?_)
                          refine lv_goto (tgt := 150) hx hb dX10_paste_182 (by decide) ?_
                          exact ih_1104 _ (ml_inc (hi := 60) hn_1104 qv_1112 (by decide) ((bw (0) (60) bv_1112 (by decide))).2) _ _ _ _ ⟨v_1112, f_1111, rfl, (bw (0) (60) bv_1112 (by decide)), (nl_s rl1096_0 hf_1111 ev_1110 (by omega) (by omega) (by omega) (by omega)), (by omega), rfl, ⟨hP, hD⟩, hS, lv_sub hl [0, 1, 2, 3, 4] rfl⟩
                      · skip
                        have nc_1067 := nb_nle (59) (1) c_1067 bv_1058 h_1033 (by decide)
                        refine lv_aload_n hx hb dX10_paste_120 rfl (lv_at hl 1 rfl) ?_
                        refine va_get (D := G) (ci := 10) (v := .ref ob_moving) (C := RX10) (T := TX10) (N := 41) hx hb hw0 inA_wsX100 hown hK.1 hP 0 rfl rfl 40 (by decide) (hw0 _ m_529) (fun _ h9 => h9) rfl dX10_paste_121 ?_
                        refine lv_iload hx hb dX10_paste_124 (lv_at hl 0 rfl) ?_
                        refine lv_aload_n hx hb dX10_paste_126 rfl (lv_at hl 1 rfl) ?_
                        refine va_get (D := G) (ci := 10) (v := .ref ob_numbers) (C := RX10) (T := TX10) (N := 41) hx hb hw0 inA_wsX100 hown hK.1 hP 0 rfl rfl 39 (by decide) (hw0 _ m_435) (fun _ h9 => h9) rfl dX10_paste_127 ?_
                        refine lv_bipush (v := 60) hx hb dX10_paste_130 (by decide) ?_
                        refine lv_iload_n hx hb dX10_paste_132 rfl (lv_at hl 2 rfl) ?_
                        refine lv_imul hx hb dX10_paste_133 ?_
                        refine lv_topi (fun v_1113 ev_1113 => ?_)
                        obtain rfl : 120 = v_1113 := (ev_1113.trans (by decide)).symm
                        refine lv_iload_n hx hb dX10_paste_134 rfl (lv_at hl 3 rfl) ?_
                        refine lv_iadd hx hb dX10_paste_135 ?_
                        refine lv_topi (fun v_1114 ev_1114 => ?_)
                        have qv_1114 := ba_add ev_1114 (bkc (x := 120) (c := 120) (by decide)) h_1031 (by decide)
                        have bv_1114 : (120 : Int) ≤ v_1114.toInt ∧ v_1114.toInt ≤ 180 := bq_add qv_1114 (bkc (x := 120) (c := 120) (by decide)) h_1031 _ _ (by decide)
                        have qv_1114 : v_1114.toInt = (120) + a2.toInt := qv_1114
                        refine lv_iload hx hb dX10_paste_136 (lv_at hl 0 rfl) ?_
                        refine lv_iadd hx hb dX10_paste_138 ?_
                        refine lv_topi (fun v_1115 ev_1115 => ?_)
                        have qv_1115 := ba_add ev_1115 bv_1114 nc_1067.1 (by decide)
                        have bv_1115 : (120 : Int) ≤ v_1115.toInt ∧ v_1115.toInt ≤ 239 := bq_add qv_1115 bv_1114 nc_1067.1 _ _ (by decide)
                        refine va_lald hx hb hK.1 hP 3 2 rfl rfl (vi bv_1115 (by decide)) dX10_paste_139 ?_
                        refine lv_topl (fun v_1116 ev_1116 => ?_)
                        refine va_last hx hb hK.1 hP hD hS 4 2 rfl rfl (vi nc_1067.1 (by decide)) dX10_paste_140 (fun H locs hP hD hS => ?_)
                        generalize hf_1117 : (vp_updL f_1059 (v_1058 : Int32).toNatClampNeg v_1116) = f_1117 at hP hD
                        obtain ⟨hP, hD⟩ : vPD G A H [(ce_X10 ob ob_thrown ob_world ob_images ob_hasImage ob_tape ob_taped ob_five ob_size ob_at ob_from ob_token ob_value ob_faultKind ob_faultPlace ob_fresh ob_parts ob_houses ob_houseMany ob_worthOf ob_byCall ob_over ob_bestSet ob_bestOver ob_bestWorth ob_row ob_tenDebts ob_tenMany ob_fewestBy ob_covered ob_queue ob_cameBy ob_parent ob_met ob_calls ob_callMany ob_calledOn ob_saved ob_many ob_width ob_numbers ob_moving), (ce_i4 y ob_many fob_many), (ce_i4 y ob_width fob_width), (ce_l240 y ob_numbers fob_numbers), (ce_l60 y ob_moving f_1117)] := ⟨hP, hD⟩
                        obtain ⟨v_1118, ev_1118⟩ : ∃ z : Int32, z = v_1058 + 1 := ⟨_, rfl⟩
                        have qv_1118 := ba_add ev_1118 nc_1067.1 (bkc (x := 1) (c := 1) (by decide)) (by decide)
                        have bv_1118 : (1 : Int) ≤ v_1118.toInt ∧ v_1118.toInt ≤ 60 := bq_add qv_1118 nc_1067.1 (bkc (x := 1) (c := 1) (by decide)) _ _ (by decide)
                        have qv_1118 : v_1118.toInt = v_1058.toInt + (1) := qv_1118
                        refine lv_iinc (v := v_1118) (lv' := [(6, .int v_1118), (0, .ref ob), (1, .int 2), (2, .int a2), (3, .int 3), (4, .int a4), (5, .int a5)]) hx hb dX10_paste_141 hl (k := 0) rfl (ev_1118.symm) (by decide) rfl (fun ls hl => ?_)
                        refine lv_goto (tgt := 113) hx hb dX10_paste_144 (by decide) ?_
                        exact ih_1066 _ (ml_inc (hi := 60) hn_1066 qv_1118 (by decide) ((bw (0) (60) bv_1118 (by decide))).2) _ _ _ _ ⟨v_1118, f_1117, rfl, (bw (0) (60) bv_1118 (by decide)), (ml_s rl1059_0 hf_1117 ev_1116 (by omega) (by omega) (by omega) (by omega)), rfl, ⟨hP, hD⟩, hS, lv_sub hl [0, 1, 2, 3, 4, 5, 6] rfl⟩
                    · skip
                      have nc_1030 := jl_nle c_1030
                      refine lv_bipush (v := (-7)) hx hb dX10_paste_107 (by decide) ?_
                      exact W.iret (v := (-7)) hx hb hr (fun t ht hW => ⟨⟨(-7), _, rfl, Or.inr (Or.inl (⟨by have h90 : Int32.toInt (-7) = -7 := (by decide); have h91 : Int32.toInt 2 = 2 := (by decide); have h92 : Int32.toInt 3 = 3 := (by decide); omega, rfl, rfl⟩)), by rw [ht]; exact hP, hD⟩, hS.F ht⟩) hS.2.2 dX10_paste_109
          · skip
            have nc_1015 : v_1013.toInt ≠ v_1014.toInt := fun h9 => c_1015 (Int32.toInt_inj.mp h9)
            refine lv_bipush (v := (-8)) hx hb dX10_paste_55 (by decide) ?_
            exact W.iret (v := (-8)) hx hb hr (fun t ht hW => ⟨⟨(-8), _, rfl, Or.inr (Or.inr (Or.inl (⟨by have h90 : Int32.toInt (-8) = -8 := (by decide); have h91 : Int32.toInt 2 = 2 := (by decide); have h92 : Int32.toInt 3 = 3 := (by decide); omega, rfl, rfl⟩))), by rw [ht]; exact hP, hD⟩, hS.F ht⟩) hS.2.2 dX10_paste_57
        · skip
          have nc_1012 := nb_eq (-1) (-1) c_1012 bv_1011 (bkc (x := (-1)) (c := -1) (by decide)) (by decide)
          refine lv_bipush (v := (-6)) hx hb dX10_paste_37 (by decide) ?_
          exact W.iret (v := (-6)) hx hb hr (fun t ht hW => ⟨⟨(-6), _, rfl, Or.inl (⟨by have h90 : Int32.toInt (-6) = -6 := (by decide); have h91 : Int32.toInt 2 = 2 := (by decide); have h92 : Int32.toInt 3 = 3 := (by decide); omega, rfl, rfl⟩), by rw [ht]; exact hP, hD⟩, hS.F ht⟩) hS.2.2 dX10_paste_39

set_option maxHeartbeats 4000000 in
set_option maxRecDepth 100000 in
theorem fpasteM30 (l : Launch) (G : va_G) (y : Nat → ClassId) (sz : Nat) (ob : Nat) (a2 : Int32) (a4 : Int32) (a5 : Int32) (ob_thrown : Int32) (ob_world : Nat) (ob_images : Nat) (ob_hasImage : Nat) (ob_tape : Nat) (ob_taped : Int32) (ob_five : Nat) (ob_size : Int32) (ob_at : Int32) (ob_from : Int32) (ob_token : Int32) (ob_value : Int32) (ob_faultKind : Int32) (ob_faultPlace : Int32) (ob_fresh : Nat) (ob_parts : Nat) (ob_houses : Nat) (ob_houseMany : Int32) (ob_worthOf : Nat) (ob_byCall : Nat) (ob_over : Nat) (ob_bestSet : Int32) (ob_bestOver : Int32) (ob_bestWorth : Int32) (ob_row : Nat) (ob_tenDebts : Nat) (ob_tenMany : Int32) (ob_fewestBy : Nat) (ob_covered : Nat) (ob_queue : Nat) (ob_cameBy : Nat) (ob_parent : Nat) (ob_met : Nat) (ob_calls : Nat) (ob_callMany : Int32) (ob_calledOn : Nat) (ob_saved : Nat) (ob_many : Nat) (ob_width : Nat) (ob_numbers : Nat) (ob_moving : Nat) (fob_many : Nat → Int32) (fob_width : Nat → Int32) (fob_numbers : Nat → Int64) (fob_moving : Nat → Int64) (p_ob_taped : (0 : Int) ≤ ob_taped.toInt ∧ ob_taped.toInt ≤ 1400) (p_ob_size : (0 : Int) ≤ ob_size.toInt ∧ ob_size.toInt ≤ 1400) (p_ob_at : (0 : Int) ≤ ob_at.toInt ∧ ob_at.toInt ≤ 1400) (p_ob_from : (0 : Int) ≤ ob_from.toInt ∧ ob_from.toInt ≤ 1400) (p_ob_token : (0 : Int) ≤ ob_token.toInt ∧ ob_token.toInt ≤ 4) (p_ob_value : (0 : Int) ≤ ob_value.toInt ∧ ob_value.toInt ≤ 9999) (p_ob_faultKind : (0 : Int) ≤ ob_faultKind.toInt ∧ ob_faultKind.toInt ≤ 3) (p_ob_houseMany : (0 : Int) ≤ ob_houseMany.toInt ∧ ob_houseMany.toInt ≤ 10) (p_ob_bestSet : (0 : Int) ≤ ob_bestSet.toInt ∧ ob_bestSet.toInt ≤ 1023) (p_ob_bestOver : (-1 : Int) ≤ ob_bestOver.toInt ∧ ob_bestOver.toInt ≤ 180) (p_ob_tenMany : (0 : Int) ≤ ob_tenMany.toInt ∧ ob_tenMany.toInt ≤ 10) (p_ob_callMany : (0 : Int) ≤ ob_callMany.toInt ∧ ob_callMany.toInt ≤ 16) (p_fob_many : ∀ i, (-1 : Int) ≤ (fob_many i).toInt ∧ (fob_many i).toInt ≤ 60) (p_fob_width : ∀ i, (0 : Int) ≤ (fob_width i).toInt ∧ (fob_width i).toInt ≤ 3) : Met l yX10_paste (Cond.code yX10_paste cX10_paste 7 (some .int) :: wAll) ({ frames := 2, cells := 0, slots := 0, locals := 45 }) (va_Pc [.ref ob, .int 3, .int a2, .int 0, .int a4, .int a5] (kp G y sz [(ce_X10 ob ob_thrown ob_world ob_images ob_hasImage ob_tape ob_taped ob_five ob_size ob_at ob_from ob_token ob_value ob_faultKind ob_faultPlace ob_fresh ob_parts ob_houses ob_houseMany ob_worthOf ob_byCall ob_over ob_bestSet ob_bestOver ob_bestWorth ob_row ob_tenDebts ob_tenMany ob_fewestBy ob_covered ob_queue ob_cameBy ob_parent ob_met ob_calls ob_callMany ob_calledOn ob_saved ob_many ob_width ob_numbers ob_moving), (ce_i4 y ob_many fob_many), (ce_i4 y ob_width fob_width), (ce_l240 y ob_numbers fob_numbers), (ce_l60 y ob_moving fob_moving)])) (va_Qi (fun (r : Int32) (w : va_W) => (((fob_many 3).toInt = -1 ∨ (fob_many 0).toInt = -1) ∧ r = (-6) ∧ w = [(ce_X10 ob ob_thrown ob_world ob_images ob_hasImage ob_tape ob_taped ob_five ob_size ob_at ob_from ob_token ob_value ob_faultKind ob_faultPlace ob_fresh ob_parts ob_houses ob_houseMany ob_worthOf ob_byCall ob_over ob_bestSet ob_bestOver ob_bestWorth ob_row ob_tenDebts ob_tenMany ob_fewestBy ob_covered ob_queue ob_cameBy ob_parent ob_met ob_calls ob_callMany ob_calledOn ob_saved ob_many ob_width ob_numbers ob_moving), (ce_i4 y ob_many fob_many), (ce_i4 y ob_width fob_width), (ce_l240 y ob_numbers fob_numbers), (ce_l60 y ob_moving fob_moving)]) ∨ ((¬ (fob_many 3).toInt = -1 ∧ ¬ (fob_many 0).toInt = -1 ∧ (fob_width 3).toInt = (fob_width 0).toInt ∧ ¬ (0 ≤ a2.toInt ∧ 0 ≤ a4.toInt ∧ 0 ≤ a5.toInt ∧ a2.toInt + a5.toInt ≤ (fob_many 3).toInt ∧ a4.toInt + a5.toInt ≤ (fob_many 0).toInt)) ∧ r = (-7) ∧ w = [(ce_X10 ob ob_thrown ob_world ob_images ob_hasImage ob_tape ob_taped ob_five ob_size ob_at ob_from ob_token ob_value ob_faultKind ob_faultPlace ob_fresh ob_parts ob_houses ob_houseMany ob_worthOf ob_byCall ob_over ob_bestSet ob_bestOver ob_bestWorth ob_row ob_tenDebts ob_tenMany ob_fewestBy ob_covered ob_queue ob_cameBy ob_parent ob_met ob_calls ob_callMany ob_calledOn ob_saved ob_many ob_width ob_numbers ob_moving), (ce_i4 y ob_many fob_many), (ce_i4 y ob_width fob_width), (ce_l240 y ob_numbers fob_numbers), (ce_l60 y ob_moving fob_moving)]) ∨ ((¬ (fob_many 3).toInt = -1 ∧ ¬ (fob_many 0).toInt = -1 ∧ ¬ (fob_width 3).toInt = (fob_width 0).toInt) ∧ r = (-8) ∧ w = [(ce_X10 ob ob_thrown ob_world ob_images ob_hasImage ob_tape ob_taped ob_five ob_size ob_at ob_from ob_token ob_value ob_faultKind ob_faultPlace ob_fresh ob_parts ob_houses ob_houseMany ob_worthOf ob_byCall ob_over ob_bestSet ob_bestOver ob_bestWorth ob_row ob_tenDebts ob_tenMany ob_fewestBy ob_covered ob_queue ob_cameBy ob_parent ob_met ob_calls ob_callMany ob_calledOn ob_saved ob_many ob_width ob_numbers ob_moving), (ce_i4 y ob_many fob_many), (ce_i4 y ob_width fob_width), (ce_l240 y ob_numbers fob_numbers), (ce_l60 y ob_moving fob_moving)]) ∨ (∃ (f_237 : Nat → Int64) (f_238 : Nat → Int64), ((0 : Int) ≤ a2.toInt ∧ a2.toInt ≤ 60) ∧ ((0 : Int) ≤ a4.toInt ∧ a4.toInt ≤ 60) ∧ ((0 : Int) ≤ a5.toInt ∧ a5.toInt ≤ 60) ∧ (¬ (fob_many 3).toInt = -1 ∧ ¬ (fob_many 0).toInt = -1 ∧ (fob_width 3).toInt = (fob_width 0).toInt ∧ 0 ≤ a2.toInt ∧ 0 ≤ a4.toInt ∧ 0 ≤ a5.toInt ∧ a2.toInt + a5.toInt ≤ (fob_many 3).toInt ∧ a4.toInt + a5.toInt ≤ (fob_many 0).toInt) ∧ (pL f_237 fob_numbers (180 + a2.toInt.toNat) (0 + a4.toInt.toNat) a5.toInt) ∧ r = 0 ∧ w = [(ce_X10 ob ob_thrown ob_world ob_images ob_hasImage ob_tape ob_taped ob_five ob_size ob_at ob_from ob_token ob_value ob_faultKind ob_faultPlace ob_fresh ob_parts ob_houses ob_houseMany ob_worthOf ob_byCall ob_over ob_bestSet ob_bestOver ob_bestWorth ob_row ob_tenDebts ob_tenMany ob_fewestBy ob_covered ob_queue ob_cameBy ob_parent ob_met ob_calls ob_callMany ob_calledOn ob_saved ob_many ob_width ob_numbers ob_moving), (ce_i4 y ob_many fob_many), (ce_i4 y ob_width fob_width), (ce_l240 y ob_numbers f_237), (ce_l60 y ob_moving f_238)])) (kq G (va_A [(ce_X10 ob ob_thrown ob_world ob_images ob_hasImage ob_tape ob_taped ob_five ob_size ob_at ob_from ob_token ob_value ob_faultKind ob_faultPlace ob_fresh ob_parts ob_houses ob_houseMany ob_worthOf ob_byCall ob_over ob_bestSet ob_bestOver ob_bestWorth ob_row ob_tenDebts ob_tenMany ob_fewestBy ob_covered ob_queue ob_cameBy ob_parent ob_met ob_calls ob_callMany ob_calledOn ob_saved ob_many ob_width ob_numbers ob_moving), (ce_i4 y ob_many fob_many), (ce_i4 y ob_width fob_width), (ce_l240 y ob_numbers fob_numbers), (ce_l60 y ob_moving fob_moving)] sz)) (va_A [(ce_X10 ob ob_thrown ob_world ob_images ob_hasImage ob_tape ob_taped ob_five ob_size ob_at ob_from ob_token ob_value ob_faultKind ob_faultPlace ob_fresh ob_parts ob_houses ob_houseMany ob_worthOf ob_byCall ob_over ob_bestSet ob_bestOver ob_bestWorth ob_row ob_tenDebts ob_tenMany ob_fewestBy ob_covered ob_queue ob_cameBy ob_parent ob_met ob_calls ob_callMany ob_calledOn ob_saved ob_many ob_width ob_numbers ob_moving), (ce_i4 y ob_many fob_many), (ce_i4 y ob_width fob_width), (ce_l240 y ob_numbers fob_numbers), (ce_l60 y ob_moving fob_moving)] sz)) 0 0 (va_A [(ce_X10 ob ob_thrown ob_world ob_images ob_hasImage ob_tape ob_taped ob_five ob_size ob_at ob_from ob_token ob_value ob_faultKind ob_faultPlace ob_fresh ob_parts ob_houses ob_houseMany ob_worthOf ob_byCall ob_over ob_bestSet ob_bestOver ob_bestWorth ob_row ob_tenDebts ob_tenMany ob_fewestBy ob_covered ob_queue ob_cameBy ob_parent ob_met ob_calls ob_callMany ob_calledOn ob_saved ob_many ob_width ob_numbers ob_moving), (ce_i4 y ob_many fob_many), (ce_i4 y ob_width fob_width), (ce_l240 y ob_numbers fob_numbers), (ce_l60 y ob_moving fob_moving)] sz) := by
  refine Met.ofW (cc := cX10_paste) (maxL := 7) (ret := (some .int)) (by decide) rfl ?_
  intro p e s m args below meth c s₁ B hml hv
  obtain ⟨rfl, hsz, hP, hK, hD0⟩ := hv
  have hx := B.exec
  have hb := B.bytes
  have hr := B.returns
  have hw0 : ∀ w ∈ wAll, w.before _ s = true := fun w h => atoms_spec (ws := Cond.code yX10_paste cX10_paste 7 (some .int) :: wAll) B.pre w (List.mem_cons_of_mem _ h)
  have hown : s.vm.findClass RX10 = some m.cls := findClass_of_methodNamed B.named
  subst hsz
  have hD := hD0.self (sz := s.heap.size)
  generalize hAe : va_A [(ce_X10 ob ob_thrown ob_world ob_images ob_hasImage ob_tape ob_taped ob_five ob_size ob_at ob_from ob_token ob_value ob_faultKind ob_faultPlace ob_fresh ob_parts ob_houses ob_houseMany ob_worthOf ob_byCall ob_over ob_bestSet ob_bestOver ob_bestWorth ob_row ob_tenDebts ob_tenMany ob_fewestBy ob_covered ob_queue ob_cameBy ob_parent ob_met ob_calls ob_callMany ob_calledOn ob_saved ob_many ob_width ob_numbers ob_moving), (ce_i4 y ob_many fob_many), (ce_i4 y ob_width fob_width), (ce_l240 y ob_numbers fob_numbers), (ce_l60 y ob_moving fob_moving)] s.heap.size = A at hD ⊢
  have hA : ∀ q : Nat, s.heap.size ≤ q → A q := fun q h => by rw [← hAe]; exact Or.inr h
  have hS : va_S A s.heap s.heap [] := va_S.rf
  have hP : va_P G vwCl [(ce_X10 ob ob_thrown ob_world ob_images ob_hasImage ob_tape ob_taped ob_five ob_size ob_at ob_from ob_token ob_value ob_faultKind ob_faultPlace ob_fresh ob_parts ob_houses ob_houseMany ob_worthOf ob_byCall ob_over ob_bestSet ob_bestOver ob_bestWorth ob_row ob_tenDebts ob_tenMany ob_fewestBy ob_covered ob_queue ob_cameBy ob_parent ob_met ob_calls ob_callMany ob_calledOn ob_saved ob_many ob_width ob_numbers ob_moving), (ce_i4 y ob_many fob_many), (ce_i4 y ob_width fob_width), (ce_l240 y ob_numbers fob_numbers), (ce_l60 y ob_moving fob_moving)] s.heap := hP
  have hl := lv_entry ([.ref ob, .int 3, .int a2, .int 0, .int a4, .int a5]) (n := 7) (Nat.le_of_ble_eq_true rfl)
  rw [lg_entry_eq]
  generalize (lg_sl ([.ref ob, .int 3, .int a2, .int 0, .int a4, .int a5]) ++ List.replicate (7 - (lg_sl ([.ref ob, .int 3, .int a2, .int 0, .int a4, .int a5])).length) Slot.unset).toArray = ls at hl ⊢
  have hl : lv_has ls 7 [(0, .ref ob), (1, .int 3), (2, .int a2), (3, .int 0), (4, .int a4), (5, .int a5)] := hl
  refine lv_iload_n hx hb dX10_paste_0 rfl (lv_at hl 1 rfl) ?_
  refine cSim (As := [.int 3]) (rest := []) ⟨hx, hb, hml, hown, hw0⟩ hA hK hP hD hS [] (gisSlotM l G y _ 3 ) rfl ⟨(callB_of 1 hw0 (gA m_543) rfl rfl rfl (hw0 _ m_41) (hw0 _ m_433) cb_X10_isSlot ⟨Nat.le_of_ble_eq_true rfl, Nat.le_of_ble_eq_true rfl⟩), (hw0 _ m_434)⟩ rfl hl.1 (Nat.le_of_ble_eq_true rfl) dX10_paste_1 ⟨Nat.le_of_ble_eq_true rfl, Nat.le_of_ble_eq_true rfl⟩ (fun r_1001 w_1001 H locs hw_1001 hP hD hS => ?_)
  rcases hw_1001 with ⟨h_1002, rfl, rfl⟩ | ⟨h_1003, h_1004, rfl, rfl⟩
  · skip
    exact False.elim (by have h9 : Int32.toInt 3 = 3 := (by decide); omega)
  · skip
    obtain ⟨hP, hD⟩ : vPD G A H [(ce_X10 ob ob_thrown ob_world ob_images ob_hasImage ob_tape ob_taped ob_five ob_size ob_at ob_from ob_token ob_value ob_faultKind ob_faultPlace ob_fresh ob_parts ob_houses ob_houseMany ob_worthOf ob_byCall ob_over ob_bestSet ob_bestOver ob_bestWorth ob_row ob_tenDebts ob_tenMany ob_fewestBy ob_covered ob_queue ob_cameBy ob_parent ob_met ob_calls ob_callMany ob_calledOn ob_saved ob_many ob_width ob_numbers ob_moving), (ce_i4 y ob_many fob_many), (ce_i4 y ob_width fob_width), (ce_l240 y ob_numbers fob_numbers), (ce_l60 y ob_moving fob_moving)] := ⟨hP, hD⟩
    refine lv_if_eq (tgt := 14) hx hb dX10_paste_4 (by decide) (fun c9 => absurd c9 (by decide)) (fun _ => ?_)
    refine lv_iload_n hx hb dX10_paste_7 rfl (lv_at hl 3 rfl) ?_
    refine cSim (As := [.int 0]) (rest := []) ⟨hx, hb, hml, hown, hw0⟩ hA hK hP hD hS [] (gisSlotM l G y _ 0 ) rfl ⟨(callB_of 1 hw0 (gA m_543) rfl rfl rfl (hw0 _ m_41) (hw0 _ m_433) cb_X10_isSlot ⟨Nat.le_of_ble_eq_true rfl, Nat.le_of_ble_eq_true rfl⟩), (hw0 _ m_434)⟩ rfl hl.1 (Nat.le_of_ble_eq_true rfl) dX10_paste_8 ⟨Nat.le_of_ble_eq_true rfl, Nat.le_of_ble_eq_true rfl⟩ (fun r_1005 w_1005 H locs hw_1005 hP hD hS => ?_)
    rcases hw_1005 with ⟨h_1006, rfl, rfl⟩ | ⟨h_1007, h_1008, rfl, rfl⟩
    · skip
      exact False.elim (by have h9 : Int32.toInt 0 = 0 := (by decide); omega)
    · skip
      obtain ⟨hP, hD⟩ : vPD G A H [(ce_X10 ob ob_thrown ob_world ob_images ob_hasImage ob_tape ob_taped ob_five ob_size ob_at ob_from ob_token ob_value ob_faultKind ob_faultPlace ob_fresh ob_parts ob_houses ob_houseMany ob_worthOf ob_byCall ob_over ob_bestSet ob_bestOver ob_bestWorth ob_row ob_tenDebts ob_tenMany ob_fewestBy ob_covered ob_queue ob_cameBy ob_parent ob_met ob_calls ob_callMany ob_calledOn ob_saved ob_many ob_width ob_numbers ob_moving), (ce_i4 y ob_many fob_many), (ce_i4 y ob_width fob_width), (ce_l240 y ob_numbers fob_numbers), (ce_l60 y ob_moving fob_moving)] := ⟨hP, hD⟩
      refine lv_if_ne (tgt := 17) hx hb dX10_paste_11 (by decide) (fun _ => ?_) (fun c9 => absurd c9 (by decide))
      refine lv_aload_n hx hb dX10_paste_17 rfl (lv_at hl 0 rfl) ?_
      refine va_get (D := G) (ci := 10) (v := .ref ob_many) (C := RX10) (T := TX10) (N := 41) hx hb hw0 inA_wsX100 hown hK.1 hP 0 rfl rfl 37 (by decide) (hw0 _ m_406) (fun _ h9 => h9) rfl dX10_paste_18 ?_
      refine lv_iload_n hx hb dX10_paste_21 rfl (lv_at hl 1 rfl) ?_
      refine va_iald hx hb hK.1 hP 1 1 rfl rfl (vi (bkc (x := 3) (c := 3) (by decide)) (by decide)) dX10_paste_22 ?_
      refine lv_topi (fun v_1009 ev_1009 => ?_)
      have bv_1009 : (-1 : Int) ≤ v_1009.toInt ∧ v_1009.toInt ≤ 60 := rd_b ev_1009 p_fob_many
      have yv_1009 : v_1009.toInt = (fob_many 3).toInt := congrArg Int32.toInt ev_1009
      refine lv_iconst (v := (-1)) hx hb dX10_paste_23 (by decide) ?_
      refine lv_icmp_eq (tgt := 37) hx hb dX10_paste_24 (by decide) (fun c_1010 => ?_) (fun c_1010 => ?_)
      · skip
        have nc_1010 := nb_eq (-1) (-1) c_1010 bv_1009 (bkc (x := (-1)) (c := -1) (by decide)) (by decide)
        refine lv_bipush (v := (-6)) hx hb dX10_paste_37 (by decide) ?_
        exact W.iret (v := (-6)) hx hb hr (fun t ht hW => ⟨⟨(-6), _, rfl, Or.inl (⟨by have h90 : Int32.toInt (-6) = -6 := (by decide); have h91 : Int32.toInt 0 = 0 := (by decide); have h92 : Int32.toInt 3 = 3 := (by decide); omega, rfl, rfl⟩), by rw [ht]; exact hP, hD⟩, hS.F ht⟩) hS.2.2 dX10_paste_39
      · skip
        have nc_1010 := nb_ne (0) (60) c_1010 bv_1009 (k := -1) (by decide) (by decide)
        refine lv_aload_n hx hb dX10_paste_27 rfl (lv_at hl 0 rfl) ?_
        refine va_get (D := G) (ci := 10) (v := .ref ob_many) (C := RX10) (T := TX10) (N := 41) hx hb hw0 inA_wsX100 hown hK.1 hP 0 rfl rfl 37 (by decide) (hw0 _ m_406) (fun _ h9 => h9) rfl dX10_paste_28 ?_
        refine lv_iload_n hx hb dX10_paste_31 rfl (lv_at hl 3 rfl) ?_
        refine va_iald hx hb hK.1 hP 1 1 rfl rfl (vi (bkc (x := 0) (c := 0) (by decide)) (by decide)) dX10_paste_32 ?_
        refine lv_topi (fun v_1011 ev_1011 => ?_)
        have bv_1011 : (-1 : Int) ≤ v_1011.toInt ∧ v_1011.toInt ≤ 60 := rd_b ev_1011 p_fob_many
        have yv_1011 : v_1011.toInt = (fob_many 0).toInt := congrArg Int32.toInt ev_1011
        refine lv_iconst (v := (-1)) hx hb dX10_paste_33 (by decide) ?_
        refine lv_icmp_ne (tgt := 40) hx hb dX10_paste_34 (by decide) (fun c_1012 => ?_) (fun c_1012 => ?_)
        · skip
          have nc_1012 := nb_ne (0) (60) c_1012 bv_1011 (k := -1) (by decide) (by decide)
          refine lv_aload_n hx hb dX10_paste_40 rfl (lv_at hl 0 rfl) ?_
          refine va_get (D := G) (ci := 10) (v := .ref ob_width) (C := RX10) (T := TX10) (N := 41) hx hb hw0 inA_wsX100 hown hK.1 hP 0 rfl rfl 38 (by decide) (hw0 _ m_527) (fun _ h9 => h9) rfl dX10_paste_41 ?_
          refine lv_iload_n hx hb dX10_paste_44 rfl (lv_at hl 1 rfl) ?_
          refine va_iald hx hb hK.1 hP 2 1 rfl rfl (vi (bkc (x := 3) (c := 3) (by decide)) (by decide)) dX10_paste_45 ?_
          refine lv_topi (fun v_1013 ev_1013 => ?_)
          have bv_1013 : (0 : Int) ≤ v_1013.toInt ∧ v_1013.toInt ≤ 3 := rd_b ev_1013 p_fob_width
          have yv_1013 : v_1013.toInt = (fob_width 3).toInt := congrArg Int32.toInt ev_1013
          refine lv_aload_n hx hb dX10_paste_46 rfl (lv_at hl 0 rfl) ?_
          refine va_get (D := G) (ci := 10) (v := .ref ob_width) (C := RX10) (T := TX10) (N := 41) hx hb hw0 inA_wsX100 hown hK.1 hP 0 rfl rfl 38 (by decide) (hw0 _ m_527) (fun _ h9 => h9) rfl dX10_paste_47 ?_
          refine lv_iload_n hx hb dX10_paste_50 rfl (lv_at hl 3 rfl) ?_
          refine va_iald hx hb hK.1 hP 2 1 rfl rfl (vi (bkc (x := 0) (c := 0) (by decide)) (by decide)) dX10_paste_51 ?_
          refine lv_topi (fun v_1014 ev_1014 => ?_)
          have bv_1014 : (0 : Int) ≤ v_1014.toInt ∧ v_1014.toInt ≤ 3 := rd_b ev_1014 p_fob_width
          have yv_1014 : v_1014.toInt = (fob_width 0).toInt := congrArg Int32.toInt ev_1014
          refine lv_icmp_eq (tgt := 58) hx hb dX10_paste_52 (by decide) (fun c_1015 => ?_) (fun c_1015 => ?_)
          · skip
            have nc_1015 := nb_eq (0) (3) c_1015 bv_1013 bv_1014 (by decide)
            refine lv_iload_n hx hb dX10_paste_58 rfl (lv_at hl 2 rfl) ?_
            refine lv_if_lt (tgt := 107) hx hb dX10_paste_59 (by decide) (fun c_1016 => ?_) (fun c_1016 => ?_)
            · skip
              have nc_1016 := nb_lt (-1) (0) c_1016 (btop a2) (bkc (x := 0) (c := 0) (by decide)) (by decide)
              refine lv_bipush (v := (-7)) hx hb dX10_paste_107 (by decide) ?_
              exact W.iret (v := (-7)) hx hb hr (fun t ht hW => ⟨⟨(-7), _, rfl, Or.inr (Or.inl (⟨by have h90 : Int32.toInt (-7) = -7 := (by decide); have h91 : Int32.toInt 0 = 0 := (by decide); have h92 : Int32.toInt 3 = 3 := (by decide); omega, rfl, rfl⟩)), by rw [ht]; exact hP, hD⟩, hS.F ht⟩) hS.2.2 dX10_paste_109
            · skip
              have nc_1016 := nb_nlt (0) (0) c_1016 (bkc (x := 0) (c := 0) (by decide)) (btop a2) (by decide)
              refine lv_iload hx hb dX10_paste_62 (lv_at hl 4 rfl) ?_
              refine lv_if_lt (tgt := 107) hx hb dX10_paste_64 (by decide) (fun c_1017 => ?_) (fun c_1017 => ?_)
              · skip
                have nc_1017 := nb_lt (-1) (0) c_1017 (btop a4) (bkc (x := 0) (c := 0) (by decide)) (by decide)
                refine lv_bipush (v := (-7)) hx hb dX10_paste_107 (by decide) ?_
                exact W.iret (v := (-7)) hx hb hr (fun t ht hW => ⟨⟨(-7), _, rfl, Or.inr (Or.inl (⟨by have h90 : Int32.toInt (-7) = -7 := (by decide); have h91 : Int32.toInt 0 = 0 := (by decide); have h92 : Int32.toInt 3 = 3 := (by decide); omega, rfl, rfl⟩)), by rw [ht]; exact hP, hD⟩, hS.F ht⟩) hS.2.2 dX10_paste_109
              · skip
                have nc_1017 := nb_nlt (0) (0) c_1017 (bkc (x := 0) (c := 0) (by decide)) (btop a4) (by decide)
                refine lv_iload hx hb dX10_paste_67 (lv_at hl 5 rfl) ?_
                refine lv_if_lt (tgt := 107) hx hb dX10_paste_69 (by decide) (fun c_1018 => ?_) (fun c_1018 => ?_)
                · skip
                  have nc_1018 := nb_lt (-1) (0) c_1018 (btop a5) (bkc (x := 0) (c := 0) (by decide)) (by decide)
                  refine lv_bipush (v := (-7)) hx hb dX10_paste_107 (by decide) ?_
                  exact W.iret (v := (-7)) hx hb hr (fun t ht hW => ⟨⟨(-7), _, rfl, Or.inr (Or.inl (⟨by have h90 : Int32.toInt (-7) = -7 := (by decide); have h91 : Int32.toInt 0 = 0 := (by decide); have h92 : Int32.toInt 3 = 3 := (by decide); omega, rfl, rfl⟩)), by rw [ht]; exact hP, hD⟩, hS.F ht⟩) hS.2.2 dX10_paste_109
                · skip
                  have nc_1018 := nb_nlt (0) (0) c_1018 (bkc (x := 0) (c := 0) (by decide)) (btop a5) (by decide)
                  refine lv_iload_n hx hb dX10_paste_72 rfl (lv_at hl 2 rfl) ?_
                  refine lv_i2l hx hb dX10_paste_73 rfl ?_
                  have kk_1019 : ((a2).toInt64).toInt = (a2).toInt := Int32.toInt_toInt64 _
                  refine lv_iload hx hb dX10_paste_74 (lv_at hl 5 rfl) ?_
                  refine lv_i2l hx hb dX10_paste_76 rfl ?_
                  have kk_1020 : ((a5).toInt64).toInt = (a5).toInt := Int32.toInt_toInt64 _
                  refine lv_ladd hx hb dX10_paste_77 ?_
                  refine lv_topl (fun v_1021 ev_1021 => ?_)
                  have qv_1021 := la_add ev_1021
                  refine lv_aload_n hx hb dX10_paste_78 rfl (lv_at hl 0 rfl) ?_
                  refine va_get (D := G) (ci := 10) (v := .ref ob_many) (C := RX10) (T := TX10) (N := 41) hx hb hw0 inA_wsX100 hown hK.1 hP 0 rfl rfl 37 (by decide) (hw0 _ m_406) (fun _ h9 => h9) rfl dX10_paste_79 ?_
                  refine lv_iload_n hx hb dX10_paste_82 rfl (lv_at hl 1 rfl) ?_
                  refine va_iald hx hb hK.1 hP 1 1 rfl rfl (vi (bkc (x := 3) (c := 3) (by decide)) (by decide)) dX10_paste_83 ?_
                  refine lv_topi (fun v_1022 ev_1022 => ?_)
                  obtain rfl : v_1009 = v_1022 := (ev_1022.trans (ev_1009.symm)).symm
                  refine lv_i2l hx hb dX10_paste_84 rfl ?_
                  have kk_1023 : ((v_1009).toInt64).toInt = (v_1009).toInt := Int32.toInt_toInt64 _
                  refine W.lcmp hx hb dX10_paste_85 ?_
                  refine lv_if_gt (tgt := 107) hx hb dX10_paste_86 (by decide) (fun c_1024 => ?_) (fun c_1024 => ?_)
                  · skip
                    have nc_1024 := jl_gt c_1024
                    refine lv_bipush (v := (-7)) hx hb dX10_paste_107 (by decide) ?_
                    exact W.iret (v := (-7)) hx hb hr (fun t ht hW => ⟨⟨(-7), _, rfl, Or.inr (Or.inl (⟨by have h90 : Int32.toInt (-7) = -7 := (by decide); have h91 : Int32.toInt 0 = 0 := (by decide); have h92 : Int32.toInt 3 = 3 := (by decide); omega, rfl, rfl⟩)), by rw [ht]; exact hP, hD⟩, hS.F ht⟩) hS.2.2 dX10_paste_109
                  · skip
                    have nc_1024 := jl_ngt c_1024
                    refine lv_iload hx hb dX10_paste_89 (lv_at hl 4 rfl) ?_
                    refine lv_i2l hx hb dX10_paste_91 rfl ?_
                    have kk_1025 : ((a4).toInt64).toInt = (a4).toInt := Int32.toInt_toInt64 _
                    refine lv_iload hx hb dX10_paste_92 (lv_at hl 5 rfl) ?_
                    refine lv_i2l hx hb dX10_paste_94 rfl ?_
                    have kk_1026 : ((a5).toInt64).toInt = (a5).toInt := Int32.toInt_toInt64 _
                    refine lv_ladd hx hb dX10_paste_95 ?_
                    refine lv_topl (fun v_1027 ev_1027 => ?_)
                    have qv_1027 := la_add ev_1027
                    refine lv_aload_n hx hb dX10_paste_96 rfl (lv_at hl 0 rfl) ?_
                    refine va_get (D := G) (ci := 10) (v := .ref ob_many) (C := RX10) (T := TX10) (N := 41) hx hb hw0 inA_wsX100 hown hK.1 hP 0 rfl rfl 37 (by decide) (hw0 _ m_406) (fun _ h9 => h9) rfl dX10_paste_97 ?_
                    refine lv_iload_n hx hb dX10_paste_100 rfl (lv_at hl 3 rfl) ?_
                    refine va_iald hx hb hK.1 hP 1 1 rfl rfl (vi (bkc (x := 0) (c := 0) (by decide)) (by decide)) dX10_paste_101 ?_
                    refine lv_topi (fun v_1028 ev_1028 => ?_)
                    obtain rfl : v_1011 = v_1028 := (ev_1028.trans (ev_1011.symm)).symm
                    refine lv_i2l hx hb dX10_paste_102 rfl ?_
                    have kk_1029 : ((v_1011).toInt64).toInt = (v_1011).toInt := Int32.toInt_toInt64 _
                    refine W.lcmp hx hb dX10_paste_103 ?_
                    refine lv_if_le (tgt := 110) hx hb dX10_paste_104 (by decide) (fun c_1030 => ?_) (fun c_1030 => ?_)
                    · skip
                      have nc_1030 := jl_le c_1030
                      have h_1031 : (0 : Int) ≤ a2.toInt ∧ a2.toInt ≤ 60 := by omega
                      have h_1032 : (0 : Int) ≤ a4.toInt ∧ a4.toInt ≤ 60 := by omega
                      have h_1033 : (0 : Int) ≤ a5.toInt ∧ a5.toInt ≤ 60 := by omega
                      refine lv_iconst (v := 0) hx hb dX10_paste_110 (by decide) ?_
                      refine lv_istore (lv' := [(6, .int 0), (0, .ref ob), (1, .int 3), (2, .int a2), (3, .int 0), (4, .int a4), (5, .int a5)]) hx hb dX10_paste_111 hl (by decide) rfl (fun ls hl => ?_)
                      refine loopX (fun n H locs ls st => ∃ (v_1061 : Int32) (f_1062 : Nat → Int64), (60 - v_1061.toInt).toNat = n ∧ ((0 : Int) ≤ v_1061.toInt ∧ v_1061.toInt ≤ 60) ∧ (mL f_1062 fob_numbers (180 + a2.toInt.toNat) v_1061.toInt) ∧ st = [] ∧ vPD G A H [(ce_X10 ob ob_thrown ob_world ob_images ob_hasImage ob_tape ob_taped ob_five ob_size ob_at ob_from ob_token ob_value ob_faultKind ob_faultPlace ob_fresh ob_parts ob_houses ob_houseMany ob_worthOf ob_byCall ob_over ob_bestSet ob_bestOver ob_bestWorth ob_row ob_tenDebts ob_tenMany ob_fewestBy ob_covered ob_queue ob_cameBy ob_parent ob_met ob_calls ob_callMany ob_calledOn ob_saved ob_many ob_width ob_numbers ob_moving), (ce_i4 y ob_many fob_many), (ce_i4 y ob_width fob_width), (ce_l240 y ob_numbers fob_numbers), (ce_l60 y ob_moving f_1062)] ∧ va_S A s.heap H locs ∧ lv_has ls 7 [(6, .int v_1061), (0, .ref ob), (1, .int 3), (2, .int a2), (3, .int 0), (4, .int a4), (5, .int a5)]) ?_ (n := (60 - (0 : Int32).toInt).toNat) ⟨0, fob_moving, rfl, (bw (0) (60) (bkc (x := 0) (c := 0) (by decide)) (by decide)), (ml_0 (by have h90 : Int32.toInt 0 = 0 := (by decide); have h91 : Int32.toInt 3 = 3 := (by decide); omega)), rfl, ⟨hP, hD⟩, hS, lv_sub hl [0, 1, 2, 3, 4, 5, 6] rfl⟩
                      rintro n ih_1070 H locs ls st ⟨v_1061, f_1062, hn_1070, bv_1061, rl1062_0, rfl, ⟨hP, hD⟩, hS, hl⟩
                      refine lv_iload hx hb dX10_paste_113 (lv_at hl 0 rfl) ?_
                      refine lv_iload hx hb dX10_paste_115 (lv_at hl 6 rfl) ?_
                      refine lv_icmp_ge (tgt := 147) hx hb dX10_paste_117 (by decide) (fun c_1071 => ?_) (fun c_1071 => ?_)
                      · skip
                        have nc_1071 := nb_le (60) (0) c_1071 h_1033 bv_1061 (by decide)
                        refine lv_iconst (v := 0) hx hb dX10_paste_147 (by decide) ?_
                        refine lv_istore (lv' := [(6, .int 0), (0, .ref ob), (1, .int 3), (2, .int a2), (3, .int 0), (4, .int a4), (5, .int a5)]) hx hb dX10_paste_148 hl (by decide) rfl (fun ls hl => ?_)
                        refine loopX (fun n H locs ls st => ∃ (v_1096 : Int32) (f_1097 : Nat → Int64), (60 - v_1096.toInt).toNat = n ∧ ((0 : Int) ≤ v_1096.toInt ∧ v_1096.toInt ≤ 60) ∧ (nL f_1097 fob_numbers f_1062 (0 + a4.toInt.toNat) v_1096.toInt) ∧ (v_1096.toInt ≤ a5.toInt) ∧ st = [] ∧ vPD G A H [(ce_X10 ob ob_thrown ob_world ob_images ob_hasImage ob_tape ob_taped ob_five ob_size ob_at ob_from ob_token ob_value ob_faultKind ob_faultPlace ob_fresh ob_parts ob_houses ob_houseMany ob_worthOf ob_byCall ob_over ob_bestSet ob_bestOver ob_bestWorth ob_row ob_tenDebts ob_tenMany ob_fewestBy ob_covered ob_queue ob_cameBy ob_parent ob_met ob_calls ob_callMany ob_calledOn ob_saved ob_many ob_width ob_numbers ob_moving), (ce_i4 y ob_many fob_many), (ce_i4 y ob_width fob_width), (ce_l240 y ob_numbers f_1097), (ce_l60 y ob_moving f_1062)] ∧ va_S A s.heap H locs ∧ lv_has ls 7 [(6, .int v_1096), (0, .ref ob), (3, .int 0), (4, .int a4), (5, .int a5)]) ?_ (n := (60 - (0 : Int32).toInt).toNat) ⟨0, fob_numbers, rfl, (bw (0) (60) (bkc (x := 0) (c := 0) (by decide)) (by decide)), (nl_0 (by have h90 : Int32.toInt 0 = 0 := (by decide); have h91 : Int32.toInt 3 = 3 := (by decide); omega)), (by have h90 : Int32.toInt 0 = 0 := (by decide); omega), rfl, ⟨hP, hD⟩, hS, lv_sub hl [0, 1, 4, 5, 6] rfl⟩
                        rintro n ih_1104 H locs ls st ⟨v_1096, f_1097, hn_1104, bv_1096, rl1097_0, rl1097_1, rfl, ⟨hP, hD⟩, hS, hl⟩
                        refine lv_iload hx hb dX10_paste_150 (lv_at hl 0 rfl) ?_
                        refine lv_iload hx hb dX10_paste_152 (lv_at hl 4 rfl) ?_
                        refine lv_icmp_ge (tgt := 185) hx hb dX10_paste_154 (by decide) (fun c_1105 => ?_) (fun c_1105 => ?_)
                        · skip
                          have nc_1105 := nb_le (60) (0) c_1105 nc_1071.1 bv_1096 (by decide)
                          refine lv_iconst (v := 0) hx hb dX10_paste_185 (by decide) ?_
                          exact W.iret (v := 0) hx hb hr (fun t ht hW => ⟨⟨0, _, rfl, Or.inr (Or.inr (Or.inr (⟨f_1097, f_1062, h_1031, h_1032, nc_1105.1, by have h90 : Int32.toInt 0 = 0 := (by decide); omega, (pl_e rl1062_0 rl1097_0 (by omega) (by omega)), rfl, rfl⟩))), by rw [ht]; exact hP, hD⟩, hS.F ht⟩) hS.2.2 dX10_paste_186
                        · skip
                          have nc_1105 := nb_nle (59) (1) c_1105 bv_1096 nc_1071.1 (by decide)
                          refine lv_aload_n hx hb dX10_paste_157 rfl (lv_at hl 1 rfl) ?_
                          refine va_get (D := G) (ci := 10) (v := .ref ob_numbers) (C := RX10) (T := TX10) (N := 41) hx hb hw0 inA_wsX100 hown hK.1 hP 0 rfl rfl 39 (by decide) (hw0 _ m_435) (fun _ h9 => h9) rfl dX10_paste_158 ?_
                          refine lv_bipush (v := 60) hx hb dX10_paste_161 (by decide) ?_
                          refine lv_iload_n hx hb dX10_paste_163 rfl (lv_at hl 2 rfl) ?_
                          refine lv_imul hx hb dX10_paste_164 ?_
                          refine lv_topi (fun v_1106 ev_1106 => ?_)
                          obtain rfl : 0 = v_1106 := (ev_1106.trans (by decide)).symm
                          refine lv_iload hx hb dX10_paste_165 (lv_at hl 3 rfl) ?_
                          refine lv_iadd hx hb dX10_paste_167 ?_
                          refine lv_topi (fun v_1107 ev_1107 => ?_)
                          have qv_1107 := ba_add ev_1107 (bkc (x := 0) (c := 0) (by decide)) h_1032 (by decide)
                          have bv_1107 : (0 : Int) ≤ v_1107.toInt ∧ v_1107.toInt ≤ 60 := bq_add qv_1107 (bkc (x := 0) (c := 0) (by decide)) h_1032 _ _ (by decide)
                          have qv_1107 : v_1107.toInt = (0) + a4.toInt := qv_1107
                          refine lv_iload hx hb dX10_paste_168 (lv_at hl 0 rfl) ?_
                          refine lv_iadd hx hb dX10_paste_170 ?_
                          refine lv_topi (fun v_1108 ev_1108 => ?_)
                          have qv_1108 := ba_add ev_1108 bv_1107 nc_1105.1 (by decide)
                          have bv_1108 : (0 : Int) ≤ v_1108.toInt ∧ v_1108.toInt ≤ 119 := bq_add qv_1108 bv_1107 nc_1105.1 _ _ (by decide)
                          refine lv_aload_n hx hb dX10_paste_171 rfl (lv_at hl 1 rfl) ?_
                          refine va_get (D := G) (ci := 10) (v := .ref ob_moving) (C := RX10) (T := TX10) (N := 41) hx hb hw0 inA_wsX100 hown hK.1 hP 0 rfl rfl 40 (by decide) (hw0 _ m_529) (fun _ h9 => h9) rfl dX10_paste_172 ?_
                          refine lv_iload hx hb dX10_paste_175 (lv_at hl 0 rfl) ?_
                          refine va_lald hx hb hK.1 hP 4 2 rfl rfl (vi nc_1105.1 (by decide)) dX10_paste_177 ?_
                          refine lv_topl (fun v_1109 ev_1109 => ?_)
                          refine va_last hx hb hK.1 hP hD hS 3 2 rfl rfl (vi bv_1108 (by decide)) dX10_paste_178 (fun H locs hP hD hS => ?_)
                          generalize hf_1110 : (vp_updL f_1097 (v_1108 : Int32).toNatClampNeg v_1109) = f_1110 at hP hD
                          obtain ⟨hP, hD⟩ : vPD G A H [(ce_X10 ob ob_thrown ob_world ob_images ob_hasImage ob_tape ob_taped ob_five ob_size ob_at ob_from ob_token ob_value ob_faultKind ob_faultPlace ob_fresh ob_parts ob_houses ob_houseMany ob_worthOf ob_byCall ob_over ob_bestSet ob_bestOver ob_bestWorth ob_row ob_tenDebts ob_tenMany ob_fewestBy ob_covered ob_queue ob_cameBy ob_parent ob_met ob_calls ob_callMany ob_calledOn ob_saved ob_many ob_width ob_numbers ob_moving), (ce_i4 y ob_many fob_many), (ce_i4 y ob_width fob_width), (ce_l240 y ob_numbers f_1110), (ce_l60 y ob_moving f_1062)] := ⟨hP, hD⟩
                          obtain ⟨v_1111, ev_1111⟩ : ∃ z : Int32, z = v_1096 + 1 := ⟨_, rfl⟩
                          have qv_1111 := ba_add ev_1111 nc_1105.1 (bkc (x := 1) (c := 1) (by decide)) (by decide)
                          have bv_1111 : (1 : Int) ≤ v_1111.toInt ∧ v_1111.toInt ≤ 60 := bq_add qv_1111 nc_1105.1 (bkc (x := 1) (c := 1) (by decide)) _ _ (by decide)
                          have qv_1111 : v_1111.toInt = v_1096.toInt + (1) := qv_1111
                          refine lv_iinc (v := v_1111) (lv' := [(6, .int v_1111), (0, .ref ob), (3, .int 0), (4, .int a4), (5, .int a5)]) hx hb dX10_paste_179 hl (k := 0) rfl (ev_1111.symm) (by decide) rfl (fun ls hl => ?_)
                          refine lv_goto (tgt := 150) hx hb dX10_paste_182 (by decide) ?_
                          exact ih_1104 _ (ml_inc (hi := 60) hn_1104 qv_1111 (by decide) ((bw (0) (60) bv_1111 (by decide))).2) _ _ _ _ ⟨v_1111, f_1110, rfl, (bw (0) (60) bv_1111 (by decide)), (nl_s rl1097_0 hf_1110 ev_1109 (by omega) (by omega) (by omega) (by omega)), (by omega), rfl, ⟨hP, hD⟩, hS, lv_sub hl [0, 1, 2, 3, 4] rfl⟩
                      · skip
                        have nc_1071 := nb_nle (59) (1) c_1071 bv_1061 h_1033 (by decide)
                        refine lv_aload_n hx hb dX10_paste_120 rfl (lv_at hl 1 rfl) ?_
                        refine va_get (D := G) (ci := 10) (v := .ref ob_moving) (C := RX10) (T := TX10) (N := 41) hx hb hw0 inA_wsX100 hown hK.1 hP 0 rfl rfl 40 (by decide) (hw0 _ m_529) (fun _ h9 => h9) rfl dX10_paste_121 ?_
                        refine lv_iload hx hb dX10_paste_124 (lv_at hl 0 rfl) ?_
                        refine lv_aload_n hx hb dX10_paste_126 rfl (lv_at hl 1 rfl) ?_
                        refine va_get (D := G) (ci := 10) (v := .ref ob_numbers) (C := RX10) (T := TX10) (N := 41) hx hb hw0 inA_wsX100 hown hK.1 hP 0 rfl rfl 39 (by decide) (hw0 _ m_435) (fun _ h9 => h9) rfl dX10_paste_127 ?_
                        refine lv_bipush (v := 60) hx hb dX10_paste_130 (by decide) ?_
                        refine lv_iload_n hx hb dX10_paste_132 rfl (lv_at hl 2 rfl) ?_
                        refine lv_imul hx hb dX10_paste_133 ?_
                        refine lv_topi (fun v_1112 ev_1112 => ?_)
                        obtain rfl : 180 = v_1112 := (ev_1112.trans (by decide)).symm
                        refine lv_iload_n hx hb dX10_paste_134 rfl (lv_at hl 3 rfl) ?_
                        refine lv_iadd hx hb dX10_paste_135 ?_
                        refine lv_topi (fun v_1113 ev_1113 => ?_)
                        have qv_1113 := ba_add ev_1113 (bkc (x := 180) (c := 180) (by decide)) h_1031 (by decide)
                        have bv_1113 : (180 : Int) ≤ v_1113.toInt ∧ v_1113.toInt ≤ 240 := bq_add qv_1113 (bkc (x := 180) (c := 180) (by decide)) h_1031 _ _ (by decide)
                        have qv_1113 : v_1113.toInt = (180) + a2.toInt := qv_1113
                        refine lv_iload hx hb dX10_paste_136 (lv_at hl 0 rfl) ?_
                        refine lv_iadd hx hb dX10_paste_138 ?_
                        refine lv_topi (fun v_1114 ev_1114 => ?_)
                        have qv_1114 := ba_add ev_1114 bv_1113 nc_1071.1 (by decide)
                        have bv_1114 : (180 : Int) ≤ v_1114.toInt ∧ v_1114.toInt ≤ 299 := bq_add qv_1114 bv_1113 nc_1071.1 _ _ (by decide)
                        have h_1115 : (0 : Int) ≤ v_1114.toInt ∧ v_1114.toInt ≤ 239 := by omega
                        refine va_lald hx hb hK.1 hP 3 2 rfl rfl (vi h_1115 (by decide)) dX10_paste_139 ?_
                        refine lv_topl (fun v_1116 ev_1116 => ?_)
                        refine va_last hx hb hK.1 hP hD hS 4 2 rfl rfl (vi nc_1071.1 (by decide)) dX10_paste_140 (fun H locs hP hD hS => ?_)
                        generalize hf_1117 : (vp_updL f_1062 (v_1061 : Int32).toNatClampNeg v_1116) = f_1117 at hP hD
                        obtain ⟨hP, hD⟩ : vPD G A H [(ce_X10 ob ob_thrown ob_world ob_images ob_hasImage ob_tape ob_taped ob_five ob_size ob_at ob_from ob_token ob_value ob_faultKind ob_faultPlace ob_fresh ob_parts ob_houses ob_houseMany ob_worthOf ob_byCall ob_over ob_bestSet ob_bestOver ob_bestWorth ob_row ob_tenDebts ob_tenMany ob_fewestBy ob_covered ob_queue ob_cameBy ob_parent ob_met ob_calls ob_callMany ob_calledOn ob_saved ob_many ob_width ob_numbers ob_moving), (ce_i4 y ob_many fob_many), (ce_i4 y ob_width fob_width), (ce_l240 y ob_numbers fob_numbers), (ce_l60 y ob_moving f_1117)] := ⟨hP, hD⟩
                        obtain ⟨v_1118, ev_1118⟩ : ∃ z : Int32, z = v_1061 + 1 := ⟨_, rfl⟩
                        have qv_1118 := ba_add ev_1118 nc_1071.1 (bkc (x := 1) (c := 1) (by decide)) (by decide)
                        have bv_1118 : (1 : Int) ≤ v_1118.toInt ∧ v_1118.toInt ≤ 60 := bq_add qv_1118 nc_1071.1 (bkc (x := 1) (c := 1) (by decide)) _ _ (by decide)
                        have qv_1118 : v_1118.toInt = v_1061.toInt + (1) := qv_1118
                        refine lv_iinc (v := v_1118) (lv' := [(6, .int v_1118), (0, .ref ob), (1, .int 3), (2, .int a2), (3, .int 0), (4, .int a4), (5, .int a5)]) hx hb dX10_paste_141 hl (k := 0) rfl (ev_1118.symm) (by decide) rfl (fun ls hl => ?_)
                        refine lv_goto (tgt := 113) hx hb dX10_paste_144 (by decide) ?_
                        exact ih_1070 _ (ml_inc (hi := 60) hn_1070 qv_1118 (by decide) ((bw (0) (60) bv_1118 (by decide))).2) _ _ _ _ ⟨v_1118, f_1117, rfl, (bw (0) (60) bv_1118 (by decide)), (ml_s rl1062_0 hf_1117 ev_1116 (by omega) (by omega) (by omega) (by omega)), rfl, ⟨hP, hD⟩, hS, lv_sub hl [0, 1, 2, 3, 4, 5, 6] rfl⟩
                    · skip
                      have nc_1030 := jl_nle c_1030
                      refine lv_bipush (v := (-7)) hx hb dX10_paste_107 (by decide) ?_
                      exact W.iret (v := (-7)) hx hb hr (fun t ht hW => ⟨⟨(-7), _, rfl, Or.inr (Or.inl (⟨by have h90 : Int32.toInt (-7) = -7 := (by decide); have h91 : Int32.toInt 0 = 0 := (by decide); have h92 : Int32.toInt 3 = 3 := (by decide); omega, rfl, rfl⟩)), by rw [ht]; exact hP, hD⟩, hS.F ht⟩) hS.2.2 dX10_paste_109
          · skip
            have nc_1015 : v_1013.toInt ≠ v_1014.toInt := fun h9 => c_1015 (Int32.toInt_inj.mp h9)
            refine lv_bipush (v := (-8)) hx hb dX10_paste_55 (by decide) ?_
            exact W.iret (v := (-8)) hx hb hr (fun t ht hW => ⟨⟨(-8), _, rfl, Or.inr (Or.inr (Or.inl (⟨by have h90 : Int32.toInt (-8) = -8 := (by decide); have h91 : Int32.toInt 0 = 0 := (by decide); have h92 : Int32.toInt 3 = 3 := (by decide); omega, rfl, rfl⟩))), by rw [ht]; exact hP, hD⟩, hS.F ht⟩) hS.2.2 dX10_paste_57
        · skip
          have nc_1012 := nb_eq (-1) (-1) c_1012 bv_1011 (bkc (x := (-1)) (c := -1) (by decide)) (by decide)
          refine lv_bipush (v := (-6)) hx hb dX10_paste_37 (by decide) ?_
          exact W.iret (v := (-6)) hx hb hr (fun t ht hW => ⟨⟨(-6), _, rfl, Or.inl (⟨by have h90 : Int32.toInt (-6) = -6 := (by decide); have h91 : Int32.toInt 0 = 0 := (by decide); have h92 : Int32.toInt 3 = 3 := (by decide); omega, rfl, rfl⟩), by rw [ht]; exact hP, hD⟩, hS.F ht⟩) hS.2.2 dX10_paste_39

set_option maxHeartbeats 4000000 in
set_option maxRecDepth 100000 in
theorem fpasteM31 (l : Launch) (G : va_G) (y : Nat → ClassId) (sz : Nat) (ob : Nat) (a2 : Int32) (a4 : Int32) (a5 : Int32) (ob_thrown : Int32) (ob_world : Nat) (ob_images : Nat) (ob_hasImage : Nat) (ob_tape : Nat) (ob_taped : Int32) (ob_five : Nat) (ob_size : Int32) (ob_at : Int32) (ob_from : Int32) (ob_token : Int32) (ob_value : Int32) (ob_faultKind : Int32) (ob_faultPlace : Int32) (ob_fresh : Nat) (ob_parts : Nat) (ob_houses : Nat) (ob_houseMany : Int32) (ob_worthOf : Nat) (ob_byCall : Nat) (ob_over : Nat) (ob_bestSet : Int32) (ob_bestOver : Int32) (ob_bestWorth : Int32) (ob_row : Nat) (ob_tenDebts : Nat) (ob_tenMany : Int32) (ob_fewestBy : Nat) (ob_covered : Nat) (ob_queue : Nat) (ob_cameBy : Nat) (ob_parent : Nat) (ob_met : Nat) (ob_calls : Nat) (ob_callMany : Int32) (ob_calledOn : Nat) (ob_saved : Nat) (ob_many : Nat) (ob_width : Nat) (ob_numbers : Nat) (ob_moving : Nat) (fob_many : Nat → Int32) (fob_width : Nat → Int32) (fob_numbers : Nat → Int64) (fob_moving : Nat → Int64) (p_ob_taped : (0 : Int) ≤ ob_taped.toInt ∧ ob_taped.toInt ≤ 1400) (p_ob_size : (0 : Int) ≤ ob_size.toInt ∧ ob_size.toInt ≤ 1400) (p_ob_at : (0 : Int) ≤ ob_at.toInt ∧ ob_at.toInt ≤ 1400) (p_ob_from : (0 : Int) ≤ ob_from.toInt ∧ ob_from.toInt ≤ 1400) (p_ob_token : (0 : Int) ≤ ob_token.toInt ∧ ob_token.toInt ≤ 4) (p_ob_value : (0 : Int) ≤ ob_value.toInt ∧ ob_value.toInt ≤ 9999) (p_ob_faultKind : (0 : Int) ≤ ob_faultKind.toInt ∧ ob_faultKind.toInt ≤ 3) (p_ob_houseMany : (0 : Int) ≤ ob_houseMany.toInt ∧ ob_houseMany.toInt ≤ 10) (p_ob_bestSet : (0 : Int) ≤ ob_bestSet.toInt ∧ ob_bestSet.toInt ≤ 1023) (p_ob_bestOver : (-1 : Int) ≤ ob_bestOver.toInt ∧ ob_bestOver.toInt ≤ 180) (p_ob_tenMany : (0 : Int) ≤ ob_tenMany.toInt ∧ ob_tenMany.toInt ≤ 10) (p_ob_callMany : (0 : Int) ≤ ob_callMany.toInt ∧ ob_callMany.toInt ≤ 16) (p_fob_many : ∀ i, (-1 : Int) ≤ (fob_many i).toInt ∧ (fob_many i).toInt ≤ 60) (p_fob_width : ∀ i, (0 : Int) ≤ (fob_width i).toInt ∧ (fob_width i).toInt ≤ 3) : Met l yX10_paste (Cond.code yX10_paste cX10_paste 7 (some .int) :: wAll) ({ frames := 2, cells := 0, slots := 0, locals := 45 }) (va_Pc [.ref ob, .int 3, .int a2, .int 1, .int a4, .int a5] (kp G y sz [(ce_X10 ob ob_thrown ob_world ob_images ob_hasImage ob_tape ob_taped ob_five ob_size ob_at ob_from ob_token ob_value ob_faultKind ob_faultPlace ob_fresh ob_parts ob_houses ob_houseMany ob_worthOf ob_byCall ob_over ob_bestSet ob_bestOver ob_bestWorth ob_row ob_tenDebts ob_tenMany ob_fewestBy ob_covered ob_queue ob_cameBy ob_parent ob_met ob_calls ob_callMany ob_calledOn ob_saved ob_many ob_width ob_numbers ob_moving), (ce_i4 y ob_many fob_many), (ce_i4 y ob_width fob_width), (ce_l240 y ob_numbers fob_numbers), (ce_l60 y ob_moving fob_moving)])) (va_Qi (fun (r : Int32) (w : va_W) => (((fob_many 3).toInt = -1 ∨ (fob_many 1).toInt = -1) ∧ r = (-6) ∧ w = [(ce_X10 ob ob_thrown ob_world ob_images ob_hasImage ob_tape ob_taped ob_five ob_size ob_at ob_from ob_token ob_value ob_faultKind ob_faultPlace ob_fresh ob_parts ob_houses ob_houseMany ob_worthOf ob_byCall ob_over ob_bestSet ob_bestOver ob_bestWorth ob_row ob_tenDebts ob_tenMany ob_fewestBy ob_covered ob_queue ob_cameBy ob_parent ob_met ob_calls ob_callMany ob_calledOn ob_saved ob_many ob_width ob_numbers ob_moving), (ce_i4 y ob_many fob_many), (ce_i4 y ob_width fob_width), (ce_l240 y ob_numbers fob_numbers), (ce_l60 y ob_moving fob_moving)]) ∨ ((¬ (fob_many 3).toInt = -1 ∧ ¬ (fob_many 1).toInt = -1 ∧ (fob_width 3).toInt = (fob_width 1).toInt ∧ ¬ (0 ≤ a2.toInt ∧ 0 ≤ a4.toInt ∧ 0 ≤ a5.toInt ∧ a2.toInt + a5.toInt ≤ (fob_many 3).toInt ∧ a4.toInt + a5.toInt ≤ (fob_many 1).toInt)) ∧ r = (-7) ∧ w = [(ce_X10 ob ob_thrown ob_world ob_images ob_hasImage ob_tape ob_taped ob_five ob_size ob_at ob_from ob_token ob_value ob_faultKind ob_faultPlace ob_fresh ob_parts ob_houses ob_houseMany ob_worthOf ob_byCall ob_over ob_bestSet ob_bestOver ob_bestWorth ob_row ob_tenDebts ob_tenMany ob_fewestBy ob_covered ob_queue ob_cameBy ob_parent ob_met ob_calls ob_callMany ob_calledOn ob_saved ob_many ob_width ob_numbers ob_moving), (ce_i4 y ob_many fob_many), (ce_i4 y ob_width fob_width), (ce_l240 y ob_numbers fob_numbers), (ce_l60 y ob_moving fob_moving)]) ∨ ((¬ (fob_many 3).toInt = -1 ∧ ¬ (fob_many 1).toInt = -1 ∧ ¬ (fob_width 3).toInt = (fob_width 1).toInt) ∧ r = (-8) ∧ w = [(ce_X10 ob ob_thrown ob_world ob_images ob_hasImage ob_tape ob_taped ob_five ob_size ob_at ob_from ob_token ob_value ob_faultKind ob_faultPlace ob_fresh ob_parts ob_houses ob_houseMany ob_worthOf ob_byCall ob_over ob_bestSet ob_bestOver ob_bestWorth ob_row ob_tenDebts ob_tenMany ob_fewestBy ob_covered ob_queue ob_cameBy ob_parent ob_met ob_calls ob_callMany ob_calledOn ob_saved ob_many ob_width ob_numbers ob_moving), (ce_i4 y ob_many fob_many), (ce_i4 y ob_width fob_width), (ce_l240 y ob_numbers fob_numbers), (ce_l60 y ob_moving fob_moving)]) ∨ (∃ (f_237 : Nat → Int64) (f_238 : Nat → Int64), ((0 : Int) ≤ a2.toInt ∧ a2.toInt ≤ 60) ∧ ((0 : Int) ≤ a4.toInt ∧ a4.toInt ≤ 60) ∧ ((0 : Int) ≤ a5.toInt ∧ a5.toInt ≤ 60) ∧ (¬ (fob_many 3).toInt = -1 ∧ ¬ (fob_many 1).toInt = -1 ∧ (fob_width 3).toInt = (fob_width 1).toInt ∧ 0 ≤ a2.toInt ∧ 0 ≤ a4.toInt ∧ 0 ≤ a5.toInt ∧ a2.toInt + a5.toInt ≤ (fob_many 3).toInt ∧ a4.toInt + a5.toInt ≤ (fob_many 1).toInt) ∧ (pL f_237 fob_numbers (180 + a2.toInt.toNat) (60 + a4.toInt.toNat) a5.toInt) ∧ r = 0 ∧ w = [(ce_X10 ob ob_thrown ob_world ob_images ob_hasImage ob_tape ob_taped ob_five ob_size ob_at ob_from ob_token ob_value ob_faultKind ob_faultPlace ob_fresh ob_parts ob_houses ob_houseMany ob_worthOf ob_byCall ob_over ob_bestSet ob_bestOver ob_bestWorth ob_row ob_tenDebts ob_tenMany ob_fewestBy ob_covered ob_queue ob_cameBy ob_parent ob_met ob_calls ob_callMany ob_calledOn ob_saved ob_many ob_width ob_numbers ob_moving), (ce_i4 y ob_many fob_many), (ce_i4 y ob_width fob_width), (ce_l240 y ob_numbers f_237), (ce_l60 y ob_moving f_238)])) (kq G (va_A [(ce_X10 ob ob_thrown ob_world ob_images ob_hasImage ob_tape ob_taped ob_five ob_size ob_at ob_from ob_token ob_value ob_faultKind ob_faultPlace ob_fresh ob_parts ob_houses ob_houseMany ob_worthOf ob_byCall ob_over ob_bestSet ob_bestOver ob_bestWorth ob_row ob_tenDebts ob_tenMany ob_fewestBy ob_covered ob_queue ob_cameBy ob_parent ob_met ob_calls ob_callMany ob_calledOn ob_saved ob_many ob_width ob_numbers ob_moving), (ce_i4 y ob_many fob_many), (ce_i4 y ob_width fob_width), (ce_l240 y ob_numbers fob_numbers), (ce_l60 y ob_moving fob_moving)] sz)) (va_A [(ce_X10 ob ob_thrown ob_world ob_images ob_hasImage ob_tape ob_taped ob_five ob_size ob_at ob_from ob_token ob_value ob_faultKind ob_faultPlace ob_fresh ob_parts ob_houses ob_houseMany ob_worthOf ob_byCall ob_over ob_bestSet ob_bestOver ob_bestWorth ob_row ob_tenDebts ob_tenMany ob_fewestBy ob_covered ob_queue ob_cameBy ob_parent ob_met ob_calls ob_callMany ob_calledOn ob_saved ob_many ob_width ob_numbers ob_moving), (ce_i4 y ob_many fob_many), (ce_i4 y ob_width fob_width), (ce_l240 y ob_numbers fob_numbers), (ce_l60 y ob_moving fob_moving)] sz)) 0 0 (va_A [(ce_X10 ob ob_thrown ob_world ob_images ob_hasImage ob_tape ob_taped ob_five ob_size ob_at ob_from ob_token ob_value ob_faultKind ob_faultPlace ob_fresh ob_parts ob_houses ob_houseMany ob_worthOf ob_byCall ob_over ob_bestSet ob_bestOver ob_bestWorth ob_row ob_tenDebts ob_tenMany ob_fewestBy ob_covered ob_queue ob_cameBy ob_parent ob_met ob_calls ob_callMany ob_calledOn ob_saved ob_many ob_width ob_numbers ob_moving), (ce_i4 y ob_many fob_many), (ce_i4 y ob_width fob_width), (ce_l240 y ob_numbers fob_numbers), (ce_l60 y ob_moving fob_moving)] sz) := by
  refine Met.ofW (cc := cX10_paste) (maxL := 7) (ret := (some .int)) (by decide) rfl ?_
  intro p e s m args below meth c s₁ B hml hv
  obtain ⟨rfl, hsz, hP, hK, hD0⟩ := hv
  have hx := B.exec
  have hb := B.bytes
  have hr := B.returns
  have hw0 : ∀ w ∈ wAll, w.before _ s = true := fun w h => atoms_spec (ws := Cond.code yX10_paste cX10_paste 7 (some .int) :: wAll) B.pre w (List.mem_cons_of_mem _ h)
  have hown : s.vm.findClass RX10 = some m.cls := findClass_of_methodNamed B.named
  subst hsz
  have hD := hD0.self (sz := s.heap.size)
  generalize hAe : va_A [(ce_X10 ob ob_thrown ob_world ob_images ob_hasImage ob_tape ob_taped ob_five ob_size ob_at ob_from ob_token ob_value ob_faultKind ob_faultPlace ob_fresh ob_parts ob_houses ob_houseMany ob_worthOf ob_byCall ob_over ob_bestSet ob_bestOver ob_bestWorth ob_row ob_tenDebts ob_tenMany ob_fewestBy ob_covered ob_queue ob_cameBy ob_parent ob_met ob_calls ob_callMany ob_calledOn ob_saved ob_many ob_width ob_numbers ob_moving), (ce_i4 y ob_many fob_many), (ce_i4 y ob_width fob_width), (ce_l240 y ob_numbers fob_numbers), (ce_l60 y ob_moving fob_moving)] s.heap.size = A at hD ⊢
  have hA : ∀ q : Nat, s.heap.size ≤ q → A q := fun q h => by rw [← hAe]; exact Or.inr h
  have hS : va_S A s.heap s.heap [] := va_S.rf
  have hP : va_P G vwCl [(ce_X10 ob ob_thrown ob_world ob_images ob_hasImage ob_tape ob_taped ob_five ob_size ob_at ob_from ob_token ob_value ob_faultKind ob_faultPlace ob_fresh ob_parts ob_houses ob_houseMany ob_worthOf ob_byCall ob_over ob_bestSet ob_bestOver ob_bestWorth ob_row ob_tenDebts ob_tenMany ob_fewestBy ob_covered ob_queue ob_cameBy ob_parent ob_met ob_calls ob_callMany ob_calledOn ob_saved ob_many ob_width ob_numbers ob_moving), (ce_i4 y ob_many fob_many), (ce_i4 y ob_width fob_width), (ce_l240 y ob_numbers fob_numbers), (ce_l60 y ob_moving fob_moving)] s.heap := hP
  have hl := lv_entry ([.ref ob, .int 3, .int a2, .int 1, .int a4, .int a5]) (n := 7) (Nat.le_of_ble_eq_true rfl)
  rw [lg_entry_eq]
  generalize (lg_sl ([.ref ob, .int 3, .int a2, .int 1, .int a4, .int a5]) ++ List.replicate (7 - (lg_sl ([.ref ob, .int 3, .int a2, .int 1, .int a4, .int a5])).length) Slot.unset).toArray = ls at hl ⊢
  have hl : lv_has ls 7 [(0, .ref ob), (1, .int 3), (2, .int a2), (3, .int 1), (4, .int a4), (5, .int a5)] := hl
  refine lv_iload_n hx hb dX10_paste_0 rfl (lv_at hl 1 rfl) ?_
  refine cSim (As := [.int 3]) (rest := []) ⟨hx, hb, hml, hown, hw0⟩ hA hK hP hD hS [] (gisSlotM l G y _ 3 ) rfl ⟨(callB_of 1 hw0 (gA m_543) rfl rfl rfl (hw0 _ m_41) (hw0 _ m_433) cb_X10_isSlot ⟨Nat.le_of_ble_eq_true rfl, Nat.le_of_ble_eq_true rfl⟩), (hw0 _ m_434)⟩ rfl hl.1 (Nat.le_of_ble_eq_true rfl) dX10_paste_1 ⟨Nat.le_of_ble_eq_true rfl, Nat.le_of_ble_eq_true rfl⟩ (fun r_1001 w_1001 H locs hw_1001 hP hD hS => ?_)
  rcases hw_1001 with ⟨h_1002, rfl, rfl⟩ | ⟨h_1003, h_1004, rfl, rfl⟩
  · skip
    exact False.elim (by have h9 : Int32.toInt 3 = 3 := (by decide); omega)
  · skip
    obtain ⟨hP, hD⟩ : vPD G A H [(ce_X10 ob ob_thrown ob_world ob_images ob_hasImage ob_tape ob_taped ob_five ob_size ob_at ob_from ob_token ob_value ob_faultKind ob_faultPlace ob_fresh ob_parts ob_houses ob_houseMany ob_worthOf ob_byCall ob_over ob_bestSet ob_bestOver ob_bestWorth ob_row ob_tenDebts ob_tenMany ob_fewestBy ob_covered ob_queue ob_cameBy ob_parent ob_met ob_calls ob_callMany ob_calledOn ob_saved ob_many ob_width ob_numbers ob_moving), (ce_i4 y ob_many fob_many), (ce_i4 y ob_width fob_width), (ce_l240 y ob_numbers fob_numbers), (ce_l60 y ob_moving fob_moving)] := ⟨hP, hD⟩
    refine lv_if_eq (tgt := 14) hx hb dX10_paste_4 (by decide) (fun c9 => absurd c9 (by decide)) (fun _ => ?_)
    refine lv_iload_n hx hb dX10_paste_7 rfl (lv_at hl 3 rfl) ?_
    refine cSim (As := [.int 1]) (rest := []) ⟨hx, hb, hml, hown, hw0⟩ hA hK hP hD hS [] (gisSlotM l G y _ 1 ) rfl ⟨(callB_of 1 hw0 (gA m_543) rfl rfl rfl (hw0 _ m_41) (hw0 _ m_433) cb_X10_isSlot ⟨Nat.le_of_ble_eq_true rfl, Nat.le_of_ble_eq_true rfl⟩), (hw0 _ m_434)⟩ rfl hl.1 (Nat.le_of_ble_eq_true rfl) dX10_paste_8 ⟨Nat.le_of_ble_eq_true rfl, Nat.le_of_ble_eq_true rfl⟩ (fun r_1005 w_1005 H locs hw_1005 hP hD hS => ?_)
    rcases hw_1005 with ⟨h_1006, rfl, rfl⟩ | ⟨h_1007, h_1008, rfl, rfl⟩
    · skip
      exact False.elim (by have h9 : Int32.toInt 1 = 1 := (by decide); omega)
    · skip
      obtain ⟨hP, hD⟩ : vPD G A H [(ce_X10 ob ob_thrown ob_world ob_images ob_hasImage ob_tape ob_taped ob_five ob_size ob_at ob_from ob_token ob_value ob_faultKind ob_faultPlace ob_fresh ob_parts ob_houses ob_houseMany ob_worthOf ob_byCall ob_over ob_bestSet ob_bestOver ob_bestWorth ob_row ob_tenDebts ob_tenMany ob_fewestBy ob_covered ob_queue ob_cameBy ob_parent ob_met ob_calls ob_callMany ob_calledOn ob_saved ob_many ob_width ob_numbers ob_moving), (ce_i4 y ob_many fob_many), (ce_i4 y ob_width fob_width), (ce_l240 y ob_numbers fob_numbers), (ce_l60 y ob_moving fob_moving)] := ⟨hP, hD⟩
      refine lv_if_ne (tgt := 17) hx hb dX10_paste_11 (by decide) (fun _ => ?_) (fun c9 => absurd c9 (by decide))
      refine lv_aload_n hx hb dX10_paste_17 rfl (lv_at hl 0 rfl) ?_
      refine va_get (D := G) (ci := 10) (v := .ref ob_many) (C := RX10) (T := TX10) (N := 41) hx hb hw0 inA_wsX100 hown hK.1 hP 0 rfl rfl 37 (by decide) (hw0 _ m_406) (fun _ h9 => h9) rfl dX10_paste_18 ?_
      refine lv_iload_n hx hb dX10_paste_21 rfl (lv_at hl 1 rfl) ?_
      refine va_iald hx hb hK.1 hP 1 1 rfl rfl (vi (bkc (x := 3) (c := 3) (by decide)) (by decide)) dX10_paste_22 ?_
      refine lv_topi (fun v_1009 ev_1009 => ?_)
      have bv_1009 : (-1 : Int) ≤ v_1009.toInt ∧ v_1009.toInt ≤ 60 := rd_b ev_1009 p_fob_many
      have yv_1009 : v_1009.toInt = (fob_many 3).toInt := congrArg Int32.toInt ev_1009
      refine lv_iconst (v := (-1)) hx hb dX10_paste_23 (by decide) ?_
      refine lv_icmp_eq (tgt := 37) hx hb dX10_paste_24 (by decide) (fun c_1010 => ?_) (fun c_1010 => ?_)
      · skip
        have nc_1010 := nb_eq (-1) (-1) c_1010 bv_1009 (bkc (x := (-1)) (c := -1) (by decide)) (by decide)
        refine lv_bipush (v := (-6)) hx hb dX10_paste_37 (by decide) ?_
        exact W.iret (v := (-6)) hx hb hr (fun t ht hW => ⟨⟨(-6), _, rfl, Or.inl (⟨by have h90 : Int32.toInt (-6) = -6 := (by decide); have h91 : Int32.toInt 1 = 1 := (by decide); have h92 : Int32.toInt 3 = 3 := (by decide); omega, rfl, rfl⟩), by rw [ht]; exact hP, hD⟩, hS.F ht⟩) hS.2.2 dX10_paste_39
      · skip
        have nc_1010 := nb_ne (0) (60) c_1010 bv_1009 (k := -1) (by decide) (by decide)
        refine lv_aload_n hx hb dX10_paste_27 rfl (lv_at hl 0 rfl) ?_
        refine va_get (D := G) (ci := 10) (v := .ref ob_many) (C := RX10) (T := TX10) (N := 41) hx hb hw0 inA_wsX100 hown hK.1 hP 0 rfl rfl 37 (by decide) (hw0 _ m_406) (fun _ h9 => h9) rfl dX10_paste_28 ?_
        refine lv_iload_n hx hb dX10_paste_31 rfl (lv_at hl 3 rfl) ?_
        refine va_iald hx hb hK.1 hP 1 1 rfl rfl (vi (bkc (x := 1) (c := 1) (by decide)) (by decide)) dX10_paste_32 ?_
        refine lv_topi (fun v_1011 ev_1011 => ?_)
        have bv_1011 : (-1 : Int) ≤ v_1011.toInt ∧ v_1011.toInt ≤ 60 := rd_b ev_1011 p_fob_many
        have yv_1011 : v_1011.toInt = (fob_many 1).toInt := congrArg Int32.toInt ev_1011
        refine lv_iconst (v := (-1)) hx hb dX10_paste_33 (by decide) ?_
        refine lv_icmp_ne (tgt := 40) hx hb dX10_paste_34 (by decide) (fun c_1012 => ?_) (fun c_1012 => ?_)
        · skip
          have nc_1012 := nb_ne (0) (60) c_1012 bv_1011 (k := -1) (by decide) (by decide)
          refine lv_aload_n hx hb dX10_paste_40 rfl (lv_at hl 0 rfl) ?_
          refine va_get (D := G) (ci := 10) (v := .ref ob_width) (C := RX10) (T := TX10) (N := 41) hx hb hw0 inA_wsX100 hown hK.1 hP 0 rfl rfl 38 (by decide) (hw0 _ m_527) (fun _ h9 => h9) rfl dX10_paste_41 ?_
          refine lv_iload_n hx hb dX10_paste_44 rfl (lv_at hl 1 rfl) ?_
          refine va_iald hx hb hK.1 hP 2 1 rfl rfl (vi (bkc (x := 3) (c := 3) (by decide)) (by decide)) dX10_paste_45 ?_
          refine lv_topi (fun v_1013 ev_1013 => ?_)
          have bv_1013 : (0 : Int) ≤ v_1013.toInt ∧ v_1013.toInt ≤ 3 := rd_b ev_1013 p_fob_width
          have yv_1013 : v_1013.toInt = (fob_width 3).toInt := congrArg Int32.toInt ev_1013
          refine lv_aload_n hx hb dX10_paste_46 rfl (lv_at hl 0 rfl) ?_
          refine va_get (D := G) (ci := 10) (v := .ref ob_width) (C := RX10) (T := TX10) (N := 41) hx hb hw0 inA_wsX100 hown hK.1 hP 0 rfl rfl 38 (by decide) (hw0 _ m_527) (fun _ h9 => h9) rfl dX10_paste_47 ?_
          refine lv_iload_n hx hb dX10_paste_50 rfl (lv_at hl 3 rfl) ?_
          refine va_iald hx hb hK.1 hP 2 1 rfl rfl (vi (bkc (x := 1) (c := 1) (by decide)) (by decide)) dX10_paste_51 ?_
          refine lv_topi (fun v_1014 ev_1014 => ?_)
          have bv_1014 : (0 : Int) ≤ v_1014.toInt ∧ v_1014.toInt ≤ 3 := rd_b ev_1014 p_fob_width
          have yv_1014 : v_1014.toInt = (fob_width 1).toInt := congrArg Int32.toInt ev_1014
          refine lv_icmp_eq (tgt := 58) hx hb dX10_paste_52 (by decide) (fun c_1015 => ?_) (fun c_1015 => ?_)
          · skip
            have nc_1015 := nb_eq (0) (3) c_1015 bv_1013 bv_1014 (by decide)
            refine lv_iload_n hx hb dX10_paste_58 rfl (lv_at hl 2 rfl) ?_
            refine lv_if_lt (tgt := 107) hx hb dX10_paste_59 (by decide) (fun c_1016 => ?_) (fun c_1016 => ?_)
            · skip
              have nc_1016 := nb_lt (-1) (0) c_1016 (btop a2) (bkc (x := 0) (c := 0) (by decide)) (by decide)
              refine lv_bipush (v := (-7)) hx hb dX10_paste_107 (by decide) ?_
              exact W.iret (v := (-7)) hx hb hr (fun t ht hW => ⟨⟨(-7), _, rfl, Or.inr (Or.inl (⟨by have h90 : Int32.toInt (-7) = -7 := (by decide); have h91 : Int32.toInt 1 = 1 := (by decide); have h92 : Int32.toInt 3 = 3 := (by decide); omega, rfl, rfl⟩)), by rw [ht]; exact hP, hD⟩, hS.F ht⟩) hS.2.2 dX10_paste_109
            · skip
              have nc_1016 := nb_nlt (0) (0) c_1016 (bkc (x := 0) (c := 0) (by decide)) (btop a2) (by decide)
              refine lv_iload hx hb dX10_paste_62 (lv_at hl 4 rfl) ?_
              refine lv_if_lt (tgt := 107) hx hb dX10_paste_64 (by decide) (fun c_1017 => ?_) (fun c_1017 => ?_)
              · skip
                have nc_1017 := nb_lt (-1) (0) c_1017 (btop a4) (bkc (x := 0) (c := 0) (by decide)) (by decide)
                refine lv_bipush (v := (-7)) hx hb dX10_paste_107 (by decide) ?_
                exact W.iret (v := (-7)) hx hb hr (fun t ht hW => ⟨⟨(-7), _, rfl, Or.inr (Or.inl (⟨by have h90 : Int32.toInt (-7) = -7 := (by decide); have h91 : Int32.toInt 1 = 1 := (by decide); have h92 : Int32.toInt 3 = 3 := (by decide); omega, rfl, rfl⟩)), by rw [ht]; exact hP, hD⟩, hS.F ht⟩) hS.2.2 dX10_paste_109
              · skip
                have nc_1017 := nb_nlt (0) (0) c_1017 (bkc (x := 0) (c := 0) (by decide)) (btop a4) (by decide)
                refine lv_iload hx hb dX10_paste_67 (lv_at hl 5 rfl) ?_
                refine lv_if_lt (tgt := 107) hx hb dX10_paste_69 (by decide) (fun c_1018 => ?_) (fun c_1018 => ?_)
                · skip
                  have nc_1018 := nb_lt (-1) (0) c_1018 (btop a5) (bkc (x := 0) (c := 0) (by decide)) (by decide)
                  refine lv_bipush (v := (-7)) hx hb dX10_paste_107 (by decide) ?_
                  exact W.iret (v := (-7)) hx hb hr (fun t ht hW => ⟨⟨(-7), _, rfl, Or.inr (Or.inl (⟨by have h90 : Int32.toInt (-7) = -7 := (by decide); have h91 : Int32.toInt 1 = 1 := (by decide); have h92 : Int32.toInt 3 = 3 := (by decide); omega, rfl, rfl⟩)), by rw [ht]; exact hP, hD⟩, hS.F ht⟩) hS.2.2 dX10_paste_109
                · skip
                  have nc_1018 := nb_nlt (0) (0) c_1018 (bkc (x := 0) (c := 0) (by decide)) (btop a5) (by decide)
                  refine lv_iload_n hx hb dX10_paste_72 rfl (lv_at hl 2 rfl) ?_
                  refine lv_i2l hx hb dX10_paste_73 rfl ?_
                  have kk_1019 : ((a2).toInt64).toInt = (a2).toInt := Int32.toInt_toInt64 _
                  refine lv_iload hx hb dX10_paste_74 (lv_at hl 5 rfl) ?_
                  refine lv_i2l hx hb dX10_paste_76 rfl ?_
                  have kk_1020 : ((a5).toInt64).toInt = (a5).toInt := Int32.toInt_toInt64 _
                  refine lv_ladd hx hb dX10_paste_77 ?_
                  refine lv_topl (fun v_1021 ev_1021 => ?_)
                  have qv_1021 := la_add ev_1021
                  refine lv_aload_n hx hb dX10_paste_78 rfl (lv_at hl 0 rfl) ?_
                  refine va_get (D := G) (ci := 10) (v := .ref ob_many) (C := RX10) (T := TX10) (N := 41) hx hb hw0 inA_wsX100 hown hK.1 hP 0 rfl rfl 37 (by decide) (hw0 _ m_406) (fun _ h9 => h9) rfl dX10_paste_79 ?_
                  refine lv_iload_n hx hb dX10_paste_82 rfl (lv_at hl 1 rfl) ?_
                  refine va_iald hx hb hK.1 hP 1 1 rfl rfl (vi (bkc (x := 3) (c := 3) (by decide)) (by decide)) dX10_paste_83 ?_
                  refine lv_topi (fun v_1022 ev_1022 => ?_)
                  obtain rfl : v_1009 = v_1022 := (ev_1022.trans (ev_1009.symm)).symm
                  refine lv_i2l hx hb dX10_paste_84 rfl ?_
                  have kk_1023 : ((v_1009).toInt64).toInt = (v_1009).toInt := Int32.toInt_toInt64 _
                  refine W.lcmp hx hb dX10_paste_85 ?_
                  refine lv_if_gt (tgt := 107) hx hb dX10_paste_86 (by decide) (fun c_1024 => ?_) (fun c_1024 => ?_)
                  · skip
                    have nc_1024 := jl_gt c_1024
                    refine lv_bipush (v := (-7)) hx hb dX10_paste_107 (by decide) ?_
                    exact W.iret (v := (-7)) hx hb hr (fun t ht hW => ⟨⟨(-7), _, rfl, Or.inr (Or.inl (⟨by have h90 : Int32.toInt (-7) = -7 := (by decide); have h91 : Int32.toInt 1 = 1 := (by decide); have h92 : Int32.toInt 3 = 3 := (by decide); omega, rfl, rfl⟩)), by rw [ht]; exact hP, hD⟩, hS.F ht⟩) hS.2.2 dX10_paste_109
                  · skip
                    have nc_1024 := jl_ngt c_1024
                    refine lv_iload hx hb dX10_paste_89 (lv_at hl 4 rfl) ?_
                    refine lv_i2l hx hb dX10_paste_91 rfl ?_
                    have kk_1025 : ((a4).toInt64).toInt = (a4).toInt := Int32.toInt_toInt64 _
                    refine lv_iload hx hb dX10_paste_92 (lv_at hl 5 rfl) ?_
                    refine lv_i2l hx hb dX10_paste_94 rfl ?_
                    have kk_1026 : ((a5).toInt64).toInt = (a5).toInt := Int32.toInt_toInt64 _
                    refine lv_ladd hx hb dX10_paste_95 ?_
                    refine lv_topl (fun v_1027 ev_1027 => ?_)
                    have qv_1027 := la_add ev_1027
                    refine lv_aload_n hx hb dX10_paste_96 rfl (lv_at hl 0 rfl) ?_
                    refine va_get (D := G) (ci := 10) (v := .ref ob_many) (C := RX10) (T := TX10) (N := 41) hx hb hw0 inA_wsX100 hown hK.1 hP 0 rfl rfl 37 (by decide) (hw0 _ m_406) (fun _ h9 => h9) rfl dX10_paste_97 ?_
                    refine lv_iload_n hx hb dX10_paste_100 rfl (lv_at hl 3 rfl) ?_
                    refine va_iald hx hb hK.1 hP 1 1 rfl rfl (vi (bkc (x := 1) (c := 1) (by decide)) (by decide)) dX10_paste_101 ?_
                    refine lv_topi (fun v_1028 ev_1028 => ?_)
                    obtain rfl : v_1011 = v_1028 := (ev_1028.trans (ev_1011.symm)).symm
                    refine lv_i2l hx hb dX10_paste_102 rfl ?_
                    have kk_1029 : ((v_1011).toInt64).toInt = (v_1011).toInt := Int32.toInt_toInt64 _
                    refine W.lcmp hx hb dX10_paste_103 ?_
                    refine lv_if_le (tgt := 110) hx hb dX10_paste_104 (by decide) (fun c_1030 => ?_) (fun c_1030 => ?_)
                    · skip
                      have nc_1030 := jl_le c_1030
                      have h_1031 : (0 : Int) ≤ a2.toInt ∧ a2.toInt ≤ 60 := by omega
                      have h_1032 : (0 : Int) ≤ a4.toInt ∧ a4.toInt ≤ 60 := by omega
                      have h_1033 : (0 : Int) ≤ a5.toInt ∧ a5.toInt ≤ 60 := by omega
                      refine lv_iconst (v := 0) hx hb dX10_paste_110 (by decide) ?_
                      refine lv_istore (lv' := [(6, .int 0), (0, .ref ob), (1, .int 3), (2, .int a2), (3, .int 1), (4, .int a4), (5, .int a5)]) hx hb dX10_paste_111 hl (by decide) rfl (fun ls hl => ?_)
                      refine loopX (fun n H locs ls st => ∃ (v_1061 : Int32) (f_1062 : Nat → Int64), (60 - v_1061.toInt).toNat = n ∧ ((0 : Int) ≤ v_1061.toInt ∧ v_1061.toInt ≤ 60) ∧ (mL f_1062 fob_numbers (180 + a2.toInt.toNat) v_1061.toInt) ∧ st = [] ∧ vPD G A H [(ce_X10 ob ob_thrown ob_world ob_images ob_hasImage ob_tape ob_taped ob_five ob_size ob_at ob_from ob_token ob_value ob_faultKind ob_faultPlace ob_fresh ob_parts ob_houses ob_houseMany ob_worthOf ob_byCall ob_over ob_bestSet ob_bestOver ob_bestWorth ob_row ob_tenDebts ob_tenMany ob_fewestBy ob_covered ob_queue ob_cameBy ob_parent ob_met ob_calls ob_callMany ob_calledOn ob_saved ob_many ob_width ob_numbers ob_moving), (ce_i4 y ob_many fob_many), (ce_i4 y ob_width fob_width), (ce_l240 y ob_numbers fob_numbers), (ce_l60 y ob_moving f_1062)] ∧ va_S A s.heap H locs ∧ lv_has ls 7 [(6, .int v_1061), (0, .ref ob), (1, .int 3), (2, .int a2), (3, .int 1), (4, .int a4), (5, .int a5)]) ?_ (n := (60 - (0 : Int32).toInt).toNat) ⟨0, fob_moving, rfl, (bw (0) (60) (bkc (x := 0) (c := 0) (by decide)) (by decide)), (ml_0 (by have h90 : Int32.toInt 0 = 0 := (by decide); have h91 : Int32.toInt 1 = 1 := (by decide); have h92 : Int32.toInt 3 = 3 := (by decide); omega)), rfl, ⟨hP, hD⟩, hS, lv_sub hl [0, 1, 2, 3, 4, 5, 6] rfl⟩
                      rintro n ih_1070 H locs ls st ⟨v_1061, f_1062, hn_1070, bv_1061, rl1062_0, rfl, ⟨hP, hD⟩, hS, hl⟩
                      refine lv_iload hx hb dX10_paste_113 (lv_at hl 0 rfl) ?_
                      refine lv_iload hx hb dX10_paste_115 (lv_at hl 6 rfl) ?_
                      refine lv_icmp_ge (tgt := 147) hx hb dX10_paste_117 (by decide) (fun c_1071 => ?_) (fun c_1071 => ?_)
                      · skip
                        have nc_1071 := nb_le (60) (0) c_1071 h_1033 bv_1061 (by decide)
                        refine lv_iconst (v := 0) hx hb dX10_paste_147 (by decide) ?_
                        refine lv_istore (lv' := [(6, .int 0), (0, .ref ob), (1, .int 3), (2, .int a2), (3, .int 1), (4, .int a4), (5, .int a5)]) hx hb dX10_paste_148 hl (by decide) rfl (fun ls hl => ?_)
                        refine loopX (fun n H locs ls st => ∃ (v_1096 : Int32) (f_1097 : Nat → Int64), (60 - v_1096.toInt).toNat = n ∧ ((0 : Int) ≤ v_1096.toInt ∧ v_1096.toInt ≤ 60) ∧ (nL f_1097 fob_numbers f_1062 (60 + a4.toInt.toNat) v_1096.toInt) ∧ (v_1096.toInt ≤ a5.toInt) ∧ st = [] ∧ vPD G A H [(ce_X10 ob ob_thrown ob_world ob_images ob_hasImage ob_tape ob_taped ob_five ob_size ob_at ob_from ob_token ob_value ob_faultKind ob_faultPlace ob_fresh ob_parts ob_houses ob_houseMany ob_worthOf ob_byCall ob_over ob_bestSet ob_bestOver ob_bestWorth ob_row ob_tenDebts ob_tenMany ob_fewestBy ob_covered ob_queue ob_cameBy ob_parent ob_met ob_calls ob_callMany ob_calledOn ob_saved ob_many ob_width ob_numbers ob_moving), (ce_i4 y ob_many fob_many), (ce_i4 y ob_width fob_width), (ce_l240 y ob_numbers f_1097), (ce_l60 y ob_moving f_1062)] ∧ va_S A s.heap H locs ∧ lv_has ls 7 [(6, .int v_1096), (0, .ref ob), (3, .int 1), (4, .int a4), (5, .int a5)]) ?_ (n := (60 - (0 : Int32).toInt).toNat) ⟨0, fob_numbers, rfl, (bw (0) (60) (bkc (x := 0) (c := 0) (by decide)) (by decide)), (nl_0 (by have h90 : Int32.toInt 0 = 0 := (by decide); have h91 : Int32.toInt 1 = 1 := (by decide); have h92 : Int32.toInt 3 = 3 := (by decide); omega)), (by have h90 : Int32.toInt 0 = 0 := (by decide); omega), rfl, ⟨hP, hD⟩, hS, lv_sub hl [0, 1, 4, 5, 6] rfl⟩
                        rintro n ih_1104 H locs ls st ⟨v_1096, f_1097, hn_1104, bv_1096, rl1097_0, rl1097_1, rfl, ⟨hP, hD⟩, hS, hl⟩
                        refine lv_iload hx hb dX10_paste_150 (lv_at hl 0 rfl) ?_
                        refine lv_iload hx hb dX10_paste_152 (lv_at hl 4 rfl) ?_
                        refine lv_icmp_ge (tgt := 185) hx hb dX10_paste_154 (by decide) (fun c_1105 => ?_) (fun c_1105 => ?_)
                        · skip
                          have nc_1105 := nb_le (60) (0) c_1105 nc_1071.1 bv_1096 (by decide)
                          refine lv_iconst (v := 0) hx hb dX10_paste_185 (by decide) ?_
                          exact W.iret (v := 0) hx hb hr (fun t ht hW => ⟨⟨0, _, rfl, Or.inr (Or.inr (Or.inr (⟨f_1097, f_1062, h_1031, h_1032, nc_1105.1, by have h90 : Int32.toInt 0 = 0 := (by decide); have h91 : Int32.toInt 1 = 1 := (by decide); omega, (pl_e rl1062_0 rl1097_0 (by omega) (by omega)), rfl, rfl⟩))), by rw [ht]; exact hP, hD⟩, hS.F ht⟩) hS.2.2 dX10_paste_186
                        · skip
                          have nc_1105 := nb_nle (59) (1) c_1105 bv_1096 nc_1071.1 (by decide)
                          refine lv_aload_n hx hb dX10_paste_157 rfl (lv_at hl 1 rfl) ?_
                          refine va_get (D := G) (ci := 10) (v := .ref ob_numbers) (C := RX10) (T := TX10) (N := 41) hx hb hw0 inA_wsX100 hown hK.1 hP 0 rfl rfl 39 (by decide) (hw0 _ m_435) (fun _ h9 => h9) rfl dX10_paste_158 ?_
                          refine lv_bipush (v := 60) hx hb dX10_paste_161 (by decide) ?_
                          refine lv_iload_n hx hb dX10_paste_163 rfl (lv_at hl 2 rfl) ?_
                          refine lv_imul hx hb dX10_paste_164 ?_
                          refine lv_topi (fun v_1106 ev_1106 => ?_)
                          obtain rfl : 60 = v_1106 := (ev_1106.trans (by decide)).symm
                          refine lv_iload hx hb dX10_paste_165 (lv_at hl 3 rfl) ?_
                          refine lv_iadd hx hb dX10_paste_167 ?_
                          refine lv_topi (fun v_1107 ev_1107 => ?_)
                          have qv_1107 := ba_add ev_1107 (bkc (x := 60) (c := 60) (by decide)) h_1032 (by decide)
                          have bv_1107 : (60 : Int) ≤ v_1107.toInt ∧ v_1107.toInt ≤ 120 := bq_add qv_1107 (bkc (x := 60) (c := 60) (by decide)) h_1032 _ _ (by decide)
                          have qv_1107 : v_1107.toInt = (60) + a4.toInt := qv_1107
                          refine lv_iload hx hb dX10_paste_168 (lv_at hl 0 rfl) ?_
                          refine lv_iadd hx hb dX10_paste_170 ?_
                          refine lv_topi (fun v_1108 ev_1108 => ?_)
                          have qv_1108 := ba_add ev_1108 bv_1107 nc_1105.1 (by decide)
                          have bv_1108 : (60 : Int) ≤ v_1108.toInt ∧ v_1108.toInt ≤ 179 := bq_add qv_1108 bv_1107 nc_1105.1 _ _ (by decide)
                          refine lv_aload_n hx hb dX10_paste_171 rfl (lv_at hl 1 rfl) ?_
                          refine va_get (D := G) (ci := 10) (v := .ref ob_moving) (C := RX10) (T := TX10) (N := 41) hx hb hw0 inA_wsX100 hown hK.1 hP 0 rfl rfl 40 (by decide) (hw0 _ m_529) (fun _ h9 => h9) rfl dX10_paste_172 ?_
                          refine lv_iload hx hb dX10_paste_175 (lv_at hl 0 rfl) ?_
                          refine va_lald hx hb hK.1 hP 4 2 rfl rfl (vi nc_1105.1 (by decide)) dX10_paste_177 ?_
                          refine lv_topl (fun v_1109 ev_1109 => ?_)
                          refine va_last hx hb hK.1 hP hD hS 3 2 rfl rfl (vi bv_1108 (by decide)) dX10_paste_178 (fun H locs hP hD hS => ?_)
                          generalize hf_1110 : (vp_updL f_1097 (v_1108 : Int32).toNatClampNeg v_1109) = f_1110 at hP hD
                          obtain ⟨hP, hD⟩ : vPD G A H [(ce_X10 ob ob_thrown ob_world ob_images ob_hasImage ob_tape ob_taped ob_five ob_size ob_at ob_from ob_token ob_value ob_faultKind ob_faultPlace ob_fresh ob_parts ob_houses ob_houseMany ob_worthOf ob_byCall ob_over ob_bestSet ob_bestOver ob_bestWorth ob_row ob_tenDebts ob_tenMany ob_fewestBy ob_covered ob_queue ob_cameBy ob_parent ob_met ob_calls ob_callMany ob_calledOn ob_saved ob_many ob_width ob_numbers ob_moving), (ce_i4 y ob_many fob_many), (ce_i4 y ob_width fob_width), (ce_l240 y ob_numbers f_1110), (ce_l60 y ob_moving f_1062)] := ⟨hP, hD⟩
                          obtain ⟨v_1111, ev_1111⟩ : ∃ z : Int32, z = v_1096 + 1 := ⟨_, rfl⟩
                          have qv_1111 := ba_add ev_1111 nc_1105.1 (bkc (x := 1) (c := 1) (by decide)) (by decide)
                          have bv_1111 : (1 : Int) ≤ v_1111.toInt ∧ v_1111.toInt ≤ 60 := bq_add qv_1111 nc_1105.1 (bkc (x := 1) (c := 1) (by decide)) _ _ (by decide)
                          have qv_1111 : v_1111.toInt = v_1096.toInt + (1) := qv_1111
                          refine lv_iinc (v := v_1111) (lv' := [(6, .int v_1111), (0, .ref ob), (3, .int 1), (4, .int a4), (5, .int a5)]) hx hb dX10_paste_179 hl (k := 0) rfl (ev_1111.symm) (by decide) rfl (fun ls hl => ?_)
                          refine lv_goto (tgt := 150) hx hb dX10_paste_182 (by decide) ?_
                          exact ih_1104 _ (ml_inc (hi := 60) hn_1104 qv_1111 (by decide) ((bw (0) (60) bv_1111 (by decide))).2) _ _ _ _ ⟨v_1111, f_1110, rfl, (bw (0) (60) bv_1111 (by decide)), (nl_s rl1097_0 hf_1110 ev_1109 (by omega) (by omega) (by omega) (by omega)), (by omega), rfl, ⟨hP, hD⟩, hS, lv_sub hl [0, 1, 2, 3, 4] rfl⟩
                      · skip
                        have nc_1071 := nb_nle (59) (1) c_1071 bv_1061 h_1033 (by decide)
                        refine lv_aload_n hx hb dX10_paste_120 rfl (lv_at hl 1 rfl) ?_
                        refine va_get (D := G) (ci := 10) (v := .ref ob_moving) (C := RX10) (T := TX10) (N := 41) hx hb hw0 inA_wsX100 hown hK.1 hP 0 rfl rfl 40 (by decide) (hw0 _ m_529) (fun _ h9 => h9) rfl dX10_paste_121 ?_
                        refine lv_iload hx hb dX10_paste_124 (lv_at hl 0 rfl) ?_
                        refine lv_aload_n hx hb dX10_paste_126 rfl (lv_at hl 1 rfl) ?_
                        refine va_get (D := G) (ci := 10) (v := .ref ob_numbers) (C := RX10) (T := TX10) (N := 41) hx hb hw0 inA_wsX100 hown hK.1 hP 0 rfl rfl 39 (by decide) (hw0 _ m_435) (fun _ h9 => h9) rfl dX10_paste_127 ?_
                        refine lv_bipush (v := 60) hx hb dX10_paste_130 (by decide) ?_
                        refine lv_iload_n hx hb dX10_paste_132 rfl (lv_at hl 2 rfl) ?_
                        refine lv_imul hx hb dX10_paste_133 ?_
                        refine lv_topi (fun v_1112 ev_1112 => ?_)
                        obtain rfl : 180 = v_1112 := (ev_1112.trans (by decide)).symm
                        refine lv_iload_n hx hb dX10_paste_134 rfl (lv_at hl 3 rfl) ?_
                        refine lv_iadd hx hb dX10_paste_135 ?_
                        refine lv_topi (fun v_1113 ev_1113 => ?_)
                        have qv_1113 := ba_add ev_1113 (bkc (x := 180) (c := 180) (by decide)) h_1031 (by decide)
                        have bv_1113 : (180 : Int) ≤ v_1113.toInt ∧ v_1113.toInt ≤ 240 := bq_add qv_1113 (bkc (x := 180) (c := 180) (by decide)) h_1031 _ _ (by decide)
                        have qv_1113 : v_1113.toInt = (180) + a2.toInt := qv_1113
                        refine lv_iload hx hb dX10_paste_136 (lv_at hl 0 rfl) ?_
                        refine lv_iadd hx hb dX10_paste_138 ?_
                        refine lv_topi (fun v_1114 ev_1114 => ?_)
                        have qv_1114 := ba_add ev_1114 bv_1113 nc_1071.1 (by decide)
                        have bv_1114 : (180 : Int) ≤ v_1114.toInt ∧ v_1114.toInt ≤ 299 := bq_add qv_1114 bv_1113 nc_1071.1 _ _ (by decide)
                        have h_1115 : (0 : Int) ≤ v_1114.toInt ∧ v_1114.toInt ≤ 239 := by omega
                        refine va_lald hx hb hK.1 hP 3 2 rfl rfl (vi h_1115 (by decide)) dX10_paste_139 ?_
                        refine lv_topl (fun v_1116 ev_1116 => ?_)
                        refine va_last hx hb hK.1 hP hD hS 4 2 rfl rfl (vi nc_1071.1 (by decide)) dX10_paste_140 (fun H locs hP hD hS => ?_)
                        generalize hf_1117 : (vp_updL f_1062 (v_1061 : Int32).toNatClampNeg v_1116) = f_1117 at hP hD
                        obtain ⟨hP, hD⟩ : vPD G A H [(ce_X10 ob ob_thrown ob_world ob_images ob_hasImage ob_tape ob_taped ob_five ob_size ob_at ob_from ob_token ob_value ob_faultKind ob_faultPlace ob_fresh ob_parts ob_houses ob_houseMany ob_worthOf ob_byCall ob_over ob_bestSet ob_bestOver ob_bestWorth ob_row ob_tenDebts ob_tenMany ob_fewestBy ob_covered ob_queue ob_cameBy ob_parent ob_met ob_calls ob_callMany ob_calledOn ob_saved ob_many ob_width ob_numbers ob_moving), (ce_i4 y ob_many fob_many), (ce_i4 y ob_width fob_width), (ce_l240 y ob_numbers fob_numbers), (ce_l60 y ob_moving f_1117)] := ⟨hP, hD⟩
                        obtain ⟨v_1118, ev_1118⟩ : ∃ z : Int32, z = v_1061 + 1 := ⟨_, rfl⟩
                        have qv_1118 := ba_add ev_1118 nc_1071.1 (bkc (x := 1) (c := 1) (by decide)) (by decide)
                        have bv_1118 : (1 : Int) ≤ v_1118.toInt ∧ v_1118.toInt ≤ 60 := bq_add qv_1118 nc_1071.1 (bkc (x := 1) (c := 1) (by decide)) _ _ (by decide)
                        have qv_1118 : v_1118.toInt = v_1061.toInt + (1) := qv_1118
                        refine lv_iinc (v := v_1118) (lv' := [(6, .int v_1118), (0, .ref ob), (1, .int 3), (2, .int a2), (3, .int 1), (4, .int a4), (5, .int a5)]) hx hb dX10_paste_141 hl (k := 0) rfl (ev_1118.symm) (by decide) rfl (fun ls hl => ?_)
                        refine lv_goto (tgt := 113) hx hb dX10_paste_144 (by decide) ?_
                        exact ih_1070 _ (ml_inc (hi := 60) hn_1070 qv_1118 (by decide) ((bw (0) (60) bv_1118 (by decide))).2) _ _ _ _ ⟨v_1118, f_1117, rfl, (bw (0) (60) bv_1118 (by decide)), (ml_s rl1062_0 hf_1117 ev_1116 (by omega) (by omega) (by omega) (by omega)), rfl, ⟨hP, hD⟩, hS, lv_sub hl [0, 1, 2, 3, 4, 5, 6] rfl⟩
                    · skip
                      have nc_1030 := jl_nle c_1030
                      refine lv_bipush (v := (-7)) hx hb dX10_paste_107 (by decide) ?_
                      exact W.iret (v := (-7)) hx hb hr (fun t ht hW => ⟨⟨(-7), _, rfl, Or.inr (Or.inl (⟨by have h90 : Int32.toInt (-7) = -7 := (by decide); have h91 : Int32.toInt 1 = 1 := (by decide); have h92 : Int32.toInt 3 = 3 := (by decide); omega, rfl, rfl⟩)), by rw [ht]; exact hP, hD⟩, hS.F ht⟩) hS.2.2 dX10_paste_109
          · skip
            have nc_1015 : v_1013.toInt ≠ v_1014.toInt := fun h9 => c_1015 (Int32.toInt_inj.mp h9)
            refine lv_bipush (v := (-8)) hx hb dX10_paste_55 (by decide) ?_
            exact W.iret (v := (-8)) hx hb hr (fun t ht hW => ⟨⟨(-8), _, rfl, Or.inr (Or.inr (Or.inl (⟨by have h90 : Int32.toInt (-8) = -8 := (by decide); have h91 : Int32.toInt 1 = 1 := (by decide); have h92 : Int32.toInt 3 = 3 := (by decide); omega, rfl, rfl⟩))), by rw [ht]; exact hP, hD⟩, hS.F ht⟩) hS.2.2 dX10_paste_57
        · skip
          have nc_1012 := nb_eq (-1) (-1) c_1012 bv_1011 (bkc (x := (-1)) (c := -1) (by decide)) (by decide)
          refine lv_bipush (v := (-6)) hx hb dX10_paste_37 (by decide) ?_
          exact W.iret (v := (-6)) hx hb hr (fun t ht hW => ⟨⟨(-6), _, rfl, Or.inl (⟨by have h90 : Int32.toInt (-6) = -6 := (by decide); have h91 : Int32.toInt 1 = 1 := (by decide); have h92 : Int32.toInt 3 = 3 := (by decide); omega, rfl, rfl⟩), by rw [ht]; exact hP, hD⟩, hS.F ht⟩) hS.2.2 dX10_paste_39

set_option maxHeartbeats 4000000 in
set_option maxRecDepth 100000 in
theorem fpasteM32 (l : Launch) (G : va_G) (y : Nat → ClassId) (sz : Nat) (ob : Nat) (a2 : Int32) (a4 : Int32) (a5 : Int32) (ob_thrown : Int32) (ob_world : Nat) (ob_images : Nat) (ob_hasImage : Nat) (ob_tape : Nat) (ob_taped : Int32) (ob_five : Nat) (ob_size : Int32) (ob_at : Int32) (ob_from : Int32) (ob_token : Int32) (ob_value : Int32) (ob_faultKind : Int32) (ob_faultPlace : Int32) (ob_fresh : Nat) (ob_parts : Nat) (ob_houses : Nat) (ob_houseMany : Int32) (ob_worthOf : Nat) (ob_byCall : Nat) (ob_over : Nat) (ob_bestSet : Int32) (ob_bestOver : Int32) (ob_bestWorth : Int32) (ob_row : Nat) (ob_tenDebts : Nat) (ob_tenMany : Int32) (ob_fewestBy : Nat) (ob_covered : Nat) (ob_queue : Nat) (ob_cameBy : Nat) (ob_parent : Nat) (ob_met : Nat) (ob_calls : Nat) (ob_callMany : Int32) (ob_calledOn : Nat) (ob_saved : Nat) (ob_many : Nat) (ob_width : Nat) (ob_numbers : Nat) (ob_moving : Nat) (fob_many : Nat → Int32) (fob_width : Nat → Int32) (fob_numbers : Nat → Int64) (fob_moving : Nat → Int64) (p_ob_taped : (0 : Int) ≤ ob_taped.toInt ∧ ob_taped.toInt ≤ 1400) (p_ob_size : (0 : Int) ≤ ob_size.toInt ∧ ob_size.toInt ≤ 1400) (p_ob_at : (0 : Int) ≤ ob_at.toInt ∧ ob_at.toInt ≤ 1400) (p_ob_from : (0 : Int) ≤ ob_from.toInt ∧ ob_from.toInt ≤ 1400) (p_ob_token : (0 : Int) ≤ ob_token.toInt ∧ ob_token.toInt ≤ 4) (p_ob_value : (0 : Int) ≤ ob_value.toInt ∧ ob_value.toInt ≤ 9999) (p_ob_faultKind : (0 : Int) ≤ ob_faultKind.toInt ∧ ob_faultKind.toInt ≤ 3) (p_ob_houseMany : (0 : Int) ≤ ob_houseMany.toInt ∧ ob_houseMany.toInt ≤ 10) (p_ob_bestSet : (0 : Int) ≤ ob_bestSet.toInt ∧ ob_bestSet.toInt ≤ 1023) (p_ob_bestOver : (-1 : Int) ≤ ob_bestOver.toInt ∧ ob_bestOver.toInt ≤ 180) (p_ob_tenMany : (0 : Int) ≤ ob_tenMany.toInt ∧ ob_tenMany.toInt ≤ 10) (p_ob_callMany : (0 : Int) ≤ ob_callMany.toInt ∧ ob_callMany.toInt ≤ 16) (p_fob_many : ∀ i, (-1 : Int) ≤ (fob_many i).toInt ∧ (fob_many i).toInt ≤ 60) (p_fob_width : ∀ i, (0 : Int) ≤ (fob_width i).toInt ∧ (fob_width i).toInt ≤ 3) : Met l yX10_paste (Cond.code yX10_paste cX10_paste 7 (some .int) :: wAll) ({ frames := 2, cells := 0, slots := 0, locals := 45 }) (va_Pc [.ref ob, .int 3, .int a2, .int 2, .int a4, .int a5] (kp G y sz [(ce_X10 ob ob_thrown ob_world ob_images ob_hasImage ob_tape ob_taped ob_five ob_size ob_at ob_from ob_token ob_value ob_faultKind ob_faultPlace ob_fresh ob_parts ob_houses ob_houseMany ob_worthOf ob_byCall ob_over ob_bestSet ob_bestOver ob_bestWorth ob_row ob_tenDebts ob_tenMany ob_fewestBy ob_covered ob_queue ob_cameBy ob_parent ob_met ob_calls ob_callMany ob_calledOn ob_saved ob_many ob_width ob_numbers ob_moving), (ce_i4 y ob_many fob_many), (ce_i4 y ob_width fob_width), (ce_l240 y ob_numbers fob_numbers), (ce_l60 y ob_moving fob_moving)])) (va_Qi (fun (r : Int32) (w : va_W) => (((fob_many 3).toInt = -1 ∨ (fob_many 2).toInt = -1) ∧ r = (-6) ∧ w = [(ce_X10 ob ob_thrown ob_world ob_images ob_hasImage ob_tape ob_taped ob_five ob_size ob_at ob_from ob_token ob_value ob_faultKind ob_faultPlace ob_fresh ob_parts ob_houses ob_houseMany ob_worthOf ob_byCall ob_over ob_bestSet ob_bestOver ob_bestWorth ob_row ob_tenDebts ob_tenMany ob_fewestBy ob_covered ob_queue ob_cameBy ob_parent ob_met ob_calls ob_callMany ob_calledOn ob_saved ob_many ob_width ob_numbers ob_moving), (ce_i4 y ob_many fob_many), (ce_i4 y ob_width fob_width), (ce_l240 y ob_numbers fob_numbers), (ce_l60 y ob_moving fob_moving)]) ∨ ((¬ (fob_many 3).toInt = -1 ∧ ¬ (fob_many 2).toInt = -1 ∧ (fob_width 3).toInt = (fob_width 2).toInt ∧ ¬ (0 ≤ a2.toInt ∧ 0 ≤ a4.toInt ∧ 0 ≤ a5.toInt ∧ a2.toInt + a5.toInt ≤ (fob_many 3).toInt ∧ a4.toInt + a5.toInt ≤ (fob_many 2).toInt)) ∧ r = (-7) ∧ w = [(ce_X10 ob ob_thrown ob_world ob_images ob_hasImage ob_tape ob_taped ob_five ob_size ob_at ob_from ob_token ob_value ob_faultKind ob_faultPlace ob_fresh ob_parts ob_houses ob_houseMany ob_worthOf ob_byCall ob_over ob_bestSet ob_bestOver ob_bestWorth ob_row ob_tenDebts ob_tenMany ob_fewestBy ob_covered ob_queue ob_cameBy ob_parent ob_met ob_calls ob_callMany ob_calledOn ob_saved ob_many ob_width ob_numbers ob_moving), (ce_i4 y ob_many fob_many), (ce_i4 y ob_width fob_width), (ce_l240 y ob_numbers fob_numbers), (ce_l60 y ob_moving fob_moving)]) ∨ ((¬ (fob_many 3).toInt = -1 ∧ ¬ (fob_many 2).toInt = -1 ∧ ¬ (fob_width 3).toInt = (fob_width 2).toInt) ∧ r = (-8) ∧ w = [(ce_X10 ob ob_thrown ob_world ob_images ob_hasImage ob_tape ob_taped ob_five ob_size ob_at ob_from ob_token ob_value ob_faultKind ob_faultPlace ob_fresh ob_parts ob_houses ob_houseMany ob_worthOf ob_byCall ob_over ob_bestSet ob_bestOver ob_bestWorth ob_row ob_tenDebts ob_tenMany ob_fewestBy ob_covered ob_queue ob_cameBy ob_parent ob_met ob_calls ob_callMany ob_calledOn ob_saved ob_many ob_width ob_numbers ob_moving), (ce_i4 y ob_many fob_many), (ce_i4 y ob_width fob_width), (ce_l240 y ob_numbers fob_numbers), (ce_l60 y ob_moving fob_moving)]) ∨ (∃ (f_237 : Nat → Int64) (f_238 : Nat → Int64), ((0 : Int) ≤ a2.toInt ∧ a2.toInt ≤ 60) ∧ ((0 : Int) ≤ a4.toInt ∧ a4.toInt ≤ 60) ∧ ((0 : Int) ≤ a5.toInt ∧ a5.toInt ≤ 60) ∧ (¬ (fob_many 3).toInt = -1 ∧ ¬ (fob_many 2).toInt = -1 ∧ (fob_width 3).toInt = (fob_width 2).toInt ∧ 0 ≤ a2.toInt ∧ 0 ≤ a4.toInt ∧ 0 ≤ a5.toInt ∧ a2.toInt + a5.toInt ≤ (fob_many 3).toInt ∧ a4.toInt + a5.toInt ≤ (fob_many 2).toInt) ∧ (pL f_237 fob_numbers (180 + a2.toInt.toNat) (120 + a4.toInt.toNat) a5.toInt) ∧ r = 0 ∧ w = [(ce_X10 ob ob_thrown ob_world ob_images ob_hasImage ob_tape ob_taped ob_five ob_size ob_at ob_from ob_token ob_value ob_faultKind ob_faultPlace ob_fresh ob_parts ob_houses ob_houseMany ob_worthOf ob_byCall ob_over ob_bestSet ob_bestOver ob_bestWorth ob_row ob_tenDebts ob_tenMany ob_fewestBy ob_covered ob_queue ob_cameBy ob_parent ob_met ob_calls ob_callMany ob_calledOn ob_saved ob_many ob_width ob_numbers ob_moving), (ce_i4 y ob_many fob_many), (ce_i4 y ob_width fob_width), (ce_l240 y ob_numbers f_237), (ce_l60 y ob_moving f_238)])) (kq G (va_A [(ce_X10 ob ob_thrown ob_world ob_images ob_hasImage ob_tape ob_taped ob_five ob_size ob_at ob_from ob_token ob_value ob_faultKind ob_faultPlace ob_fresh ob_parts ob_houses ob_houseMany ob_worthOf ob_byCall ob_over ob_bestSet ob_bestOver ob_bestWorth ob_row ob_tenDebts ob_tenMany ob_fewestBy ob_covered ob_queue ob_cameBy ob_parent ob_met ob_calls ob_callMany ob_calledOn ob_saved ob_many ob_width ob_numbers ob_moving), (ce_i4 y ob_many fob_many), (ce_i4 y ob_width fob_width), (ce_l240 y ob_numbers fob_numbers), (ce_l60 y ob_moving fob_moving)] sz)) (va_A [(ce_X10 ob ob_thrown ob_world ob_images ob_hasImage ob_tape ob_taped ob_five ob_size ob_at ob_from ob_token ob_value ob_faultKind ob_faultPlace ob_fresh ob_parts ob_houses ob_houseMany ob_worthOf ob_byCall ob_over ob_bestSet ob_bestOver ob_bestWorth ob_row ob_tenDebts ob_tenMany ob_fewestBy ob_covered ob_queue ob_cameBy ob_parent ob_met ob_calls ob_callMany ob_calledOn ob_saved ob_many ob_width ob_numbers ob_moving), (ce_i4 y ob_many fob_many), (ce_i4 y ob_width fob_width), (ce_l240 y ob_numbers fob_numbers), (ce_l60 y ob_moving fob_moving)] sz)) 0 0 (va_A [(ce_X10 ob ob_thrown ob_world ob_images ob_hasImage ob_tape ob_taped ob_five ob_size ob_at ob_from ob_token ob_value ob_faultKind ob_faultPlace ob_fresh ob_parts ob_houses ob_houseMany ob_worthOf ob_byCall ob_over ob_bestSet ob_bestOver ob_bestWorth ob_row ob_tenDebts ob_tenMany ob_fewestBy ob_covered ob_queue ob_cameBy ob_parent ob_met ob_calls ob_callMany ob_calledOn ob_saved ob_many ob_width ob_numbers ob_moving), (ce_i4 y ob_many fob_many), (ce_i4 y ob_width fob_width), (ce_l240 y ob_numbers fob_numbers), (ce_l60 y ob_moving fob_moving)] sz) := by
  refine Met.ofW (cc := cX10_paste) (maxL := 7) (ret := (some .int)) (by decide) rfl ?_
  intro p e s m args below meth c s₁ B hml hv
  obtain ⟨rfl, hsz, hP, hK, hD0⟩ := hv
  have hx := B.exec
  have hb := B.bytes
  have hr := B.returns
  have hw0 : ∀ w ∈ wAll, w.before _ s = true := fun w h => atoms_spec (ws := Cond.code yX10_paste cX10_paste 7 (some .int) :: wAll) B.pre w (List.mem_cons_of_mem _ h)
  have hown : s.vm.findClass RX10 = some m.cls := findClass_of_methodNamed B.named
  subst hsz
  have hD := hD0.self (sz := s.heap.size)
  generalize hAe : va_A [(ce_X10 ob ob_thrown ob_world ob_images ob_hasImage ob_tape ob_taped ob_five ob_size ob_at ob_from ob_token ob_value ob_faultKind ob_faultPlace ob_fresh ob_parts ob_houses ob_houseMany ob_worthOf ob_byCall ob_over ob_bestSet ob_bestOver ob_bestWorth ob_row ob_tenDebts ob_tenMany ob_fewestBy ob_covered ob_queue ob_cameBy ob_parent ob_met ob_calls ob_callMany ob_calledOn ob_saved ob_many ob_width ob_numbers ob_moving), (ce_i4 y ob_many fob_many), (ce_i4 y ob_width fob_width), (ce_l240 y ob_numbers fob_numbers), (ce_l60 y ob_moving fob_moving)] s.heap.size = A at hD ⊢
  have hA : ∀ q : Nat, s.heap.size ≤ q → A q := fun q h => by rw [← hAe]; exact Or.inr h
  have hS : va_S A s.heap s.heap [] := va_S.rf
  have hP : va_P G vwCl [(ce_X10 ob ob_thrown ob_world ob_images ob_hasImage ob_tape ob_taped ob_five ob_size ob_at ob_from ob_token ob_value ob_faultKind ob_faultPlace ob_fresh ob_parts ob_houses ob_houseMany ob_worthOf ob_byCall ob_over ob_bestSet ob_bestOver ob_bestWorth ob_row ob_tenDebts ob_tenMany ob_fewestBy ob_covered ob_queue ob_cameBy ob_parent ob_met ob_calls ob_callMany ob_calledOn ob_saved ob_many ob_width ob_numbers ob_moving), (ce_i4 y ob_many fob_many), (ce_i4 y ob_width fob_width), (ce_l240 y ob_numbers fob_numbers), (ce_l60 y ob_moving fob_moving)] s.heap := hP
  have hl := lv_entry ([.ref ob, .int 3, .int a2, .int 2, .int a4, .int a5]) (n := 7) (Nat.le_of_ble_eq_true rfl)
  rw [lg_entry_eq]
  generalize (lg_sl ([.ref ob, .int 3, .int a2, .int 2, .int a4, .int a5]) ++ List.replicate (7 - (lg_sl ([.ref ob, .int 3, .int a2, .int 2, .int a4, .int a5])).length) Slot.unset).toArray = ls at hl ⊢
  have hl : lv_has ls 7 [(0, .ref ob), (1, .int 3), (2, .int a2), (3, .int 2), (4, .int a4), (5, .int a5)] := hl
  refine lv_iload_n hx hb dX10_paste_0 rfl (lv_at hl 1 rfl) ?_
  refine cSim (As := [.int 3]) (rest := []) ⟨hx, hb, hml, hown, hw0⟩ hA hK hP hD hS [] (gisSlotM l G y _ 3 ) rfl ⟨(callB_of 1 hw0 (gA m_543) rfl rfl rfl (hw0 _ m_41) (hw0 _ m_433) cb_X10_isSlot ⟨Nat.le_of_ble_eq_true rfl, Nat.le_of_ble_eq_true rfl⟩), (hw0 _ m_434)⟩ rfl hl.1 (Nat.le_of_ble_eq_true rfl) dX10_paste_1 ⟨Nat.le_of_ble_eq_true rfl, Nat.le_of_ble_eq_true rfl⟩ (fun r_1001 w_1001 H locs hw_1001 hP hD hS => ?_)
  rcases hw_1001 with ⟨h_1002, rfl, rfl⟩ | ⟨h_1003, h_1004, rfl, rfl⟩
  · skip
    exact False.elim (by have h9 : Int32.toInt 3 = 3 := (by decide); omega)
  · skip
    obtain ⟨hP, hD⟩ : vPD G A H [(ce_X10 ob ob_thrown ob_world ob_images ob_hasImage ob_tape ob_taped ob_five ob_size ob_at ob_from ob_token ob_value ob_faultKind ob_faultPlace ob_fresh ob_parts ob_houses ob_houseMany ob_worthOf ob_byCall ob_over ob_bestSet ob_bestOver ob_bestWorth ob_row ob_tenDebts ob_tenMany ob_fewestBy ob_covered ob_queue ob_cameBy ob_parent ob_met ob_calls ob_callMany ob_calledOn ob_saved ob_many ob_width ob_numbers ob_moving), (ce_i4 y ob_many fob_many), (ce_i4 y ob_width fob_width), (ce_l240 y ob_numbers fob_numbers), (ce_l60 y ob_moving fob_moving)] := ⟨hP, hD⟩
    refine lv_if_eq (tgt := 14) hx hb dX10_paste_4 (by decide) (fun c9 => absurd c9 (by decide)) (fun _ => ?_)
    refine lv_iload_n hx hb dX10_paste_7 rfl (lv_at hl 3 rfl) ?_
    refine cSim (As := [.int 2]) (rest := []) ⟨hx, hb, hml, hown, hw0⟩ hA hK hP hD hS [] (gisSlotM l G y _ 2 ) rfl ⟨(callB_of 1 hw0 (gA m_543) rfl rfl rfl (hw0 _ m_41) (hw0 _ m_433) cb_X10_isSlot ⟨Nat.le_of_ble_eq_true rfl, Nat.le_of_ble_eq_true rfl⟩), (hw0 _ m_434)⟩ rfl hl.1 (Nat.le_of_ble_eq_true rfl) dX10_paste_8 ⟨Nat.le_of_ble_eq_true rfl, Nat.le_of_ble_eq_true rfl⟩ (fun r_1005 w_1005 H locs hw_1005 hP hD hS => ?_)
    rcases hw_1005 with ⟨h_1006, rfl, rfl⟩ | ⟨h_1007, h_1008, rfl, rfl⟩
    · skip
      exact False.elim (by have h9 : Int32.toInt 2 = 2 := (by decide); omega)
    · skip
      obtain ⟨hP, hD⟩ : vPD G A H [(ce_X10 ob ob_thrown ob_world ob_images ob_hasImage ob_tape ob_taped ob_five ob_size ob_at ob_from ob_token ob_value ob_faultKind ob_faultPlace ob_fresh ob_parts ob_houses ob_houseMany ob_worthOf ob_byCall ob_over ob_bestSet ob_bestOver ob_bestWorth ob_row ob_tenDebts ob_tenMany ob_fewestBy ob_covered ob_queue ob_cameBy ob_parent ob_met ob_calls ob_callMany ob_calledOn ob_saved ob_many ob_width ob_numbers ob_moving), (ce_i4 y ob_many fob_many), (ce_i4 y ob_width fob_width), (ce_l240 y ob_numbers fob_numbers), (ce_l60 y ob_moving fob_moving)] := ⟨hP, hD⟩
      refine lv_if_ne (tgt := 17) hx hb dX10_paste_11 (by decide) (fun _ => ?_) (fun c9 => absurd c9 (by decide))
      refine lv_aload_n hx hb dX10_paste_17 rfl (lv_at hl 0 rfl) ?_
      refine va_get (D := G) (ci := 10) (v := .ref ob_many) (C := RX10) (T := TX10) (N := 41) hx hb hw0 inA_wsX100 hown hK.1 hP 0 rfl rfl 37 (by decide) (hw0 _ m_406) (fun _ h9 => h9) rfl dX10_paste_18 ?_
      refine lv_iload_n hx hb dX10_paste_21 rfl (lv_at hl 1 rfl) ?_
      refine va_iald hx hb hK.1 hP 1 1 rfl rfl (vi (bkc (x := 3) (c := 3) (by decide)) (by decide)) dX10_paste_22 ?_
      refine lv_topi (fun v_1009 ev_1009 => ?_)
      have bv_1009 : (-1 : Int) ≤ v_1009.toInt ∧ v_1009.toInt ≤ 60 := rd_b ev_1009 p_fob_many
      have yv_1009 : v_1009.toInt = (fob_many 3).toInt := congrArg Int32.toInt ev_1009
      refine lv_iconst (v := (-1)) hx hb dX10_paste_23 (by decide) ?_
      refine lv_icmp_eq (tgt := 37) hx hb dX10_paste_24 (by decide) (fun c_1010 => ?_) (fun c_1010 => ?_)
      · skip
        have nc_1010 := nb_eq (-1) (-1) c_1010 bv_1009 (bkc (x := (-1)) (c := -1) (by decide)) (by decide)
        refine lv_bipush (v := (-6)) hx hb dX10_paste_37 (by decide) ?_
        exact W.iret (v := (-6)) hx hb hr (fun t ht hW => ⟨⟨(-6), _, rfl, Or.inl (⟨by have h90 : Int32.toInt (-6) = -6 := (by decide); have h91 : Int32.toInt 2 = 2 := (by decide); have h92 : Int32.toInt 3 = 3 := (by decide); omega, rfl, rfl⟩), by rw [ht]; exact hP, hD⟩, hS.F ht⟩) hS.2.2 dX10_paste_39
      · skip
        have nc_1010 := nb_ne (0) (60) c_1010 bv_1009 (k := -1) (by decide) (by decide)
        refine lv_aload_n hx hb dX10_paste_27 rfl (lv_at hl 0 rfl) ?_
        refine va_get (D := G) (ci := 10) (v := .ref ob_many) (C := RX10) (T := TX10) (N := 41) hx hb hw0 inA_wsX100 hown hK.1 hP 0 rfl rfl 37 (by decide) (hw0 _ m_406) (fun _ h9 => h9) rfl dX10_paste_28 ?_
        refine lv_iload_n hx hb dX10_paste_31 rfl (lv_at hl 3 rfl) ?_
        refine va_iald hx hb hK.1 hP 1 1 rfl rfl (vi (bkc (x := 2) (c := 2) (by decide)) (by decide)) dX10_paste_32 ?_
        refine lv_topi (fun v_1011 ev_1011 => ?_)
        have bv_1011 : (-1 : Int) ≤ v_1011.toInt ∧ v_1011.toInt ≤ 60 := rd_b ev_1011 p_fob_many
        have yv_1011 : v_1011.toInt = (fob_many 2).toInt := congrArg Int32.toInt ev_1011
        refine lv_iconst (v := (-1)) hx hb dX10_paste_33 (by decide) ?_
        refine lv_icmp_ne (tgt := 40) hx hb dX10_paste_34 (by decide) (fun c_1012 => ?_) (fun c_1012 => ?_)
        · skip
          have nc_1012 := nb_ne (0) (60) c_1012 bv_1011 (k := -1) (by decide) (by decide)
          refine lv_aload_n hx hb dX10_paste_40 rfl (lv_at hl 0 rfl) ?_
          refine va_get (D := G) (ci := 10) (v := .ref ob_width) (C := RX10) (T := TX10) (N := 41) hx hb hw0 inA_wsX100 hown hK.1 hP 0 rfl rfl 38 (by decide) (hw0 _ m_527) (fun _ h9 => h9) rfl dX10_paste_41 ?_
          refine lv_iload_n hx hb dX10_paste_44 rfl (lv_at hl 1 rfl) ?_
          refine va_iald hx hb hK.1 hP 2 1 rfl rfl (vi (bkc (x := 3) (c := 3) (by decide)) (by decide)) dX10_paste_45 ?_
          refine lv_topi (fun v_1013 ev_1013 => ?_)
          have bv_1013 : (0 : Int) ≤ v_1013.toInt ∧ v_1013.toInt ≤ 3 := rd_b ev_1013 p_fob_width
          have yv_1013 : v_1013.toInt = (fob_width 3).toInt := congrArg Int32.toInt ev_1013
          refine lv_aload_n hx hb dX10_paste_46 rfl (lv_at hl 0 rfl) ?_
          refine va_get (D := G) (ci := 10) (v := .ref ob_width) (C := RX10) (T := TX10) (N := 41) hx hb hw0 inA_wsX100 hown hK.1 hP 0 rfl rfl 38 (by decide) (hw0 _ m_527) (fun _ h9 => h9) rfl dX10_paste_47 ?_
          refine lv_iload_n hx hb dX10_paste_50 rfl (lv_at hl 3 rfl) ?_
          refine va_iald hx hb hK.1 hP 2 1 rfl rfl (vi (bkc (x := 2) (c := 2) (by decide)) (by decide)) dX10_paste_51 ?_
          refine lv_topi (fun v_1014 ev_1014 => ?_)
          have bv_1014 : (0 : Int) ≤ v_1014.toInt ∧ v_1014.toInt ≤ 3 := rd_b ev_1014 p_fob_width
          have yv_1014 : v_1014.toInt = (fob_width 2).toInt := congrArg Int32.toInt ev_1014
          refine lv_icmp_eq (tgt := 58) hx hb dX10_paste_52 (by decide) (fun c_1015 => ?_) (fun c_1015 => ?_)
          · skip
            have nc_1015 := nb_eq (0) (3) c_1015 bv_1013 bv_1014 (by decide)
            refine lv_iload_n hx hb dX10_paste_58 rfl (lv_at hl 2 rfl) ?_
            refine lv_if_lt (tgt := 107) hx hb dX10_paste_59 (by decide) (fun c_1016 => ?_) (fun c_1016 => ?_)
            · skip
              have nc_1016 := nb_lt (-1) (0) c_1016 (btop a2) (bkc (x := 0) (c := 0) (by decide)) (by decide)
              refine lv_bipush (v := (-7)) hx hb dX10_paste_107 (by decide) ?_
              exact W.iret (v := (-7)) hx hb hr (fun t ht hW => ⟨⟨(-7), _, rfl, Or.inr (Or.inl (⟨by have h90 : Int32.toInt (-7) = -7 := (by decide); have h91 : Int32.toInt 2 = 2 := (by decide); have h92 : Int32.toInt 3 = 3 := (by decide); omega, rfl, rfl⟩)), by rw [ht]; exact hP, hD⟩, hS.F ht⟩) hS.2.2 dX10_paste_109
            · skip
              have nc_1016 := nb_nlt (0) (0) c_1016 (bkc (x := 0) (c := 0) (by decide)) (btop a2) (by decide)
              refine lv_iload hx hb dX10_paste_62 (lv_at hl 4 rfl) ?_
              refine lv_if_lt (tgt := 107) hx hb dX10_paste_64 (by decide) (fun c_1017 => ?_) (fun c_1017 => ?_)
              · skip
                have nc_1017 := nb_lt (-1) (0) c_1017 (btop a4) (bkc (x := 0) (c := 0) (by decide)) (by decide)
                refine lv_bipush (v := (-7)) hx hb dX10_paste_107 (by decide) ?_
                exact W.iret (v := (-7)) hx hb hr (fun t ht hW => ⟨⟨(-7), _, rfl, Or.inr (Or.inl (⟨by have h90 : Int32.toInt (-7) = -7 := (by decide); have h91 : Int32.toInt 2 = 2 := (by decide); have h92 : Int32.toInt 3 = 3 := (by decide); omega, rfl, rfl⟩)), by rw [ht]; exact hP, hD⟩, hS.F ht⟩) hS.2.2 dX10_paste_109
              · skip
                have nc_1017 := nb_nlt (0) (0) c_1017 (bkc (x := 0) (c := 0) (by decide)) (btop a4) (by decide)
                refine lv_iload hx hb dX10_paste_67 (lv_at hl 5 rfl) ?_
                refine lv_if_lt (tgt := 107) hx hb dX10_paste_69 (by decide) (fun c_1018 => ?_) (fun c_1018 => ?_)
                · skip
                  have nc_1018 := nb_lt (-1) (0) c_1018 (btop a5) (bkc (x := 0) (c := 0) (by decide)) (by decide)
                  refine lv_bipush (v := (-7)) hx hb dX10_paste_107 (by decide) ?_
                  exact W.iret (v := (-7)) hx hb hr (fun t ht hW => ⟨⟨(-7), _, rfl, Or.inr (Or.inl (⟨by have h90 : Int32.toInt (-7) = -7 := (by decide); have h91 : Int32.toInt 2 = 2 := (by decide); have h92 : Int32.toInt 3 = 3 := (by decide); omega, rfl, rfl⟩)), by rw [ht]; exact hP, hD⟩, hS.F ht⟩) hS.2.2 dX10_paste_109
                · skip
                  have nc_1018 := nb_nlt (0) (0) c_1018 (bkc (x := 0) (c := 0) (by decide)) (btop a5) (by decide)
                  refine lv_iload_n hx hb dX10_paste_72 rfl (lv_at hl 2 rfl) ?_
                  refine lv_i2l hx hb dX10_paste_73 rfl ?_
                  have kk_1019 : ((a2).toInt64).toInt = (a2).toInt := Int32.toInt_toInt64 _
                  refine lv_iload hx hb dX10_paste_74 (lv_at hl 5 rfl) ?_
                  refine lv_i2l hx hb dX10_paste_76 rfl ?_
                  have kk_1020 : ((a5).toInt64).toInt = (a5).toInt := Int32.toInt_toInt64 _
                  refine lv_ladd hx hb dX10_paste_77 ?_
                  refine lv_topl (fun v_1021 ev_1021 => ?_)
                  have qv_1021 := la_add ev_1021
                  refine lv_aload_n hx hb dX10_paste_78 rfl (lv_at hl 0 rfl) ?_
                  refine va_get (D := G) (ci := 10) (v := .ref ob_many) (C := RX10) (T := TX10) (N := 41) hx hb hw0 inA_wsX100 hown hK.1 hP 0 rfl rfl 37 (by decide) (hw0 _ m_406) (fun _ h9 => h9) rfl dX10_paste_79 ?_
                  refine lv_iload_n hx hb dX10_paste_82 rfl (lv_at hl 1 rfl) ?_
                  refine va_iald hx hb hK.1 hP 1 1 rfl rfl (vi (bkc (x := 3) (c := 3) (by decide)) (by decide)) dX10_paste_83 ?_
                  refine lv_topi (fun v_1022 ev_1022 => ?_)
                  obtain rfl : v_1009 = v_1022 := (ev_1022.trans (ev_1009.symm)).symm
                  refine lv_i2l hx hb dX10_paste_84 rfl ?_
                  have kk_1023 : ((v_1009).toInt64).toInt = (v_1009).toInt := Int32.toInt_toInt64 _
                  refine W.lcmp hx hb dX10_paste_85 ?_
                  refine lv_if_gt (tgt := 107) hx hb dX10_paste_86 (by decide) (fun c_1024 => ?_) (fun c_1024 => ?_)
                  · skip
                    have nc_1024 := jl_gt c_1024
                    refine lv_bipush (v := (-7)) hx hb dX10_paste_107 (by decide) ?_
                    exact W.iret (v := (-7)) hx hb hr (fun t ht hW => ⟨⟨(-7), _, rfl, Or.inr (Or.inl (⟨by have h90 : Int32.toInt (-7) = -7 := (by decide); have h91 : Int32.toInt 2 = 2 := (by decide); have h92 : Int32.toInt 3 = 3 := (by decide); omega, rfl, rfl⟩)), by rw [ht]; exact hP, hD⟩, hS.F ht⟩) hS.2.2 dX10_paste_109
                  · skip
                    have nc_1024 := jl_ngt c_1024
                    refine lv_iload hx hb dX10_paste_89 (lv_at hl 4 rfl) ?_
                    refine lv_i2l hx hb dX10_paste_91 rfl ?_
                    have kk_1025 : ((a4).toInt64).toInt = (a4).toInt := Int32.toInt_toInt64 _
                    refine lv_iload hx hb dX10_paste_92 (lv_at hl 5 rfl) ?_
                    refine lv_i2l hx hb dX10_paste_94 rfl ?_
                    have kk_1026 : ((a5).toInt64).toInt = (a5).toInt := Int32.toInt_toInt64 _
                    refine lv_ladd hx hb dX10_paste_95 ?_
                    refine lv_topl (fun v_1027 ev_1027 => ?_)
                    have qv_1027 := la_add ev_1027
                    refine lv_aload_n hx hb dX10_paste_96 rfl (lv_at hl 0 rfl) ?_
                    refine va_get (D := G) (ci := 10) (v := .ref ob_many) (C := RX10) (T := TX10) (N := 41) hx hb hw0 inA_wsX100 hown hK.1 hP 0 rfl rfl 37 (by decide) (hw0 _ m_406) (fun _ h9 => h9) rfl dX10_paste_97 ?_
                    refine lv_iload_n hx hb dX10_paste_100 rfl (lv_at hl 3 rfl) ?_
                    refine va_iald hx hb hK.1 hP 1 1 rfl rfl (vi (bkc (x := 2) (c := 2) (by decide)) (by decide)) dX10_paste_101 ?_
                    refine lv_topi (fun v_1028 ev_1028 => ?_)
                    obtain rfl : v_1011 = v_1028 := (ev_1028.trans (ev_1011.symm)).symm
                    refine lv_i2l hx hb dX10_paste_102 rfl ?_
                    have kk_1029 : ((v_1011).toInt64).toInt = (v_1011).toInt := Int32.toInt_toInt64 _
                    refine W.lcmp hx hb dX10_paste_103 ?_
                    refine lv_if_le (tgt := 110) hx hb dX10_paste_104 (by decide) (fun c_1030 => ?_) (fun c_1030 => ?_)
                    · skip
                      have nc_1030 := jl_le c_1030
                      have h_1031 : (0 : Int) ≤ a2.toInt ∧ a2.toInt ≤ 60 := by omega
                      have h_1032 : (0 : Int) ≤ a4.toInt ∧ a4.toInt ≤ 60 := by omega
                      have h_1033 : (0 : Int) ≤ a5.toInt ∧ a5.toInt ≤ 60 := by omega
                      refine lv_iconst (v := 0) hx hb dX10_paste_110 (by decide) ?_
                      refine lv_istore (lv' := [(6, .int 0), (0, .ref ob), (1, .int 3), (2, .int a2), (3, .int 2), (4, .int a4), (5, .int a5)]) hx hb dX10_paste_111 hl (by decide) rfl (fun ls hl => ?_)
                      refine loopX (fun n H locs ls st => ∃ (v_1061 : Int32) (f_1062 : Nat → Int64), (60 - v_1061.toInt).toNat = n ∧ ((0 : Int) ≤ v_1061.toInt ∧ v_1061.toInt ≤ 60) ∧ (mL f_1062 fob_numbers (180 + a2.toInt.toNat) v_1061.toInt) ∧ st = [] ∧ vPD G A H [(ce_X10 ob ob_thrown ob_world ob_images ob_hasImage ob_tape ob_taped ob_five ob_size ob_at ob_from ob_token ob_value ob_faultKind ob_faultPlace ob_fresh ob_parts ob_houses ob_houseMany ob_worthOf ob_byCall ob_over ob_bestSet ob_bestOver ob_bestWorth ob_row ob_tenDebts ob_tenMany ob_fewestBy ob_covered ob_queue ob_cameBy ob_parent ob_met ob_calls ob_callMany ob_calledOn ob_saved ob_many ob_width ob_numbers ob_moving), (ce_i4 y ob_many fob_many), (ce_i4 y ob_width fob_width), (ce_l240 y ob_numbers fob_numbers), (ce_l60 y ob_moving f_1062)] ∧ va_S A s.heap H locs ∧ lv_has ls 7 [(6, .int v_1061), (0, .ref ob), (1, .int 3), (2, .int a2), (3, .int 2), (4, .int a4), (5, .int a5)]) ?_ (n := (60 - (0 : Int32).toInt).toNat) ⟨0, fob_moving, rfl, (bw (0) (60) (bkc (x := 0) (c := 0) (by decide)) (by decide)), (ml_0 (by have h90 : Int32.toInt 0 = 0 := (by decide); have h91 : Int32.toInt 2 = 2 := (by decide); have h92 : Int32.toInt 3 = 3 := (by decide); omega)), rfl, ⟨hP, hD⟩, hS, lv_sub hl [0, 1, 2, 3, 4, 5, 6] rfl⟩
                      rintro n ih_1070 H locs ls st ⟨v_1061, f_1062, hn_1070, bv_1061, rl1062_0, rfl, ⟨hP, hD⟩, hS, hl⟩
                      refine lv_iload hx hb dX10_paste_113 (lv_at hl 0 rfl) ?_
                      refine lv_iload hx hb dX10_paste_115 (lv_at hl 6 rfl) ?_
                      refine lv_icmp_ge (tgt := 147) hx hb dX10_paste_117 (by decide) (fun c_1071 => ?_) (fun c_1071 => ?_)
                      · skip
                        have nc_1071 := nb_le (60) (0) c_1071 h_1033 bv_1061 (by decide)
                        refine lv_iconst (v := 0) hx hb dX10_paste_147 (by decide) ?_
                        refine lv_istore (lv' := [(6, .int 0), (0, .ref ob), (1, .int 3), (2, .int a2), (3, .int 2), (4, .int a4), (5, .int a5)]) hx hb dX10_paste_148 hl (by decide) rfl (fun ls hl => ?_)
                        refine loopX (fun n H locs ls st => ∃ (v_1096 : Int32) (f_1097 : Nat → Int64), (60 - v_1096.toInt).toNat = n ∧ ((0 : Int) ≤ v_1096.toInt ∧ v_1096.toInt ≤ 60) ∧ (nL f_1097 fob_numbers f_1062 (120 + a4.toInt.toNat) v_1096.toInt) ∧ (v_1096.toInt ≤ a5.toInt) ∧ st = [] ∧ vPD G A H [(ce_X10 ob ob_thrown ob_world ob_images ob_hasImage ob_tape ob_taped ob_five ob_size ob_at ob_from ob_token ob_value ob_faultKind ob_faultPlace ob_fresh ob_parts ob_houses ob_houseMany ob_worthOf ob_byCall ob_over ob_bestSet ob_bestOver ob_bestWorth ob_row ob_tenDebts ob_tenMany ob_fewestBy ob_covered ob_queue ob_cameBy ob_parent ob_met ob_calls ob_callMany ob_calledOn ob_saved ob_many ob_width ob_numbers ob_moving), (ce_i4 y ob_many fob_many), (ce_i4 y ob_width fob_width), (ce_l240 y ob_numbers f_1097), (ce_l60 y ob_moving f_1062)] ∧ va_S A s.heap H locs ∧ lv_has ls 7 [(6, .int v_1096), (0, .ref ob), (3, .int 2), (4, .int a4), (5, .int a5)]) ?_ (n := (60 - (0 : Int32).toInt).toNat) ⟨0, fob_numbers, rfl, (bw (0) (60) (bkc (x := 0) (c := 0) (by decide)) (by decide)), (nl_0 (by have h90 : Int32.toInt 0 = 0 := (by decide); have h91 : Int32.toInt 2 = 2 := (by decide); have h92 : Int32.toInt 3 = 3 := (by decide); omega)), (by have h90 : Int32.toInt 0 = 0 := (by decide); omega), rfl, ⟨hP, hD⟩, hS, lv_sub hl [0, 1, 4, 5, 6] rfl⟩
                        rintro n ih_1104 H locs ls st ⟨v_1096, f_1097, hn_1104, bv_1096, rl1097_0, rl1097_1, rfl, ⟨hP, hD⟩, hS, hl⟩
                        refine lv_iload hx hb dX10_paste_150 (lv_at hl 0 rfl) ?_
                        refine lv_iload hx hb dX10_paste_152 (lv_at hl 4 rfl) ?_
                        refine lv_icmp_ge (tgt := 185) hx hb dX10_paste_154 (by decide) (fun c_1105 => ?_) (fun c_1105 => ?_)
                        · skip
                          have nc_1105 := nb_le (60) (0) c_1105 nc_1071.1 bv_1096 (by decide)
                          refine lv_iconst (v := 0) hx hb dX10_paste_185 (by decide) ?_
                          exact W.iret (v := 0) hx hb hr (fun t ht hW => ⟨⟨0, _, rfl, Or.inr (Or.inr (Or.inr (⟨f_1097, f_1062, h_1031, h_1032, nc_1105.1, by have h90 : Int32.toInt 0 = 0 := (by decide); have h91 : Int32.toInt 2 = 2 := (by decide); omega, (pl_e rl1062_0 rl1097_0 (by omega) (by omega)), rfl, rfl⟩))), by rw [ht]; exact hP, hD⟩, hS.F ht⟩) hS.2.2 dX10_paste_186
                        · skip
                          have nc_1105 := nb_nle (59) (1) c_1105 bv_1096 nc_1071.1 (by decide)
                          refine lv_aload_n hx hb dX10_paste_157 rfl (lv_at hl 1 rfl) ?_
                          refine va_get (D := G) (ci := 10) (v := .ref ob_numbers) (C := RX10) (T := TX10) (N := 41) hx hb hw0 inA_wsX100 hown hK.1 hP 0 rfl rfl 39 (by decide) (hw0 _ m_435) (fun _ h9 => h9) rfl dX10_paste_158 ?_
                          refine lv_bipush (v := 60) hx hb dX10_paste_161 (by decide) ?_
                          refine lv_iload_n hx hb dX10_paste_163 rfl (lv_at hl 2 rfl) ?_
                          refine lv_imul hx hb dX10_paste_164 ?_
                          refine lv_topi (fun v_1106 ev_1106 => ?_)
                          obtain rfl : 120 = v_1106 := (ev_1106.trans (by decide)).symm
                          refine lv_iload hx hb dX10_paste_165 (lv_at hl 3 rfl) ?_
                          refine lv_iadd hx hb dX10_paste_167 ?_
                          refine lv_topi (fun v_1107 ev_1107 => ?_)
                          have qv_1107 := ba_add ev_1107 (bkc (x := 120) (c := 120) (by decide)) h_1032 (by decide)
                          have bv_1107 : (120 : Int) ≤ v_1107.toInt ∧ v_1107.toInt ≤ 180 := bq_add qv_1107 (bkc (x := 120) (c := 120) (by decide)) h_1032 _ _ (by decide)
                          have qv_1107 : v_1107.toInt = (120) + a4.toInt := qv_1107
                          refine lv_iload hx hb dX10_paste_168 (lv_at hl 0 rfl) ?_
                          refine lv_iadd hx hb dX10_paste_170 ?_
                          refine lv_topi (fun v_1108 ev_1108 => ?_)
                          have qv_1108 := ba_add ev_1108 bv_1107 nc_1105.1 (by decide)
                          have bv_1108 : (120 : Int) ≤ v_1108.toInt ∧ v_1108.toInt ≤ 239 := bq_add qv_1108 bv_1107 nc_1105.1 _ _ (by decide)
                          refine lv_aload_n hx hb dX10_paste_171 rfl (lv_at hl 1 rfl) ?_
                          refine va_get (D := G) (ci := 10) (v := .ref ob_moving) (C := RX10) (T := TX10) (N := 41) hx hb hw0 inA_wsX100 hown hK.1 hP 0 rfl rfl 40 (by decide) (hw0 _ m_529) (fun _ h9 => h9) rfl dX10_paste_172 ?_
                          refine lv_iload hx hb dX10_paste_175 (lv_at hl 0 rfl) ?_
                          refine va_lald hx hb hK.1 hP 4 2 rfl rfl (vi nc_1105.1 (by decide)) dX10_paste_177 ?_
                          refine lv_topl (fun v_1109 ev_1109 => ?_)
                          refine va_last hx hb hK.1 hP hD hS 3 2 rfl rfl (vi bv_1108 (by decide)) dX10_paste_178 (fun H locs hP hD hS => ?_)
                          generalize hf_1110 : (vp_updL f_1097 (v_1108 : Int32).toNatClampNeg v_1109) = f_1110 at hP hD
                          obtain ⟨hP, hD⟩ : vPD G A H [(ce_X10 ob ob_thrown ob_world ob_images ob_hasImage ob_tape ob_taped ob_five ob_size ob_at ob_from ob_token ob_value ob_faultKind ob_faultPlace ob_fresh ob_parts ob_houses ob_houseMany ob_worthOf ob_byCall ob_over ob_bestSet ob_bestOver ob_bestWorth ob_row ob_tenDebts ob_tenMany ob_fewestBy ob_covered ob_queue ob_cameBy ob_parent ob_met ob_calls ob_callMany ob_calledOn ob_saved ob_many ob_width ob_numbers ob_moving), (ce_i4 y ob_many fob_many), (ce_i4 y ob_width fob_width), (ce_l240 y ob_numbers f_1110), (ce_l60 y ob_moving f_1062)] := ⟨hP, hD⟩
                          obtain ⟨v_1111, ev_1111⟩ : ∃ z : Int32, z = v_1096 + 1 := ⟨_, rfl⟩
                          have qv_1111 := ba_add ev_1111 nc_1105.1 (bkc (x := 1) (c := 1) (by decide)) (by decide)
                          have bv_1111 : (1 : Int) ≤ v_1111.toInt ∧ v_1111.toInt ≤ 60 := bq_add qv_1111 nc_1105.1 (bkc (x := 1) (c := 1) (by decide)) _ _ (by decide)
                          have qv_1111 : v_1111.toInt = v_1096.toInt + (1) := qv_1111
                          refine lv_iinc (v := v_1111) (lv' := [(6, .int v_1111), (0, .ref ob), (3, .int 2), (4, .int a4), (5, .int a5)]) hx hb dX10_paste_179 hl (k := 0) rfl (ev_1111.symm) (by decide) rfl (fun ls hl => ?_)
                          refine lv_goto (tgt := 150) hx hb dX10_paste_182 (by decide) ?_
                          exact ih_1104 _ (ml_inc (hi := 60) hn_1104 qv_1111 (by decide) ((bw (0) (60) bv_1111 (by decide))).2) _ _ _ _ ⟨v_1111, f_1110, rfl, (bw (0) (60) bv_1111 (by decide)), (nl_s rl1097_0 hf_1110 ev_1109 (by omega) (by omega) (by omega) (by omega)), (by omega), rfl, ⟨hP, hD⟩, hS, lv_sub hl [0, 1, 2, 3, 4] rfl⟩
                      · skip
                        have nc_1071 := nb_nle (59) (1) c_1071 bv_1061 h_1033 (by decide)
                        refine lv_aload_n hx hb dX10_paste_120 rfl (lv_at hl 1 rfl) ?_
                        refine va_get (D := G) (ci := 10) (v := .ref ob_moving) (C := RX10) (T := TX10) (N := 41) hx hb hw0 inA_wsX100 hown hK.1 hP 0 rfl rfl 40 (by decide) (hw0 _ m_529) (fun _ h9 => h9) rfl dX10_paste_121 ?_
                        refine lv_iload hx hb dX10_paste_124 (lv_at hl 0 rfl) ?_
                        refine lv_aload_n hx hb dX10_paste_126 rfl (lv_at hl 1 rfl) ?_
                        refine va_get (D := G) (ci := 10) (v := .ref ob_numbers) (C := RX10) (T := TX10) (N := 41) hx hb hw0 inA_wsX100 hown hK.1 hP 0 rfl rfl 39 (by decide) (hw0 _ m_435) (fun _ h9 => h9) rfl dX10_paste_127 ?_
                        refine lv_bipush (v := 60) hx hb dX10_paste_130 (by decide) ?_
                        refine lv_iload_n hx hb dX10_paste_132 rfl (lv_at hl 2 rfl) ?_
                        refine lv_imul hx hb dX10_paste_133 ?_
                        refine lv_topi (fun v_1112 ev_1112 => ?_)
                        obtain rfl : 180 = v_1112 := (ev_1112.trans (by decide)).symm
                        refine lv_iload_n hx hb dX10_paste_134 rfl (lv_at hl 3 rfl) ?_
                        refine lv_iadd hx hb dX10_paste_135 ?_
                        refine lv_topi (fun v_1113 ev_1113 => ?_)
                        have qv_1113 := ba_add ev_1113 (bkc (x := 180) (c := 180) (by decide)) h_1031 (by decide)
                        have bv_1113 : (180 : Int) ≤ v_1113.toInt ∧ v_1113.toInt ≤ 240 := bq_add qv_1113 (bkc (x := 180) (c := 180) (by decide)) h_1031 _ _ (by decide)
                        have qv_1113 : v_1113.toInt = (180) + a2.toInt := qv_1113
                        refine lv_iload hx hb dX10_paste_136 (lv_at hl 0 rfl) ?_
                        refine lv_iadd hx hb dX10_paste_138 ?_
                        refine lv_topi (fun v_1114 ev_1114 => ?_)
                        have qv_1114 := ba_add ev_1114 bv_1113 nc_1071.1 (by decide)
                        have bv_1114 : (180 : Int) ≤ v_1114.toInt ∧ v_1114.toInt ≤ 299 := bq_add qv_1114 bv_1113 nc_1071.1 _ _ (by decide)
                        have h_1115 : (0 : Int) ≤ v_1114.toInt ∧ v_1114.toInt ≤ 239 := by omega
                        refine va_lald hx hb hK.1 hP 3 2 rfl rfl (vi h_1115 (by decide)) dX10_paste_139 ?_
                        refine lv_topl (fun v_1116 ev_1116 => ?_)
                        refine va_last hx hb hK.1 hP hD hS 4 2 rfl rfl (vi nc_1071.1 (by decide)) dX10_paste_140 (fun H locs hP hD hS => ?_)
                        generalize hf_1117 : (vp_updL f_1062 (v_1061 : Int32).toNatClampNeg v_1116) = f_1117 at hP hD
                        obtain ⟨hP, hD⟩ : vPD G A H [(ce_X10 ob ob_thrown ob_world ob_images ob_hasImage ob_tape ob_taped ob_five ob_size ob_at ob_from ob_token ob_value ob_faultKind ob_faultPlace ob_fresh ob_parts ob_houses ob_houseMany ob_worthOf ob_byCall ob_over ob_bestSet ob_bestOver ob_bestWorth ob_row ob_tenDebts ob_tenMany ob_fewestBy ob_covered ob_queue ob_cameBy ob_parent ob_met ob_calls ob_callMany ob_calledOn ob_saved ob_many ob_width ob_numbers ob_moving), (ce_i4 y ob_many fob_many), (ce_i4 y ob_width fob_width), (ce_l240 y ob_numbers fob_numbers), (ce_l60 y ob_moving f_1117)] := ⟨hP, hD⟩
                        obtain ⟨v_1118, ev_1118⟩ : ∃ z : Int32, z = v_1061 + 1 := ⟨_, rfl⟩
                        have qv_1118 := ba_add ev_1118 nc_1071.1 (bkc (x := 1) (c := 1) (by decide)) (by decide)
                        have bv_1118 : (1 : Int) ≤ v_1118.toInt ∧ v_1118.toInt ≤ 60 := bq_add qv_1118 nc_1071.1 (bkc (x := 1) (c := 1) (by decide)) _ _ (by decide)
                        have qv_1118 : v_1118.toInt = v_1061.toInt + (1) := qv_1118
                        refine lv_iinc (v := v_1118) (lv' := [(6, .int v_1118), (0, .ref ob), (1, .int 3), (2, .int a2), (3, .int 2), (4, .int a4), (5, .int a5)]) hx hb dX10_paste_141 hl (k := 0) rfl (ev_1118.symm) (by decide) rfl (fun ls hl => ?_)
                        refine lv_goto (tgt := 113) hx hb dX10_paste_144 (by decide) ?_
                        exact ih_1070 _ (ml_inc (hi := 60) hn_1070 qv_1118 (by decide) ((bw (0) (60) bv_1118 (by decide))).2) _ _ _ _ ⟨v_1118, f_1117, rfl, (bw (0) (60) bv_1118 (by decide)), (ml_s rl1062_0 hf_1117 ev_1116 (by omega) (by omega) (by omega) (by omega)), rfl, ⟨hP, hD⟩, hS, lv_sub hl [0, 1, 2, 3, 4, 5, 6] rfl⟩
                    · skip
                      have nc_1030 := jl_nle c_1030
                      refine lv_bipush (v := (-7)) hx hb dX10_paste_107 (by decide) ?_
                      exact W.iret (v := (-7)) hx hb hr (fun t ht hW => ⟨⟨(-7), _, rfl, Or.inr (Or.inl (⟨by have h90 : Int32.toInt (-7) = -7 := (by decide); have h91 : Int32.toInt 2 = 2 := (by decide); have h92 : Int32.toInt 3 = 3 := (by decide); omega, rfl, rfl⟩)), by rw [ht]; exact hP, hD⟩, hS.F ht⟩) hS.2.2 dX10_paste_109
          · skip
            have nc_1015 : v_1013.toInt ≠ v_1014.toInt := fun h9 => c_1015 (Int32.toInt_inj.mp h9)
            refine lv_bipush (v := (-8)) hx hb dX10_paste_55 (by decide) ?_
            exact W.iret (v := (-8)) hx hb hr (fun t ht hW => ⟨⟨(-8), _, rfl, Or.inr (Or.inr (Or.inl (⟨by have h90 : Int32.toInt (-8) = -8 := (by decide); have h91 : Int32.toInt 2 = 2 := (by decide); have h92 : Int32.toInt 3 = 3 := (by decide); omega, rfl, rfl⟩))), by rw [ht]; exact hP, hD⟩, hS.F ht⟩) hS.2.2 dX10_paste_57
        · skip
          have nc_1012 := nb_eq (-1) (-1) c_1012 bv_1011 (bkc (x := (-1)) (c := -1) (by decide)) (by decide)
          refine lv_bipush (v := (-6)) hx hb dX10_paste_37 (by decide) ?_
          exact W.iret (v := (-6)) hx hb hr (fun t ht hW => ⟨⟨(-6), _, rfl, Or.inl (⟨by have h90 : Int32.toInt (-6) = -6 := (by decide); have h91 : Int32.toInt 2 = 2 := (by decide); have h92 : Int32.toInt 3 = 3 := (by decide); omega, rfl, rfl⟩), by rw [ht]; exact hP, hD⟩, hS.F ht⟩) hS.2.2 dX10_paste_39

set_option maxHeartbeats 4000000 in
set_option maxRecDepth 100000 in
theorem fpasteM33 (l : Launch) (G : va_G) (y : Nat → ClassId) (sz : Nat) (ob : Nat) (a2 : Int32) (a4 : Int32) (a5 : Int32) (ob_thrown : Int32) (ob_world : Nat) (ob_images : Nat) (ob_hasImage : Nat) (ob_tape : Nat) (ob_taped : Int32) (ob_five : Nat) (ob_size : Int32) (ob_at : Int32) (ob_from : Int32) (ob_token : Int32) (ob_value : Int32) (ob_faultKind : Int32) (ob_faultPlace : Int32) (ob_fresh : Nat) (ob_parts : Nat) (ob_houses : Nat) (ob_houseMany : Int32) (ob_worthOf : Nat) (ob_byCall : Nat) (ob_over : Nat) (ob_bestSet : Int32) (ob_bestOver : Int32) (ob_bestWorth : Int32) (ob_row : Nat) (ob_tenDebts : Nat) (ob_tenMany : Int32) (ob_fewestBy : Nat) (ob_covered : Nat) (ob_queue : Nat) (ob_cameBy : Nat) (ob_parent : Nat) (ob_met : Nat) (ob_calls : Nat) (ob_callMany : Int32) (ob_calledOn : Nat) (ob_saved : Nat) (ob_many : Nat) (ob_width : Nat) (ob_numbers : Nat) (ob_moving : Nat) (fob_many : Nat → Int32) (fob_width : Nat → Int32) (fob_numbers : Nat → Int64) (fob_moving : Nat → Int64) (p_ob_taped : (0 : Int) ≤ ob_taped.toInt ∧ ob_taped.toInt ≤ 1400) (p_ob_size : (0 : Int) ≤ ob_size.toInt ∧ ob_size.toInt ≤ 1400) (p_ob_at : (0 : Int) ≤ ob_at.toInt ∧ ob_at.toInt ≤ 1400) (p_ob_from : (0 : Int) ≤ ob_from.toInt ∧ ob_from.toInt ≤ 1400) (p_ob_token : (0 : Int) ≤ ob_token.toInt ∧ ob_token.toInt ≤ 4) (p_ob_value : (0 : Int) ≤ ob_value.toInt ∧ ob_value.toInt ≤ 9999) (p_ob_faultKind : (0 : Int) ≤ ob_faultKind.toInt ∧ ob_faultKind.toInt ≤ 3) (p_ob_houseMany : (0 : Int) ≤ ob_houseMany.toInt ∧ ob_houseMany.toInt ≤ 10) (p_ob_bestSet : (0 : Int) ≤ ob_bestSet.toInt ∧ ob_bestSet.toInt ≤ 1023) (p_ob_bestOver : (-1 : Int) ≤ ob_bestOver.toInt ∧ ob_bestOver.toInt ≤ 180) (p_ob_tenMany : (0 : Int) ≤ ob_tenMany.toInt ∧ ob_tenMany.toInt ≤ 10) (p_ob_callMany : (0 : Int) ≤ ob_callMany.toInt ∧ ob_callMany.toInt ≤ 16) (p_fob_many : ∀ i, (-1 : Int) ≤ (fob_many i).toInt ∧ (fob_many i).toInt ≤ 60) (p_fob_width : ∀ i, (0 : Int) ≤ (fob_width i).toInt ∧ (fob_width i).toInt ≤ 3) : Met l yX10_paste (Cond.code yX10_paste cX10_paste 7 (some .int) :: wAll) ({ frames := 2, cells := 0, slots := 0, locals := 45 }) (va_Pc [.ref ob, .int 3, .int a2, .int 3, .int a4, .int a5] (kp G y sz [(ce_X10 ob ob_thrown ob_world ob_images ob_hasImage ob_tape ob_taped ob_five ob_size ob_at ob_from ob_token ob_value ob_faultKind ob_faultPlace ob_fresh ob_parts ob_houses ob_houseMany ob_worthOf ob_byCall ob_over ob_bestSet ob_bestOver ob_bestWorth ob_row ob_tenDebts ob_tenMany ob_fewestBy ob_covered ob_queue ob_cameBy ob_parent ob_met ob_calls ob_callMany ob_calledOn ob_saved ob_many ob_width ob_numbers ob_moving), (ce_i4 y ob_many fob_many), (ce_i4 y ob_width fob_width), (ce_l240 y ob_numbers fob_numbers), (ce_l60 y ob_moving fob_moving)])) (va_Qi (fun (r : Int32) (w : va_W) => (((fob_many 3).toInt = -1 ∨ (fob_many 3).toInt = -1) ∧ r = (-6) ∧ w = [(ce_X10 ob ob_thrown ob_world ob_images ob_hasImage ob_tape ob_taped ob_five ob_size ob_at ob_from ob_token ob_value ob_faultKind ob_faultPlace ob_fresh ob_parts ob_houses ob_houseMany ob_worthOf ob_byCall ob_over ob_bestSet ob_bestOver ob_bestWorth ob_row ob_tenDebts ob_tenMany ob_fewestBy ob_covered ob_queue ob_cameBy ob_parent ob_met ob_calls ob_callMany ob_calledOn ob_saved ob_many ob_width ob_numbers ob_moving), (ce_i4 y ob_many fob_many), (ce_i4 y ob_width fob_width), (ce_l240 y ob_numbers fob_numbers), (ce_l60 y ob_moving fob_moving)]) ∨ ((¬ (fob_many 3).toInt = -1 ∧ ¬ (fob_many 3).toInt = -1 ∧ (fob_width 3).toInt = (fob_width 3).toInt ∧ ¬ (0 ≤ a2.toInt ∧ 0 ≤ a4.toInt ∧ 0 ≤ a5.toInt ∧ a2.toInt + a5.toInt ≤ (fob_many 3).toInt ∧ a4.toInt + a5.toInt ≤ (fob_many 3).toInt)) ∧ r = (-7) ∧ w = [(ce_X10 ob ob_thrown ob_world ob_images ob_hasImage ob_tape ob_taped ob_five ob_size ob_at ob_from ob_token ob_value ob_faultKind ob_faultPlace ob_fresh ob_parts ob_houses ob_houseMany ob_worthOf ob_byCall ob_over ob_bestSet ob_bestOver ob_bestWorth ob_row ob_tenDebts ob_tenMany ob_fewestBy ob_covered ob_queue ob_cameBy ob_parent ob_met ob_calls ob_callMany ob_calledOn ob_saved ob_many ob_width ob_numbers ob_moving), (ce_i4 y ob_many fob_many), (ce_i4 y ob_width fob_width), (ce_l240 y ob_numbers fob_numbers), (ce_l60 y ob_moving fob_moving)]) ∨ (∃ (f_243 : Nat → Int64) (f_244 : Nat → Int64), ((0 : Int) ≤ a2.toInt ∧ a2.toInt ≤ 60) ∧ ((0 : Int) ≤ a4.toInt ∧ a4.toInt ≤ 60) ∧ ((0 : Int) ≤ a5.toInt ∧ a5.toInt ≤ 60) ∧ (¬ (fob_many 3).toInt = -1 ∧ ¬ (fob_many 3).toInt = -1 ∧ (fob_width 3).toInt = (fob_width 3).toInt ∧ 0 ≤ a2.toInt ∧ 0 ≤ a4.toInt ∧ 0 ≤ a5.toInt ∧ a2.toInt + a5.toInt ≤ (fob_many 3).toInt ∧ a4.toInt + a5.toInt ≤ (fob_many 3).toInt) ∧ (pL f_243 fob_numbers (180 + a2.toInt.toNat) (180 + a4.toInt.toNat) a5.toInt) ∧ r = 0 ∧ w = [(ce_X10 ob ob_thrown ob_world ob_images ob_hasImage ob_tape ob_taped ob_five ob_size ob_at ob_from ob_token ob_value ob_faultKind ob_faultPlace ob_fresh ob_parts ob_houses ob_houseMany ob_worthOf ob_byCall ob_over ob_bestSet ob_bestOver ob_bestWorth ob_row ob_tenDebts ob_tenMany ob_fewestBy ob_covered ob_queue ob_cameBy ob_parent ob_met ob_calls ob_callMany ob_calledOn ob_saved ob_many ob_width ob_numbers ob_moving), (ce_i4 y ob_many fob_many), (ce_i4 y ob_width fob_width), (ce_l240 y ob_numbers f_243), (ce_l60 y ob_moving f_244)])) (kq G (va_A [(ce_X10 ob ob_thrown ob_world ob_images ob_hasImage ob_tape ob_taped ob_five ob_size ob_at ob_from ob_token ob_value ob_faultKind ob_faultPlace ob_fresh ob_parts ob_houses ob_houseMany ob_worthOf ob_byCall ob_over ob_bestSet ob_bestOver ob_bestWorth ob_row ob_tenDebts ob_tenMany ob_fewestBy ob_covered ob_queue ob_cameBy ob_parent ob_met ob_calls ob_callMany ob_calledOn ob_saved ob_many ob_width ob_numbers ob_moving), (ce_i4 y ob_many fob_many), (ce_i4 y ob_width fob_width), (ce_l240 y ob_numbers fob_numbers), (ce_l60 y ob_moving fob_moving)] sz)) (va_A [(ce_X10 ob ob_thrown ob_world ob_images ob_hasImage ob_tape ob_taped ob_five ob_size ob_at ob_from ob_token ob_value ob_faultKind ob_faultPlace ob_fresh ob_parts ob_houses ob_houseMany ob_worthOf ob_byCall ob_over ob_bestSet ob_bestOver ob_bestWorth ob_row ob_tenDebts ob_tenMany ob_fewestBy ob_covered ob_queue ob_cameBy ob_parent ob_met ob_calls ob_callMany ob_calledOn ob_saved ob_many ob_width ob_numbers ob_moving), (ce_i4 y ob_many fob_many), (ce_i4 y ob_width fob_width), (ce_l240 y ob_numbers fob_numbers), (ce_l60 y ob_moving fob_moving)] sz)) 0 0 (va_A [(ce_X10 ob ob_thrown ob_world ob_images ob_hasImage ob_tape ob_taped ob_five ob_size ob_at ob_from ob_token ob_value ob_faultKind ob_faultPlace ob_fresh ob_parts ob_houses ob_houseMany ob_worthOf ob_byCall ob_over ob_bestSet ob_bestOver ob_bestWorth ob_row ob_tenDebts ob_tenMany ob_fewestBy ob_covered ob_queue ob_cameBy ob_parent ob_met ob_calls ob_callMany ob_calledOn ob_saved ob_many ob_width ob_numbers ob_moving), (ce_i4 y ob_many fob_many), (ce_i4 y ob_width fob_width), (ce_l240 y ob_numbers fob_numbers), (ce_l60 y ob_moving fob_moving)] sz) := by
  refine Met.ofW (cc := cX10_paste) (maxL := 7) (ret := (some .int)) (by decide) rfl ?_
  intro p e s m args below meth c s₁ B hml hv
  obtain ⟨rfl, hsz, hP, hK, hD0⟩ := hv
  have hx := B.exec
  have hb := B.bytes
  have hr := B.returns
  have hw0 : ∀ w ∈ wAll, w.before _ s = true := fun w h => atoms_spec (ws := Cond.code yX10_paste cX10_paste 7 (some .int) :: wAll) B.pre w (List.mem_cons_of_mem _ h)
  have hown : s.vm.findClass RX10 = some m.cls := findClass_of_methodNamed B.named
  subst hsz
  have hD := hD0.self (sz := s.heap.size)
  generalize hAe : va_A [(ce_X10 ob ob_thrown ob_world ob_images ob_hasImage ob_tape ob_taped ob_five ob_size ob_at ob_from ob_token ob_value ob_faultKind ob_faultPlace ob_fresh ob_parts ob_houses ob_houseMany ob_worthOf ob_byCall ob_over ob_bestSet ob_bestOver ob_bestWorth ob_row ob_tenDebts ob_tenMany ob_fewestBy ob_covered ob_queue ob_cameBy ob_parent ob_met ob_calls ob_callMany ob_calledOn ob_saved ob_many ob_width ob_numbers ob_moving), (ce_i4 y ob_many fob_many), (ce_i4 y ob_width fob_width), (ce_l240 y ob_numbers fob_numbers), (ce_l60 y ob_moving fob_moving)] s.heap.size = A at hD ⊢
  have hA : ∀ q : Nat, s.heap.size ≤ q → A q := fun q h => by rw [← hAe]; exact Or.inr h
  have hS : va_S A s.heap s.heap [] := va_S.rf
  have hP : va_P G vwCl [(ce_X10 ob ob_thrown ob_world ob_images ob_hasImage ob_tape ob_taped ob_five ob_size ob_at ob_from ob_token ob_value ob_faultKind ob_faultPlace ob_fresh ob_parts ob_houses ob_houseMany ob_worthOf ob_byCall ob_over ob_bestSet ob_bestOver ob_bestWorth ob_row ob_tenDebts ob_tenMany ob_fewestBy ob_covered ob_queue ob_cameBy ob_parent ob_met ob_calls ob_callMany ob_calledOn ob_saved ob_many ob_width ob_numbers ob_moving), (ce_i4 y ob_many fob_many), (ce_i4 y ob_width fob_width), (ce_l240 y ob_numbers fob_numbers), (ce_l60 y ob_moving fob_moving)] s.heap := hP
  have hl := lv_entry ([.ref ob, .int 3, .int a2, .int 3, .int a4, .int a5]) (n := 7) (Nat.le_of_ble_eq_true rfl)
  rw [lg_entry_eq]
  generalize (lg_sl ([.ref ob, .int 3, .int a2, .int 3, .int a4, .int a5]) ++ List.replicate (7 - (lg_sl ([.ref ob, .int 3, .int a2, .int 3, .int a4, .int a5])).length) Slot.unset).toArray = ls at hl ⊢
  have hl : lv_has ls 7 [(0, .ref ob), (1, .int 3), (2, .int a2), (3, .int 3), (4, .int a4), (5, .int a5)] := hl
  refine lv_iload_n hx hb dX10_paste_0 rfl (lv_at hl 1 rfl) ?_
  refine cSim (As := [.int 3]) (rest := []) ⟨hx, hb, hml, hown, hw0⟩ hA hK hP hD hS [] (gisSlotM l G y _ 3 ) rfl ⟨(callB_of 1 hw0 (gA m_543) rfl rfl rfl (hw0 _ m_41) (hw0 _ m_433) cb_X10_isSlot ⟨Nat.le_of_ble_eq_true rfl, Nat.le_of_ble_eq_true rfl⟩), (hw0 _ m_434)⟩ rfl hl.1 (Nat.le_of_ble_eq_true rfl) dX10_paste_1 ⟨Nat.le_of_ble_eq_true rfl, Nat.le_of_ble_eq_true rfl⟩ (fun r_1001 w_1001 H locs hw_1001 hP hD hS => ?_)
  rcases hw_1001 with ⟨h_1002, rfl, rfl⟩ | ⟨h_1003, h_1004, rfl, rfl⟩
  · skip
    exact False.elim (by have h9 : Int32.toInt 3 = 3 := (by decide); omega)
  · skip
    obtain ⟨hP, hD⟩ : vPD G A H [(ce_X10 ob ob_thrown ob_world ob_images ob_hasImage ob_tape ob_taped ob_five ob_size ob_at ob_from ob_token ob_value ob_faultKind ob_faultPlace ob_fresh ob_parts ob_houses ob_houseMany ob_worthOf ob_byCall ob_over ob_bestSet ob_bestOver ob_bestWorth ob_row ob_tenDebts ob_tenMany ob_fewestBy ob_covered ob_queue ob_cameBy ob_parent ob_met ob_calls ob_callMany ob_calledOn ob_saved ob_many ob_width ob_numbers ob_moving), (ce_i4 y ob_many fob_many), (ce_i4 y ob_width fob_width), (ce_l240 y ob_numbers fob_numbers), (ce_l60 y ob_moving fob_moving)] := ⟨hP, hD⟩
    refine lv_if_eq (tgt := 14) hx hb dX10_paste_4 (by decide) (fun c9 => absurd c9 (by decide)) (fun _ => ?_)
    refine lv_iload_n hx hb dX10_paste_7 rfl (lv_at hl 3 rfl) ?_
    refine cSim (As := [.int 3]) (rest := []) ⟨hx, hb, hml, hown, hw0⟩ hA hK hP hD hS [] (gisSlotM l G y _ 3 ) rfl ⟨(callB_of 1 hw0 (gA m_543) rfl rfl rfl (hw0 _ m_41) (hw0 _ m_433) cb_X10_isSlot ⟨Nat.le_of_ble_eq_true rfl, Nat.le_of_ble_eq_true rfl⟩), (hw0 _ m_434)⟩ rfl hl.1 (Nat.le_of_ble_eq_true rfl) dX10_paste_8 ⟨Nat.le_of_ble_eq_true rfl, Nat.le_of_ble_eq_true rfl⟩ (fun r_1005 w_1005 H locs hw_1005 hP hD hS => ?_)
    rcases hw_1005 with ⟨h_1006, rfl, rfl⟩ | ⟨h_1007, h_1008, rfl, rfl⟩
    · skip
      exact False.elim (by have h9 : Int32.toInt 3 = 3 := (by decide); omega)
    · skip
      obtain ⟨hP, hD⟩ : vPD G A H [(ce_X10 ob ob_thrown ob_world ob_images ob_hasImage ob_tape ob_taped ob_five ob_size ob_at ob_from ob_token ob_value ob_faultKind ob_faultPlace ob_fresh ob_parts ob_houses ob_houseMany ob_worthOf ob_byCall ob_over ob_bestSet ob_bestOver ob_bestWorth ob_row ob_tenDebts ob_tenMany ob_fewestBy ob_covered ob_queue ob_cameBy ob_parent ob_met ob_calls ob_callMany ob_calledOn ob_saved ob_many ob_width ob_numbers ob_moving), (ce_i4 y ob_many fob_many), (ce_i4 y ob_width fob_width), (ce_l240 y ob_numbers fob_numbers), (ce_l60 y ob_moving fob_moving)] := ⟨hP, hD⟩
      refine lv_if_ne (tgt := 17) hx hb dX10_paste_11 (by decide) (fun _ => ?_) (fun c9 => absurd c9 (by decide))
      refine lv_aload_n hx hb dX10_paste_17 rfl (lv_at hl 0 rfl) ?_
      refine va_get (D := G) (ci := 10) (v := .ref ob_many) (C := RX10) (T := TX10) (N := 41) hx hb hw0 inA_wsX100 hown hK.1 hP 0 rfl rfl 37 (by decide) (hw0 _ m_406) (fun _ h9 => h9) rfl dX10_paste_18 ?_
      refine lv_iload_n hx hb dX10_paste_21 rfl (lv_at hl 1 rfl) ?_
      refine va_iald hx hb hK.1 hP 1 1 rfl rfl (vi (bkc (x := 3) (c := 3) (by decide)) (by decide)) dX10_paste_22 ?_
      refine lv_topi (fun v_1009 ev_1009 => ?_)
      have bv_1009 : (-1 : Int) ≤ v_1009.toInt ∧ v_1009.toInt ≤ 60 := rd_b ev_1009 p_fob_many
      have yv_1009 : v_1009.toInt = (fob_many 3).toInt := congrArg Int32.toInt ev_1009
      refine lv_iconst (v := (-1)) hx hb dX10_paste_23 (by decide) ?_
      refine lv_icmp_eq (tgt := 37) hx hb dX10_paste_24 (by decide) (fun c_1010 => ?_) (fun c_1010 => ?_)
      · skip
        have nc_1010 := nb_eq (-1) (-1) c_1010 bv_1009 (bkc (x := (-1)) (c := -1) (by decide)) (by decide)
        refine lv_bipush (v := (-6)) hx hb dX10_paste_37 (by decide) ?_
        exact W.iret (v := (-6)) hx hb hr (fun t ht hW => ⟨⟨(-6), _, rfl, Or.inl (⟨by have h90 : Int32.toInt (-6) = -6 := (by decide); have h91 : Int32.toInt 3 = 3 := (by decide); omega, rfl, rfl⟩), by rw [ht]; exact hP, hD⟩, hS.F ht⟩) hS.2.2 dX10_paste_39
      · skip
        have nc_1010 := nb_ne (0) (60) c_1010 bv_1009 (k := -1) (by decide) (by decide)
        refine lv_aload_n hx hb dX10_paste_27 rfl (lv_at hl 0 rfl) ?_
        refine va_get (D := G) (ci := 10) (v := .ref ob_many) (C := RX10) (T := TX10) (N := 41) hx hb hw0 inA_wsX100 hown hK.1 hP 0 rfl rfl 37 (by decide) (hw0 _ m_406) (fun _ h9 => h9) rfl dX10_paste_28 ?_
        refine lv_iload_n hx hb dX10_paste_31 rfl (lv_at hl 3 rfl) ?_
        refine va_iald hx hb hK.1 hP 1 1 rfl rfl (vi (bkc (x := 3) (c := 3) (by decide)) (by decide)) dX10_paste_32 ?_
        refine lv_topi (fun v_1011 ev_1011 => ?_)
        obtain rfl : v_1009 = v_1011 := (ev_1011.trans (ev_1009.symm)).symm
        refine lv_iconst (v := (-1)) hx hb dX10_paste_33 (by decide) ?_
        refine lv_icmp_ne (tgt := 40) hx hb dX10_paste_34 (by decide) (fun _ => ?_) (fun c9 => absurd c9 (dc_neq nc_1010.1 (bkc (x := (-1)) (c := -1) (by decide)) (by decide)))
        refine lv_aload_n hx hb dX10_paste_40 rfl (lv_at hl 0 rfl) ?_
        refine va_get (D := G) (ci := 10) (v := .ref ob_width) (C := RX10) (T := TX10) (N := 41) hx hb hw0 inA_wsX100 hown hK.1 hP 0 rfl rfl 38 (by decide) (hw0 _ m_527) (fun _ h9 => h9) rfl dX10_paste_41 ?_
        refine lv_iload_n hx hb dX10_paste_44 rfl (lv_at hl 1 rfl) ?_
        refine va_iald hx hb hK.1 hP 2 1 rfl rfl (vi (bkc (x := 3) (c := 3) (by decide)) (by decide)) dX10_paste_45 ?_
        refine lv_topi (fun v_1012 ev_1012 => ?_)
        have bv_1012 : (0 : Int) ≤ v_1012.toInt ∧ v_1012.toInt ≤ 3 := rd_b ev_1012 p_fob_width
        have yv_1012 : v_1012.toInt = (fob_width 3).toInt := congrArg Int32.toInt ev_1012
        refine lv_aload_n hx hb dX10_paste_46 rfl (lv_at hl 0 rfl) ?_
        refine va_get (D := G) (ci := 10) (v := .ref ob_width) (C := RX10) (T := TX10) (N := 41) hx hb hw0 inA_wsX100 hown hK.1 hP 0 rfl rfl 38 (by decide) (hw0 _ m_527) (fun _ h9 => h9) rfl dX10_paste_47 ?_
        refine lv_iload_n hx hb dX10_paste_50 rfl (lv_at hl 3 rfl) ?_
        refine va_iald hx hb hK.1 hP 2 1 rfl rfl (vi (bkc (x := 3) (c := 3) (by decide)) (by decide)) dX10_paste_51 ?_
        refine lv_topi (fun v_1013 ev_1013 => ?_)
        obtain rfl : v_1012 = v_1013 := (ev_1013.trans (ev_1012.symm)).symm
        refine lv_icmp_eq (tgt := 58) hx hb dX10_paste_52 (by decide) (fun _ => ?_) (fun c9 => absurd (rfl) c9)
        refine lv_iload_n hx hb dX10_paste_58 rfl (lv_at hl 2 rfl) ?_
        refine lv_if_lt (tgt := 107) hx hb dX10_paste_59 (by decide) (fun c_1014 => ?_) (fun c_1014 => ?_)
        · skip
          have nc_1014 := nb_lt (-1) (0) c_1014 (btop a2) (bkc (x := 0) (c := 0) (by decide)) (by decide)
          refine lv_bipush (v := (-7)) hx hb dX10_paste_107 (by decide) ?_
          exact W.iret (v := (-7)) hx hb hr (fun t ht hW => ⟨⟨(-7), _, rfl, Or.inr (Or.inl (⟨by have h90 : Int32.toInt (-7) = -7 := (by decide); have h91 : Int32.toInt 3 = 3 := (by decide); omega, rfl, rfl⟩)), by rw [ht]; exact hP, hD⟩, hS.F ht⟩) hS.2.2 dX10_paste_109
        · skip
          have nc_1014 := nb_nlt (0) (0) c_1014 (bkc (x := 0) (c := 0) (by decide)) (btop a2) (by decide)
          refine lv_iload hx hb dX10_paste_62 (lv_at hl 4 rfl) ?_
          refine lv_if_lt (tgt := 107) hx hb dX10_paste_64 (by decide) (fun c_1015 => ?_) (fun c_1015 => ?_)
          · skip
            have nc_1015 := nb_lt (-1) (0) c_1015 (btop a4) (bkc (x := 0) (c := 0) (by decide)) (by decide)
            refine lv_bipush (v := (-7)) hx hb dX10_paste_107 (by decide) ?_
            exact W.iret (v := (-7)) hx hb hr (fun t ht hW => ⟨⟨(-7), _, rfl, Or.inr (Or.inl (⟨by have h90 : Int32.toInt (-7) = -7 := (by decide); have h91 : Int32.toInt 3 = 3 := (by decide); omega, rfl, rfl⟩)), by rw [ht]; exact hP, hD⟩, hS.F ht⟩) hS.2.2 dX10_paste_109
          · skip
            have nc_1015 := nb_nlt (0) (0) c_1015 (bkc (x := 0) (c := 0) (by decide)) (btop a4) (by decide)
            refine lv_iload hx hb dX10_paste_67 (lv_at hl 5 rfl) ?_
            refine lv_if_lt (tgt := 107) hx hb dX10_paste_69 (by decide) (fun c_1016 => ?_) (fun c_1016 => ?_)
            · skip
              have nc_1016 := nb_lt (-1) (0) c_1016 (btop a5) (bkc (x := 0) (c := 0) (by decide)) (by decide)
              refine lv_bipush (v := (-7)) hx hb dX10_paste_107 (by decide) ?_
              exact W.iret (v := (-7)) hx hb hr (fun t ht hW => ⟨⟨(-7), _, rfl, Or.inr (Or.inl (⟨by have h90 : Int32.toInt (-7) = -7 := (by decide); have h91 : Int32.toInt 3 = 3 := (by decide); omega, rfl, rfl⟩)), by rw [ht]; exact hP, hD⟩, hS.F ht⟩) hS.2.2 dX10_paste_109
            · skip
              have nc_1016 := nb_nlt (0) (0) c_1016 (bkc (x := 0) (c := 0) (by decide)) (btop a5) (by decide)
              refine lv_iload_n hx hb dX10_paste_72 rfl (lv_at hl 2 rfl) ?_
              refine lv_i2l hx hb dX10_paste_73 rfl ?_
              have kk_1017 : ((a2).toInt64).toInt = (a2).toInt := Int32.toInt_toInt64 _
              refine lv_iload hx hb dX10_paste_74 (lv_at hl 5 rfl) ?_
              refine lv_i2l hx hb dX10_paste_76 rfl ?_
              have kk_1018 : ((a5).toInt64).toInt = (a5).toInt := Int32.toInt_toInt64 _
              refine lv_ladd hx hb dX10_paste_77 ?_
              refine lv_topl (fun v_1019 ev_1019 => ?_)
              have qv_1019 := la_add ev_1019
              refine lv_aload_n hx hb dX10_paste_78 rfl (lv_at hl 0 rfl) ?_
              refine va_get (D := G) (ci := 10) (v := .ref ob_many) (C := RX10) (T := TX10) (N := 41) hx hb hw0 inA_wsX100 hown hK.1 hP 0 rfl rfl 37 (by decide) (hw0 _ m_406) (fun _ h9 => h9) rfl dX10_paste_79 ?_
              refine lv_iload_n hx hb dX10_paste_82 rfl (lv_at hl 1 rfl) ?_
              refine va_iald hx hb hK.1 hP 1 1 rfl rfl (vi (bkc (x := 3) (c := 3) (by decide)) (by decide)) dX10_paste_83 ?_
              refine lv_topi (fun v_1020 ev_1020 => ?_)
              obtain rfl : v_1009 = v_1020 := (ev_1020.trans (ev_1009.symm)).symm
              refine lv_i2l hx hb dX10_paste_84 rfl ?_
              have kk_1021 : ((v_1009).toInt64).toInt = (v_1009).toInt := Int32.toInt_toInt64 _
              refine W.lcmp hx hb dX10_paste_85 ?_
              refine lv_if_gt (tgt := 107) hx hb dX10_paste_86 (by decide) (fun c_1022 => ?_) (fun c_1022 => ?_)
              · skip
                have nc_1022 := jl_gt c_1022
                refine lv_bipush (v := (-7)) hx hb dX10_paste_107 (by decide) ?_
                exact W.iret (v := (-7)) hx hb hr (fun t ht hW => ⟨⟨(-7), _, rfl, Or.inr (Or.inl (⟨by have h90 : Int32.toInt (-7) = -7 := (by decide); have h91 : Int32.toInt 3 = 3 := (by decide); omega, rfl, rfl⟩)), by rw [ht]; exact hP, hD⟩, hS.F ht⟩) hS.2.2 dX10_paste_109
              · skip
                have nc_1022 := jl_ngt c_1022
                refine lv_iload hx hb dX10_paste_89 (lv_at hl 4 rfl) ?_
                refine lv_i2l hx hb dX10_paste_91 rfl ?_
                have kk_1023 : ((a4).toInt64).toInt = (a4).toInt := Int32.toInt_toInt64 _
                refine lv_iload hx hb dX10_paste_92 (lv_at hl 5 rfl) ?_
                refine lv_i2l hx hb dX10_paste_94 rfl ?_
                have kk_1024 : ((a5).toInt64).toInt = (a5).toInt := Int32.toInt_toInt64 _
                refine lv_ladd hx hb dX10_paste_95 ?_
                refine lv_topl (fun v_1025 ev_1025 => ?_)
                have qv_1025 := la_add ev_1025
                refine lv_aload_n hx hb dX10_paste_96 rfl (lv_at hl 0 rfl) ?_
                refine va_get (D := G) (ci := 10) (v := .ref ob_many) (C := RX10) (T := TX10) (N := 41) hx hb hw0 inA_wsX100 hown hK.1 hP 0 rfl rfl 37 (by decide) (hw0 _ m_406) (fun _ h9 => h9) rfl dX10_paste_97 ?_
                refine lv_iload_n hx hb dX10_paste_100 rfl (lv_at hl 3 rfl) ?_
                refine va_iald hx hb hK.1 hP 1 1 rfl rfl (vi (bkc (x := 3) (c := 3) (by decide)) (by decide)) dX10_paste_101 ?_
                refine lv_topi (fun v_1026 ev_1026 => ?_)
                obtain rfl : v_1009 = v_1026 := (ev_1026.trans (ev_1009.symm)).symm
                refine lv_i2l hx hb dX10_paste_102 rfl ?_
                have kk_1027 : ((v_1009).toInt64).toInt = (v_1009).toInt := Int32.toInt_toInt64 _
                refine W.lcmp hx hb dX10_paste_103 ?_
                refine lv_if_le (tgt := 110) hx hb dX10_paste_104 (by decide) (fun c_1028 => ?_) (fun c_1028 => ?_)
                · skip
                  have nc_1028 := jl_le c_1028
                  have h_1029 : (0 : Int) ≤ a2.toInt ∧ a2.toInt ≤ 60 := by omega
                  have h_1030 : (0 : Int) ≤ a4.toInt ∧ a4.toInt ≤ 60 := by omega
                  have h_1031 : (0 : Int) ≤ a5.toInt ∧ a5.toInt ≤ 60 := by omega
                  refine lv_iconst (v := 0) hx hb dX10_paste_110 (by decide) ?_
                  refine lv_istore (lv' := [(6, .int 0), (0, .ref ob), (1, .int 3), (2, .int a2), (3, .int 3), (4, .int a4), (5, .int a5)]) hx hb dX10_paste_111 hl (by decide) rfl (fun ls hl => ?_)
                  refine loopX (fun n H locs ls st => ∃ (v_1059 : Int32) (f_1060 : Nat → Int64), (60 - v_1059.toInt).toNat = n ∧ ((0 : Int) ≤ v_1059.toInt ∧ v_1059.toInt ≤ 60) ∧ (mL f_1060 fob_numbers (180 + a2.toInt.toNat) v_1059.toInt) ∧ st = [] ∧ vPD G A H [(ce_X10 ob ob_thrown ob_world ob_images ob_hasImage ob_tape ob_taped ob_five ob_size ob_at ob_from ob_token ob_value ob_faultKind ob_faultPlace ob_fresh ob_parts ob_houses ob_houseMany ob_worthOf ob_byCall ob_over ob_bestSet ob_bestOver ob_bestWorth ob_row ob_tenDebts ob_tenMany ob_fewestBy ob_covered ob_queue ob_cameBy ob_parent ob_met ob_calls ob_callMany ob_calledOn ob_saved ob_many ob_width ob_numbers ob_moving), (ce_i4 y ob_many fob_many), (ce_i4 y ob_width fob_width), (ce_l240 y ob_numbers fob_numbers), (ce_l60 y ob_moving f_1060)] ∧ va_S A s.heap H locs ∧ lv_has ls 7 [(6, .int v_1059), (0, .ref ob), (1, .int 3), (2, .int a2), (3, .int 3), (4, .int a4), (5, .int a5)]) ?_ (n := (60 - (0 : Int32).toInt).toNat) ⟨0, fob_moving, rfl, (bw (0) (60) (bkc (x := 0) (c := 0) (by decide)) (by decide)), (ml_0 (by have h90 : Int32.toInt 0 = 0 := (by decide); have h91 : Int32.toInt 3 = 3 := (by decide); omega)), rfl, ⟨hP, hD⟩, hS, lv_sub hl [0, 1, 2, 3, 4, 5, 6] rfl⟩
                  rintro n ih_1068 H locs ls st ⟨v_1059, f_1060, hn_1068, bv_1059, rl1060_0, rfl, ⟨hP, hD⟩, hS, hl⟩
                  refine lv_iload hx hb dX10_paste_113 (lv_at hl 0 rfl) ?_
                  refine lv_iload hx hb dX10_paste_115 (lv_at hl 6 rfl) ?_
                  refine lv_icmp_ge (tgt := 147) hx hb dX10_paste_117 (by decide) (fun c_1069 => ?_) (fun c_1069 => ?_)
                  · skip
                    have nc_1069 := nb_le (60) (0) c_1069 h_1031 bv_1059 (by decide)
                    refine lv_iconst (v := 0) hx hb dX10_paste_147 (by decide) ?_
                    refine lv_istore (lv' := [(6, .int 0), (0, .ref ob), (1, .int 3), (2, .int a2), (3, .int 3), (4, .int a4), (5, .int a5)]) hx hb dX10_paste_148 hl (by decide) rfl (fun ls hl => ?_)
                    refine loopX (fun n H locs ls st => ∃ (v_1097 : Int32) (f_1098 : Nat → Int64), (60 - v_1097.toInt).toNat = n ∧ ((0 : Int) ≤ v_1097.toInt ∧ v_1097.toInt ≤ 60) ∧ (nL f_1098 fob_numbers f_1060 (180 + a4.toInt.toNat) v_1097.toInt) ∧ (v_1097.toInt ≤ a5.toInt) ∧ st = [] ∧ vPD G A H [(ce_X10 ob ob_thrown ob_world ob_images ob_hasImage ob_tape ob_taped ob_five ob_size ob_at ob_from ob_token ob_value ob_faultKind ob_faultPlace ob_fresh ob_parts ob_houses ob_houseMany ob_worthOf ob_byCall ob_over ob_bestSet ob_bestOver ob_bestWorth ob_row ob_tenDebts ob_tenMany ob_fewestBy ob_covered ob_queue ob_cameBy ob_parent ob_met ob_calls ob_callMany ob_calledOn ob_saved ob_many ob_width ob_numbers ob_moving), (ce_i4 y ob_many fob_many), (ce_i4 y ob_width fob_width), (ce_l240 y ob_numbers f_1098), (ce_l60 y ob_moving f_1060)] ∧ va_S A s.heap H locs ∧ lv_has ls 7 [(6, .int v_1097), (0, .ref ob), (3, .int 3), (4, .int a4), (5, .int a5)]) ?_ (n := (60 - (0 : Int32).toInt).toNat) ⟨0, fob_numbers, rfl, (bw (0) (60) (bkc (x := 0) (c := 0) (by decide)) (by decide)), (nl_0 (by have h90 : Int32.toInt 0 = 0 := (by decide); have h91 : Int32.toInt 3 = 3 := (by decide); omega)), (by have h90 : Int32.toInt 0 = 0 := (by decide); omega), rfl, ⟨hP, hD⟩, hS, lv_sub hl [0, 1, 4, 5, 6] rfl⟩
                    rintro n ih_1106 H locs ls st ⟨v_1097, f_1098, hn_1106, bv_1097, rl1098_0, rl1098_1, rfl, ⟨hP, hD⟩, hS, hl⟩
                    refine lv_iload hx hb dX10_paste_150 (lv_at hl 0 rfl) ?_
                    refine lv_iload hx hb dX10_paste_152 (lv_at hl 4 rfl) ?_
                    refine lv_icmp_ge (tgt := 185) hx hb dX10_paste_154 (by decide) (fun c_1107 => ?_) (fun c_1107 => ?_)
                    · skip
                      have nc_1107 := nb_le (60) (0) c_1107 nc_1069.1 bv_1097 (by decide)
                      refine lv_iconst (v := 0) hx hb dX10_paste_185 (by decide) ?_
                      exact W.iret (v := 0) hx hb hr (fun t ht hW => ⟨⟨0, _, rfl, Or.inr (Or.inr (⟨f_1098, f_1060, h_1029, h_1030, nc_1107.1, by have h90 : Int32.toInt 0 = 0 := (by decide); have h91 : Int32.toInt 3 = 3 := (by decide); omega, (pl_e rl1060_0 rl1098_0 (by omega) (by omega)), rfl, rfl⟩)), by rw [ht]; exact hP, hD⟩, hS.F ht⟩) hS.2.2 dX10_paste_186
                    · skip
                      have nc_1107 := nb_nle (59) (1) c_1107 bv_1097 nc_1069.1 (by decide)
                      refine lv_aload_n hx hb dX10_paste_157 rfl (lv_at hl 1 rfl) ?_
                      refine va_get (D := G) (ci := 10) (v := .ref ob_numbers) (C := RX10) (T := TX10) (N := 41) hx hb hw0 inA_wsX100 hown hK.1 hP 0 rfl rfl 39 (by decide) (hw0 _ m_435) (fun _ h9 => h9) rfl dX10_paste_158 ?_
                      refine lv_bipush (v := 60) hx hb dX10_paste_161 (by decide) ?_
                      refine lv_iload_n hx hb dX10_paste_163 rfl (lv_at hl 2 rfl) ?_
                      refine lv_imul hx hb dX10_paste_164 ?_
                      refine lv_topi (fun v_1108 ev_1108 => ?_)
                      obtain rfl : 180 = v_1108 := (ev_1108.trans (by decide)).symm
                      refine lv_iload hx hb dX10_paste_165 (lv_at hl 3 rfl) ?_
                      refine lv_iadd hx hb dX10_paste_167 ?_
                      refine lv_topi (fun v_1109 ev_1109 => ?_)
                      have qv_1109 := ba_add ev_1109 (bkc (x := 180) (c := 180) (by decide)) h_1030 (by decide)
                      have bv_1109 : (180 : Int) ≤ v_1109.toInt ∧ v_1109.toInt ≤ 240 := bq_add qv_1109 (bkc (x := 180) (c := 180) (by decide)) h_1030 _ _ (by decide)
                      have qv_1109 : v_1109.toInt = (180) + a4.toInt := qv_1109
                      refine lv_iload hx hb dX10_paste_168 (lv_at hl 0 rfl) ?_
                      refine lv_iadd hx hb dX10_paste_170 ?_
                      refine lv_topi (fun v_1110 ev_1110 => ?_)
                      have qv_1110 := ba_add ev_1110 bv_1109 nc_1107.1 (by decide)
                      have bv_1110 : (180 : Int) ≤ v_1110.toInt ∧ v_1110.toInt ≤ 299 := bq_add qv_1110 bv_1109 nc_1107.1 _ _ (by decide)
                      have h_1111 : (0 : Int) ≤ v_1110.toInt ∧ v_1110.toInt ≤ 239 := by omega
                      refine lv_aload_n hx hb dX10_paste_171 rfl (lv_at hl 1 rfl) ?_
                      refine va_get (D := G) (ci := 10) (v := .ref ob_moving) (C := RX10) (T := TX10) (N := 41) hx hb hw0 inA_wsX100 hown hK.1 hP 0 rfl rfl 40 (by decide) (hw0 _ m_529) (fun _ h9 => h9) rfl dX10_paste_172 ?_
                      refine lv_iload hx hb dX10_paste_175 (lv_at hl 0 rfl) ?_
                      refine va_lald hx hb hK.1 hP 4 2 rfl rfl (vi nc_1107.1 (by decide)) dX10_paste_177 ?_
                      refine lv_topl (fun v_1112 ev_1112 => ?_)
                      refine va_last hx hb hK.1 hP hD hS 3 2 rfl rfl (vi h_1111 (by decide)) dX10_paste_178 (fun H locs hP hD hS => ?_)
                      generalize hf_1113 : (vp_updL f_1098 (v_1110 : Int32).toNatClampNeg v_1112) = f_1113 at hP hD
                      obtain ⟨hP, hD⟩ : vPD G A H [(ce_X10 ob ob_thrown ob_world ob_images ob_hasImage ob_tape ob_taped ob_five ob_size ob_at ob_from ob_token ob_value ob_faultKind ob_faultPlace ob_fresh ob_parts ob_houses ob_houseMany ob_worthOf ob_byCall ob_over ob_bestSet ob_bestOver ob_bestWorth ob_row ob_tenDebts ob_tenMany ob_fewestBy ob_covered ob_queue ob_cameBy ob_parent ob_met ob_calls ob_callMany ob_calledOn ob_saved ob_many ob_width ob_numbers ob_moving), (ce_i4 y ob_many fob_many), (ce_i4 y ob_width fob_width), (ce_l240 y ob_numbers f_1113), (ce_l60 y ob_moving f_1060)] := ⟨hP, hD⟩
                      obtain ⟨v_1114, ev_1114⟩ : ∃ z : Int32, z = v_1097 + 1 := ⟨_, rfl⟩
                      have qv_1114 := ba_add ev_1114 nc_1107.1 (bkc (x := 1) (c := 1) (by decide)) (by decide)
                      have bv_1114 : (1 : Int) ≤ v_1114.toInt ∧ v_1114.toInt ≤ 60 := bq_add qv_1114 nc_1107.1 (bkc (x := 1) (c := 1) (by decide)) _ _ (by decide)
                      have qv_1114 : v_1114.toInt = v_1097.toInt + (1) := qv_1114
                      refine lv_iinc (v := v_1114) (lv' := [(6, .int v_1114), (0, .ref ob), (3, .int 3), (4, .int a4), (5, .int a5)]) hx hb dX10_paste_179 hl (k := 0) rfl (ev_1114.symm) (by decide) rfl (fun ls hl => ?_)
                      refine lv_goto (tgt := 150) hx hb dX10_paste_182 (by decide) ?_
                      exact ih_1106 _ (ml_inc (hi := 60) hn_1106 qv_1114 (by decide) ((bw (0) (60) bv_1114 (by decide))).2) _ _ _ _ ⟨v_1114, f_1113, rfl, (bw (0) (60) bv_1114 (by decide)), (nl_s rl1098_0 hf_1113 ev_1112 (by omega) (by omega) (by omega) (by omega)), (by omega), rfl, ⟨hP, hD⟩, hS, lv_sub hl [0, 1, 2, 3, 4] rfl⟩
                  · skip
                    have nc_1069 := nb_nle (59) (1) c_1069 bv_1059 h_1031 (by decide)
                    refine lv_aload_n hx hb dX10_paste_120 rfl (lv_at hl 1 rfl) ?_
                    refine va_get (D := G) (ci := 10) (v := .ref ob_moving) (C := RX10) (T := TX10) (N := 41) hx hb hw0 inA_wsX100 hown hK.1 hP 0 rfl rfl 40 (by decide) (hw0 _ m_529) (fun _ h9 => h9) rfl dX10_paste_121 ?_
                    refine lv_iload hx hb dX10_paste_124 (lv_at hl 0 rfl) ?_
                    refine lv_aload_n hx hb dX10_paste_126 rfl (lv_at hl 1 rfl) ?_
                    refine va_get (D := G) (ci := 10) (v := .ref ob_numbers) (C := RX10) (T := TX10) (N := 41) hx hb hw0 inA_wsX100 hown hK.1 hP 0 rfl rfl 39 (by decide) (hw0 _ m_435) (fun _ h9 => h9) rfl dX10_paste_127 ?_
                    refine lv_bipush (v := 60) hx hb dX10_paste_130 (by decide) ?_
                    refine lv_iload_n hx hb dX10_paste_132 rfl (lv_at hl 2 rfl) ?_
                    refine lv_imul hx hb dX10_paste_133 ?_
                    refine lv_topi (fun v_1115 ev_1115 => ?_)
                    obtain rfl : 180 = v_1115 := (ev_1115.trans (by decide)).symm
                    refine lv_iload_n hx hb dX10_paste_134 rfl (lv_at hl 3 rfl) ?_
                    refine lv_iadd hx hb dX10_paste_135 ?_
                    refine lv_topi (fun v_1116 ev_1116 => ?_)
                    have qv_1116 := ba_add ev_1116 (bkc (x := 180) (c := 180) (by decide)) h_1029 (by decide)
                    have bv_1116 : (180 : Int) ≤ v_1116.toInt ∧ v_1116.toInt ≤ 240 := bq_add qv_1116 (bkc (x := 180) (c := 180) (by decide)) h_1029 _ _ (by decide)
                    have qv_1116 : v_1116.toInt = (180) + a2.toInt := qv_1116
                    refine lv_iload hx hb dX10_paste_136 (lv_at hl 0 rfl) ?_
                    refine lv_iadd hx hb dX10_paste_138 ?_
                    refine lv_topi (fun v_1117 ev_1117 => ?_)
                    have qv_1117 := ba_add ev_1117 bv_1116 nc_1069.1 (by decide)
                    have bv_1117 : (180 : Int) ≤ v_1117.toInt ∧ v_1117.toInt ≤ 299 := bq_add qv_1117 bv_1116 nc_1069.1 _ _ (by decide)
                    have h_1118 : (0 : Int) ≤ v_1117.toInt ∧ v_1117.toInt ≤ 239 := by omega
                    refine va_lald hx hb hK.1 hP 3 2 rfl rfl (vi h_1118 (by decide)) dX10_paste_139 ?_
                    refine lv_topl (fun v_1119 ev_1119 => ?_)
                    refine va_last hx hb hK.1 hP hD hS 4 2 rfl rfl (vi nc_1069.1 (by decide)) dX10_paste_140 (fun H locs hP hD hS => ?_)
                    generalize hf_1120 : (vp_updL f_1060 (v_1059 : Int32).toNatClampNeg v_1119) = f_1120 at hP hD
                    obtain ⟨hP, hD⟩ : vPD G A H [(ce_X10 ob ob_thrown ob_world ob_images ob_hasImage ob_tape ob_taped ob_five ob_size ob_at ob_from ob_token ob_value ob_faultKind ob_faultPlace ob_fresh ob_parts ob_houses ob_houseMany ob_worthOf ob_byCall ob_over ob_bestSet ob_bestOver ob_bestWorth ob_row ob_tenDebts ob_tenMany ob_fewestBy ob_covered ob_queue ob_cameBy ob_parent ob_met ob_calls ob_callMany ob_calledOn ob_saved ob_many ob_width ob_numbers ob_moving), (ce_i4 y ob_many fob_many), (ce_i4 y ob_width fob_width), (ce_l240 y ob_numbers fob_numbers), (ce_l60 y ob_moving f_1120)] := ⟨hP, hD⟩
                    obtain ⟨v_1121, ev_1121⟩ : ∃ z : Int32, z = v_1059 + 1 := ⟨_, rfl⟩
                    have qv_1121 := ba_add ev_1121 nc_1069.1 (bkc (x := 1) (c := 1) (by decide)) (by decide)
                    have bv_1121 : (1 : Int) ≤ v_1121.toInt ∧ v_1121.toInt ≤ 60 := bq_add qv_1121 nc_1069.1 (bkc (x := 1) (c := 1) (by decide)) _ _ (by decide)
                    have qv_1121 : v_1121.toInt = v_1059.toInt + (1) := qv_1121
                    refine lv_iinc (v := v_1121) (lv' := [(6, .int v_1121), (0, .ref ob), (1, .int 3), (2, .int a2), (3, .int 3), (4, .int a4), (5, .int a5)]) hx hb dX10_paste_141 hl (k := 0) rfl (ev_1121.symm) (by decide) rfl (fun ls hl => ?_)
                    refine lv_goto (tgt := 113) hx hb dX10_paste_144 (by decide) ?_
                    exact ih_1068 _ (ml_inc (hi := 60) hn_1068 qv_1121 (by decide) ((bw (0) (60) bv_1121 (by decide))).2) _ _ _ _ ⟨v_1121, f_1120, rfl, (bw (0) (60) bv_1121 (by decide)), (ml_s rl1060_0 hf_1120 ev_1119 (by omega) (by omega) (by omega) (by omega)), rfl, ⟨hP, hD⟩, hS, lv_sub hl [0, 1, 2, 3, 4, 5, 6] rfl⟩
                · skip
                  have nc_1028 := jl_nle c_1028
                  refine lv_bipush (v := (-7)) hx hb dX10_paste_107 (by decide) ?_
                  exact W.iret (v := (-7)) hx hb hr (fun t ht hW => ⟨⟨(-7), _, rfl, Or.inr (Or.inl (⟨by have h90 : Int32.toInt (-7) = -7 := (by decide); have h91 : Int32.toInt 3 = 3 := (by decide); omega, rfl, rfl⟩)), by rw [ht]; exact hP, hD⟩, hS.F ht⟩) hS.2.2 dX10_paste_109

set_option maxHeartbeats 4000000 in
set_option maxRecDepth 100000 in
theorem spasteMlo (l : Launch) (G : va_G) (y : Nat → ClassId) (sz : Nat) (ob : Nat) (a1 : Int32) (a2 : Int32) (a3 : Int32) (a4 : Int32) (a5 : Int32) (ob_thrown : Int32) (ob_world : Nat) (ob_images : Nat) (ob_hasImage : Nat) (ob_tape : Nat) (ob_taped : Int32) (ob_five : Nat) (ob_size : Int32) (ob_at : Int32) (ob_from : Int32) (ob_token : Int32) (ob_value : Int32) (ob_faultKind : Int32) (ob_faultPlace : Int32) (ob_fresh : Nat) (ob_parts : Nat) (ob_houses : Nat) (ob_houseMany : Int32) (ob_worthOf : Nat) (ob_byCall : Nat) (ob_over : Nat) (ob_bestSet : Int32) (ob_bestOver : Int32) (ob_bestWorth : Int32) (ob_row : Nat) (ob_tenDebts : Nat) (ob_tenMany : Int32) (ob_fewestBy : Nat) (ob_covered : Nat) (ob_queue : Nat) (ob_cameBy : Nat) (ob_parent : Nat) (ob_met : Nat) (ob_calls : Nat) (ob_callMany : Int32) (ob_calledOn : Nat) (ob_saved : Nat) (ob_many : Nat) (ob_width : Nat) (ob_numbers : Nat) (ob_moving : Nat) (p_ob_taped : (0 : Int) ≤ ob_taped.toInt ∧ ob_taped.toInt ≤ 1400) (p_ob_size : (0 : Int) ≤ ob_size.toInt ∧ ob_size.toInt ≤ 1400) (p_ob_at : (0 : Int) ≤ ob_at.toInt ∧ ob_at.toInt ≤ 1400) (p_ob_from : (0 : Int) ≤ ob_from.toInt ∧ ob_from.toInt ≤ 1400) (p_ob_token : (0 : Int) ≤ ob_token.toInt ∧ ob_token.toInt ≤ 4) (p_ob_value : (0 : Int) ≤ ob_value.toInt ∧ ob_value.toInt ≤ 9999) (p_ob_faultKind : (0 : Int) ≤ ob_faultKind.toInt ∧ ob_faultKind.toInt ≤ 3) (p_ob_houseMany : (0 : Int) ≤ ob_houseMany.toInt ∧ ob_houseMany.toInt ≤ 10) (p_ob_bestSet : (0 : Int) ≤ ob_bestSet.toInt ∧ ob_bestSet.toInt ≤ 1023) (p_ob_bestOver : (-1 : Int) ≤ ob_bestOver.toInt ∧ ob_bestOver.toInt ≤ 180) (p_ob_tenMany : (0 : Int) ≤ ob_tenMany.toInt ∧ ob_tenMany.toInt ≤ 10) (p_ob_callMany : (0 : Int) ≤ ob_callMany.toInt ∧ ob_callMany.toInt ≤ 16) (p_a1 : (-2147483648 : Int) ≤ a1.toInt ∧ a1.toInt ≤ -1) : Met l yX10_paste (Cond.code yX10_paste cX10_paste 7 (some .int) :: wAll) ({ frames := 2, cells := 0, slots := 0, locals := 45 }) (va_Pc [.ref ob, .int a1, .int a2, .int a3, .int a4, .int a5] (kp G y sz [(ce_X10 ob ob_thrown ob_world ob_images ob_hasImage ob_tape ob_taped ob_five ob_size ob_at ob_from ob_token ob_value ob_faultKind ob_faultPlace ob_fresh ob_parts ob_houses ob_houseMany ob_worthOf ob_byCall ob_over ob_bestSet ob_bestOver ob_bestWorth ob_row ob_tenDebts ob_tenMany ob_fewestBy ob_covered ob_queue ob_cameBy ob_parent ob_met ob_calls ob_callMany ob_calledOn ob_saved ob_many ob_width ob_numbers ob_moving)])) (va_Qi (fun (r : Int32) (w : va_W) => (r = (-2) ∧ w = [(ce_X10 ob ob_thrown ob_world ob_images ob_hasImage ob_tape ob_taped ob_five ob_size ob_at ob_from ob_token ob_value ob_faultKind ob_faultPlace ob_fresh ob_parts ob_houses ob_houseMany ob_worthOf ob_byCall ob_over ob_bestSet ob_bestOver ob_bestWorth ob_row ob_tenDebts ob_tenMany ob_fewestBy ob_covered ob_queue ob_cameBy ob_parent ob_met ob_calls ob_callMany ob_calledOn ob_saved ob_many ob_width ob_numbers ob_moving)])) (kq G (va_A [(ce_X10 ob ob_thrown ob_world ob_images ob_hasImage ob_tape ob_taped ob_five ob_size ob_at ob_from ob_token ob_value ob_faultKind ob_faultPlace ob_fresh ob_parts ob_houses ob_houseMany ob_worthOf ob_byCall ob_over ob_bestSet ob_bestOver ob_bestWorth ob_row ob_tenDebts ob_tenMany ob_fewestBy ob_covered ob_queue ob_cameBy ob_parent ob_met ob_calls ob_callMany ob_calledOn ob_saved ob_many ob_width ob_numbers ob_moving)] sz)) (va_A [(ce_X10 ob ob_thrown ob_world ob_images ob_hasImage ob_tape ob_taped ob_five ob_size ob_at ob_from ob_token ob_value ob_faultKind ob_faultPlace ob_fresh ob_parts ob_houses ob_houseMany ob_worthOf ob_byCall ob_over ob_bestSet ob_bestOver ob_bestWorth ob_row ob_tenDebts ob_tenMany ob_fewestBy ob_covered ob_queue ob_cameBy ob_parent ob_met ob_calls ob_callMany ob_calledOn ob_saved ob_many ob_width ob_numbers ob_moving)] sz)) 0 0 (va_A [(ce_X10 ob ob_thrown ob_world ob_images ob_hasImage ob_tape ob_taped ob_five ob_size ob_at ob_from ob_token ob_value ob_faultKind ob_faultPlace ob_fresh ob_parts ob_houses ob_houseMany ob_worthOf ob_byCall ob_over ob_bestSet ob_bestOver ob_bestWorth ob_row ob_tenDebts ob_tenMany ob_fewestBy ob_covered ob_queue ob_cameBy ob_parent ob_met ob_calls ob_callMany ob_calledOn ob_saved ob_many ob_width ob_numbers ob_moving)] sz) := by
  refine Met.ofW (cc := cX10_paste) (maxL := 7) (ret := (some .int)) (by decide) rfl ?_
  intro p e s m args below meth c s₁ B hml hv
  obtain ⟨rfl, hsz, hP, hK, hD0⟩ := hv
  have hx := B.exec
  have hb := B.bytes
  have hr := B.returns
  have hw0 : ∀ w ∈ wAll, w.before _ s = true := fun w h => atoms_spec (ws := Cond.code yX10_paste cX10_paste 7 (some .int) :: wAll) B.pre w (List.mem_cons_of_mem _ h)
  have hown : s.vm.findClass RX10 = some m.cls := findClass_of_methodNamed B.named
  subst hsz
  have hD := hD0.self (sz := s.heap.size)
  generalize hAe : va_A [(ce_X10 ob ob_thrown ob_world ob_images ob_hasImage ob_tape ob_taped ob_five ob_size ob_at ob_from ob_token ob_value ob_faultKind ob_faultPlace ob_fresh ob_parts ob_houses ob_houseMany ob_worthOf ob_byCall ob_over ob_bestSet ob_bestOver ob_bestWorth ob_row ob_tenDebts ob_tenMany ob_fewestBy ob_covered ob_queue ob_cameBy ob_parent ob_met ob_calls ob_callMany ob_calledOn ob_saved ob_many ob_width ob_numbers ob_moving)] s.heap.size = A at hD ⊢
  have hA : ∀ q : Nat, s.heap.size ≤ q → A q := fun q h => by rw [← hAe]; exact Or.inr h
  have hS : va_S A s.heap s.heap [] := va_S.rf
  have hP : va_P G vwCl [(ce_X10 ob ob_thrown ob_world ob_images ob_hasImage ob_tape ob_taped ob_five ob_size ob_at ob_from ob_token ob_value ob_faultKind ob_faultPlace ob_fresh ob_parts ob_houses ob_houseMany ob_worthOf ob_byCall ob_over ob_bestSet ob_bestOver ob_bestWorth ob_row ob_tenDebts ob_tenMany ob_fewestBy ob_covered ob_queue ob_cameBy ob_parent ob_met ob_calls ob_callMany ob_calledOn ob_saved ob_many ob_width ob_numbers ob_moving)] s.heap := hP
  have hl := lv_entry ([.ref ob, .int a1, .int a2, .int a3, .int a4, .int a5]) (n := 7) (Nat.le_of_ble_eq_true rfl)
  rw [lg_entry_eq]
  generalize (lg_sl ([.ref ob, .int a1, .int a2, .int a3, .int a4, .int a5]) ++ List.replicate (7 - (lg_sl ([.ref ob, .int a1, .int a2, .int a3, .int a4, .int a5])).length) Slot.unset).toArray = ls at hl ⊢
  have hl : lv_has ls 7 [(0, .ref ob), (1, .int a1), (2, .int a2), (3, .int a3), (4, .int a4), (5, .int a5)] := hl
  refine lv_iload_n hx hb dX10_paste_0 rfl (lv_at hl 1 rfl) ?_
  refine cutW 14 (fun H locs ls st => st = [] ∧ vPD G A H [(ce_X10 ob ob_thrown ob_world ob_images ob_hasImage ob_tape ob_taped ob_five ob_size ob_at ob_from ob_token ob_value ob_faultKind ob_faultPlace ob_fresh ob_parts ob_houses ob_houseMany ob_worthOf ob_byCall ob_over ob_bestSet ob_bestOver ob_bestWorth ob_row ob_tenDebts ob_tenMany ob_fewestBy ob_covered ob_queue ob_cameBy ob_parent ob_met ob_calls ob_callMany ob_calledOn ob_saved ob_many ob_width ob_numbers ob_moving)] ∧ va_S A s.heap H locs ∧ lv_has ls 7 []) ?_ (fun J_14_1005 => ?_)
  · rintro H locs ls st ⟨rfl, ⟨hP, hD⟩, hS, hl⟩
    refine lv_bipush (v := (-2)) hx hb dX10_paste_14 (by decide) ?_
    exact W.iret (v := (-2)) hx hb hr (fun t ht hW => ⟨⟨(-2), _, rfl, ⟨rfl, rfl⟩, by rw [ht]; exact hP, hD⟩, hS.F ht⟩) hS.2.2 dX10_paste_16
  · skip
    refine cSim (As := [.int a1]) (rest := []) ⟨hx, hb, hml, hown, hw0⟩ hA hK hP hD hS [] (gisSlotM l G y _ a1 ) rfl ⟨(callB_of 1 hw0 (gA m_543) rfl rfl rfl (hw0 _ m_41) (hw0 _ m_433) cb_X10_isSlot ⟨Nat.le_of_ble_eq_true rfl, Nat.le_of_ble_eq_true rfl⟩), (hw0 _ m_434)⟩ rfl hl.1 (Nat.le_of_ble_eq_true rfl) dX10_paste_1 ⟨Nat.le_of_ble_eq_true rfl, Nat.le_of_ble_eq_true rfl⟩ (fun r_1006 w_1006 H locs hw_1006 hP hD hS => ?_)
    rcases hw_1006 with ⟨h_1007, rfl, rfl⟩ | ⟨h_1008, h_1009, rfl, rfl⟩
    · skip
      obtain ⟨hP, hD⟩ : vPD G A H [(ce_X10 ob ob_thrown ob_world ob_images ob_hasImage ob_tape ob_taped ob_five ob_size ob_at ob_from ob_token ob_value ob_faultKind ob_faultPlace ob_fresh ob_parts ob_houses ob_houseMany ob_worthOf ob_byCall ob_over ob_bestSet ob_bestOver ob_bestWorth ob_row ob_tenDebts ob_tenMany ob_fewestBy ob_covered ob_queue ob_cameBy ob_parent ob_met ob_calls ob_callMany ob_calledOn ob_saved ob_many ob_width ob_numbers ob_moving)] := ⟨hP, hD⟩
      refine lv_if_eq (tgt := 14) hx hb dX10_paste_4 (by decide) (fun _ => ?_) (fun c9 => absurd (by decide) c9)
      exact J_14_1005 _ _ _ _ ⟨rfl, ⟨hP, hD⟩, hS, lv_sub hl [] rfl⟩
    · skip
      have h_1010 := b_in p_a1 h_1008
      exact absurd (Int.le_trans (h_1010).1 (h_1010).2) (by decide)

set_option maxHeartbeats 4000000 in
set_option maxRecDepth 100000 in
theorem spasteMTlo (l : Launch) (G : va_G) (y : Nat → ClassId) (sz : Nat) (ob : Nat) (a1 : Int32) (a2 : Int32) (a3 : Int32) (a4 : Int32) (a5 : Int32) (ob_thrown : Int32) (ob_world : Nat) (ob_images : Nat) (ob_hasImage : Nat) (ob_tape : Nat) (ob_taped : Int32) (ob_five : Nat) (ob_size : Int32) (ob_at : Int32) (ob_from : Int32) (ob_token : Int32) (ob_value : Int32) (ob_faultKind : Int32) (ob_faultPlace : Int32) (ob_fresh : Nat) (ob_parts : Nat) (ob_houses : Nat) (ob_houseMany : Int32) (ob_worthOf : Nat) (ob_byCall : Nat) (ob_over : Nat) (ob_bestSet : Int32) (ob_bestOver : Int32) (ob_bestWorth : Int32) (ob_row : Nat) (ob_tenDebts : Nat) (ob_tenMany : Int32) (ob_fewestBy : Nat) (ob_covered : Nat) (ob_queue : Nat) (ob_cameBy : Nat) (ob_parent : Nat) (ob_met : Nat) (ob_calls : Nat) (ob_callMany : Int32) (ob_calledOn : Nat) (ob_saved : Nat) (ob_many : Nat) (ob_width : Nat) (ob_numbers : Nat) (ob_moving : Nat) (p_ob_taped : (0 : Int) ≤ ob_taped.toInt ∧ ob_taped.toInt ≤ 1400) (p_ob_size : (0 : Int) ≤ ob_size.toInt ∧ ob_size.toInt ≤ 1400) (p_ob_at : (0 : Int) ≤ ob_at.toInt ∧ ob_at.toInt ≤ 1400) (p_ob_from : (0 : Int) ≤ ob_from.toInt ∧ ob_from.toInt ≤ 1400) (p_ob_token : (0 : Int) ≤ ob_token.toInt ∧ ob_token.toInt ≤ 4) (p_ob_value : (0 : Int) ≤ ob_value.toInt ∧ ob_value.toInt ≤ 9999) (p_ob_faultKind : (0 : Int) ≤ ob_faultKind.toInt ∧ ob_faultKind.toInt ≤ 3) (p_ob_houseMany : (0 : Int) ≤ ob_houseMany.toInt ∧ ob_houseMany.toInt ≤ 10) (p_ob_bestSet : (0 : Int) ≤ ob_bestSet.toInt ∧ ob_bestSet.toInt ≤ 1023) (p_ob_bestOver : (-1 : Int) ≤ ob_bestOver.toInt ∧ ob_bestOver.toInt ≤ 180) (p_ob_tenMany : (0 : Int) ≤ ob_tenMany.toInt ∧ ob_tenMany.toInt ≤ 10) (p_ob_callMany : (0 : Int) ≤ ob_callMany.toInt ∧ ob_callMany.toInt ≤ 16) (p_a1 : (0 : Int) ≤ a1.toInt ∧ a1.toInt ≤ 3) (p_a3 : (-2147483648 : Int) ≤ a3.toInt ∧ a3.toInt ≤ -1) : Met l yX10_paste (Cond.code yX10_paste cX10_paste 7 (some .int) :: wAll) ({ frames := 2, cells := 0, slots := 0, locals := 45 }) (va_Pc [.ref ob, .int a1, .int a2, .int a3, .int a4, .int a5] (kp G y sz [(ce_X10 ob ob_thrown ob_world ob_images ob_hasImage ob_tape ob_taped ob_five ob_size ob_at ob_from ob_token ob_value ob_faultKind ob_faultPlace ob_fresh ob_parts ob_houses ob_houseMany ob_worthOf ob_byCall ob_over ob_bestSet ob_bestOver ob_bestWorth ob_row ob_tenDebts ob_tenMany ob_fewestBy ob_covered ob_queue ob_cameBy ob_parent ob_met ob_calls ob_callMany ob_calledOn ob_saved ob_many ob_width ob_numbers ob_moving)])) (va_Qi (fun (r : Int32) (w : va_W) => (r = (-2) ∧ w = [(ce_X10 ob ob_thrown ob_world ob_images ob_hasImage ob_tape ob_taped ob_five ob_size ob_at ob_from ob_token ob_value ob_faultKind ob_faultPlace ob_fresh ob_parts ob_houses ob_houseMany ob_worthOf ob_byCall ob_over ob_bestSet ob_bestOver ob_bestWorth ob_row ob_tenDebts ob_tenMany ob_fewestBy ob_covered ob_queue ob_cameBy ob_parent ob_met ob_calls ob_callMany ob_calledOn ob_saved ob_many ob_width ob_numbers ob_moving)])) (kq G (va_A [(ce_X10 ob ob_thrown ob_world ob_images ob_hasImage ob_tape ob_taped ob_five ob_size ob_at ob_from ob_token ob_value ob_faultKind ob_faultPlace ob_fresh ob_parts ob_houses ob_houseMany ob_worthOf ob_byCall ob_over ob_bestSet ob_bestOver ob_bestWorth ob_row ob_tenDebts ob_tenMany ob_fewestBy ob_covered ob_queue ob_cameBy ob_parent ob_met ob_calls ob_callMany ob_calledOn ob_saved ob_many ob_width ob_numbers ob_moving)] sz)) (va_A [(ce_X10 ob ob_thrown ob_world ob_images ob_hasImage ob_tape ob_taped ob_five ob_size ob_at ob_from ob_token ob_value ob_faultKind ob_faultPlace ob_fresh ob_parts ob_houses ob_houseMany ob_worthOf ob_byCall ob_over ob_bestSet ob_bestOver ob_bestWorth ob_row ob_tenDebts ob_tenMany ob_fewestBy ob_covered ob_queue ob_cameBy ob_parent ob_met ob_calls ob_callMany ob_calledOn ob_saved ob_many ob_width ob_numbers ob_moving)] sz)) 0 0 (va_A [(ce_X10 ob ob_thrown ob_world ob_images ob_hasImage ob_tape ob_taped ob_five ob_size ob_at ob_from ob_token ob_value ob_faultKind ob_faultPlace ob_fresh ob_parts ob_houses ob_houseMany ob_worthOf ob_byCall ob_over ob_bestSet ob_bestOver ob_bestWorth ob_row ob_tenDebts ob_tenMany ob_fewestBy ob_covered ob_queue ob_cameBy ob_parent ob_met ob_calls ob_callMany ob_calledOn ob_saved ob_many ob_width ob_numbers ob_moving)] sz) := by
  refine Met.ofW (cc := cX10_paste) (maxL := 7) (ret := (some .int)) (by decide) rfl ?_
  intro p e s m args below meth c s₁ B hml hv
  obtain ⟨rfl, hsz, hP, hK, hD0⟩ := hv
  have hx := B.exec
  have hb := B.bytes
  have hr := B.returns
  have hw0 : ∀ w ∈ wAll, w.before _ s = true := fun w h => atoms_spec (ws := Cond.code yX10_paste cX10_paste 7 (some .int) :: wAll) B.pre w (List.mem_cons_of_mem _ h)
  have hown : s.vm.findClass RX10 = some m.cls := findClass_of_methodNamed B.named
  subst hsz
  have hD := hD0.self (sz := s.heap.size)
  generalize hAe : va_A [(ce_X10 ob ob_thrown ob_world ob_images ob_hasImage ob_tape ob_taped ob_five ob_size ob_at ob_from ob_token ob_value ob_faultKind ob_faultPlace ob_fresh ob_parts ob_houses ob_houseMany ob_worthOf ob_byCall ob_over ob_bestSet ob_bestOver ob_bestWorth ob_row ob_tenDebts ob_tenMany ob_fewestBy ob_covered ob_queue ob_cameBy ob_parent ob_met ob_calls ob_callMany ob_calledOn ob_saved ob_many ob_width ob_numbers ob_moving)] s.heap.size = A at hD ⊢
  have hA : ∀ q : Nat, s.heap.size ≤ q → A q := fun q h => by rw [← hAe]; exact Or.inr h
  have hS : va_S A s.heap s.heap [] := va_S.rf
  have hP : va_P G vwCl [(ce_X10 ob ob_thrown ob_world ob_images ob_hasImage ob_tape ob_taped ob_five ob_size ob_at ob_from ob_token ob_value ob_faultKind ob_faultPlace ob_fresh ob_parts ob_houses ob_houseMany ob_worthOf ob_byCall ob_over ob_bestSet ob_bestOver ob_bestWorth ob_row ob_tenDebts ob_tenMany ob_fewestBy ob_covered ob_queue ob_cameBy ob_parent ob_met ob_calls ob_callMany ob_calledOn ob_saved ob_many ob_width ob_numbers ob_moving)] s.heap := hP
  have hl := lv_entry ([.ref ob, .int a1, .int a2, .int a3, .int a4, .int a5]) (n := 7) (Nat.le_of_ble_eq_true rfl)
  rw [lg_entry_eq]
  generalize (lg_sl ([.ref ob, .int a1, .int a2, .int a3, .int a4, .int a5]) ++ List.replicate (7 - (lg_sl ([.ref ob, .int a1, .int a2, .int a3, .int a4, .int a5])).length) Slot.unset).toArray = ls at hl ⊢
  have hl : lv_has ls 7 [(0, .ref ob), (1, .int a1), (2, .int a2), (3, .int a3), (4, .int a4), (5, .int a5)] := hl
  refine lv_iload_n hx hb dX10_paste_0 rfl (lv_at hl 1 rfl) ?_
  refine cutW 14 (fun H locs ls st => st = [] ∧ vPD G A H [(ce_X10 ob ob_thrown ob_world ob_images ob_hasImage ob_tape ob_taped ob_five ob_size ob_at ob_from ob_token ob_value ob_faultKind ob_faultPlace ob_fresh ob_parts ob_houses ob_houseMany ob_worthOf ob_byCall ob_over ob_bestSet ob_bestOver ob_bestWorth ob_row ob_tenDebts ob_tenMany ob_fewestBy ob_covered ob_queue ob_cameBy ob_parent ob_met ob_calls ob_callMany ob_calledOn ob_saved ob_many ob_width ob_numbers ob_moving)] ∧ va_S A s.heap H locs ∧ lv_has ls 7 []) ?_ (fun J_14_1009 => ?_)
  · rintro H locs ls st ⟨rfl, ⟨hP, hD⟩, hS, hl⟩
    refine lv_bipush (v := (-2)) hx hb dX10_paste_14 (by decide) ?_
    exact W.iret (v := (-2)) hx hb hr (fun t ht hW => ⟨⟨(-2), _, rfl, ⟨rfl, rfl⟩, by rw [ht]; exact hP, hD⟩, hS.F ht⟩) hS.2.2 dX10_paste_16
  · skip
    refine cSim (As := [.int a1]) (rest := []) ⟨hx, hb, hml, hown, hw0⟩ hA hK hP hD hS [] (gisSlotM l G y _ a1 ) rfl ⟨(callB_of 1 hw0 (gA m_543) rfl rfl rfl (hw0 _ m_41) (hw0 _ m_433) cb_X10_isSlot ⟨Nat.le_of_ble_eq_true rfl, Nat.le_of_ble_eq_true rfl⟩), (hw0 _ m_434)⟩ rfl hl.1 (Nat.le_of_ble_eq_true rfl) dX10_paste_1 ⟨Nat.le_of_ble_eq_true rfl, Nat.le_of_ble_eq_true rfl⟩ (fun r_1010 w_1010 H locs hw_1010 hP hD hS => ?_)
    rcases hw_1010 with ⟨h_1011, rfl, rfl⟩ | ⟨h_1012, h_1013, rfl, rfl⟩
    · skip
      obtain ⟨hP, hD⟩ : vPD G A H [(ce_X10 ob ob_thrown ob_world ob_images ob_hasImage ob_tape ob_taped ob_five ob_size ob_at ob_from ob_token ob_value ob_faultKind ob_faultPlace ob_fresh ob_parts ob_houses ob_houseMany ob_worthOf ob_byCall ob_over ob_bestSet ob_bestOver ob_bestWorth ob_row ob_tenDebts ob_tenMany ob_fewestBy ob_covered ob_queue ob_cameBy ob_parent ob_met ob_calls ob_callMany ob_calledOn ob_saved ob_many ob_width ob_numbers ob_moving)] := ⟨hP, hD⟩
      refine lv_if_eq (tgt := 14) hx hb dX10_paste_4 (by decide) (fun _ => ?_) (fun c9 => absurd (by decide) c9)
      exact J_14_1009 _ _ _ _ ⟨rfl, ⟨hP, hD⟩, hS, lv_sub hl [] rfl⟩
    · skip
      obtain ⟨hP, hD⟩ : vPD G A H [(ce_X10 ob ob_thrown ob_world ob_images ob_hasImage ob_tape ob_taped ob_five ob_size ob_at ob_from ob_token ob_value ob_faultKind ob_faultPlace ob_fresh ob_parts ob_houses ob_houseMany ob_worthOf ob_byCall ob_over ob_bestSet ob_bestOver ob_bestWorth ob_row ob_tenDebts ob_tenMany ob_fewestBy ob_covered ob_queue ob_cameBy ob_parent ob_met ob_calls ob_callMany ob_calledOn ob_saved ob_many ob_width ob_numbers ob_moving)] := ⟨hP, hD⟩
      refine lv_if_eq (tgt := 14) hx hb dX10_paste_4 (by decide) (fun c9 => absurd c9 (by decide)) (fun _ => ?_)
      refine lv_iload_n hx hb dX10_paste_7 rfl (lv_at hl 3 rfl) ?_
      refine cSim (As := [.int a3]) (rest := []) ⟨hx, hb, hml, hown, hw0⟩ hA hK hP hD hS [] (gisSlotM l G y _ a3 ) rfl ⟨(callB_of 1 hw0 (gA m_543) rfl rfl rfl (hw0 _ m_41) (hw0 _ m_433) cb_X10_isSlot ⟨Nat.le_of_ble_eq_true rfl, Nat.le_of_ble_eq_true rfl⟩), (hw0 _ m_434)⟩ rfl hl.1 (Nat.le_of_ble_eq_true rfl) dX10_paste_8 ⟨Nat.le_of_ble_eq_true rfl, Nat.le_of_ble_eq_true rfl⟩ (fun r_1014 w_1014 H locs hw_1014 hP hD hS => ?_)
      rcases hw_1014 with ⟨h_1015, rfl, rfl⟩ | ⟨h_1016, h_1017, rfl, rfl⟩
      · skip
        obtain ⟨hP, hD⟩ : vPD G A H [(ce_X10 ob ob_thrown ob_world ob_images ob_hasImage ob_tape ob_taped ob_five ob_size ob_at ob_from ob_token ob_value ob_faultKind ob_faultPlace ob_fresh ob_parts ob_houses ob_houseMany ob_worthOf ob_byCall ob_over ob_bestSet ob_bestOver ob_bestWorth ob_row ob_tenDebts ob_tenMany ob_fewestBy ob_covered ob_queue ob_cameBy ob_parent ob_met ob_calls ob_callMany ob_calledOn ob_saved ob_many ob_width ob_numbers ob_moving)] := ⟨hP, hD⟩
        refine lv_if_ne (tgt := 17) hx hb dX10_paste_11 (by decide) (fun c9 => absurd (by decide) c9) (fun _ => ?_)
        exact J_14_1009 _ _ _ _ ⟨rfl, ⟨hP, hD⟩, hS, lv_sub hl [] rfl⟩
      · skip
        have h_1018 := b_in p_a3 h_1016
        exact absurd (Int.le_trans (h_1018).1 (h_1018).2) (by decide)

set_option maxHeartbeats 4000000 in
set_option maxRecDepth 100000 in
theorem spasteMhi (l : Launch) (G : va_G) (y : Nat → ClassId) (sz : Nat) (ob : Nat) (a1 : Int32) (a2 : Int32) (a3 : Int32) (a4 : Int32) (a5 : Int32) (ob_thrown : Int32) (ob_world : Nat) (ob_images : Nat) (ob_hasImage : Nat) (ob_tape : Nat) (ob_taped : Int32) (ob_five : Nat) (ob_size : Int32) (ob_at : Int32) (ob_from : Int32) (ob_token : Int32) (ob_value : Int32) (ob_faultKind : Int32) (ob_faultPlace : Int32) (ob_fresh : Nat) (ob_parts : Nat) (ob_houses : Nat) (ob_houseMany : Int32) (ob_worthOf : Nat) (ob_byCall : Nat) (ob_over : Nat) (ob_bestSet : Int32) (ob_bestOver : Int32) (ob_bestWorth : Int32) (ob_row : Nat) (ob_tenDebts : Nat) (ob_tenMany : Int32) (ob_fewestBy : Nat) (ob_covered : Nat) (ob_queue : Nat) (ob_cameBy : Nat) (ob_parent : Nat) (ob_met : Nat) (ob_calls : Nat) (ob_callMany : Int32) (ob_calledOn : Nat) (ob_saved : Nat) (ob_many : Nat) (ob_width : Nat) (ob_numbers : Nat) (ob_moving : Nat) (p_ob_taped : (0 : Int) ≤ ob_taped.toInt ∧ ob_taped.toInt ≤ 1400) (p_ob_size : (0 : Int) ≤ ob_size.toInt ∧ ob_size.toInt ≤ 1400) (p_ob_at : (0 : Int) ≤ ob_at.toInt ∧ ob_at.toInt ≤ 1400) (p_ob_from : (0 : Int) ≤ ob_from.toInt ∧ ob_from.toInt ≤ 1400) (p_ob_token : (0 : Int) ≤ ob_token.toInt ∧ ob_token.toInt ≤ 4) (p_ob_value : (0 : Int) ≤ ob_value.toInt ∧ ob_value.toInt ≤ 9999) (p_ob_faultKind : (0 : Int) ≤ ob_faultKind.toInt ∧ ob_faultKind.toInt ≤ 3) (p_ob_houseMany : (0 : Int) ≤ ob_houseMany.toInt ∧ ob_houseMany.toInt ≤ 10) (p_ob_bestSet : (0 : Int) ≤ ob_bestSet.toInt ∧ ob_bestSet.toInt ≤ 1023) (p_ob_bestOver : (-1 : Int) ≤ ob_bestOver.toInt ∧ ob_bestOver.toInt ≤ 180) (p_ob_tenMany : (0 : Int) ≤ ob_tenMany.toInt ∧ ob_tenMany.toInt ≤ 10) (p_ob_callMany : (0 : Int) ≤ ob_callMany.toInt ∧ ob_callMany.toInt ≤ 16) (p_a1 : (4 : Int) ≤ a1.toInt ∧ a1.toInt ≤ 2147483647) : Met l yX10_paste (Cond.code yX10_paste cX10_paste 7 (some .int) :: wAll) ({ frames := 2, cells := 0, slots := 0, locals := 45 }) (va_Pc [.ref ob, .int a1, .int a2, .int a3, .int a4, .int a5] (kp G y sz [(ce_X10 ob ob_thrown ob_world ob_images ob_hasImage ob_tape ob_taped ob_five ob_size ob_at ob_from ob_token ob_value ob_faultKind ob_faultPlace ob_fresh ob_parts ob_houses ob_houseMany ob_worthOf ob_byCall ob_over ob_bestSet ob_bestOver ob_bestWorth ob_row ob_tenDebts ob_tenMany ob_fewestBy ob_covered ob_queue ob_cameBy ob_parent ob_met ob_calls ob_callMany ob_calledOn ob_saved ob_many ob_width ob_numbers ob_moving)])) (va_Qi (fun (r : Int32) (w : va_W) => (r = (-2) ∧ w = [(ce_X10 ob ob_thrown ob_world ob_images ob_hasImage ob_tape ob_taped ob_five ob_size ob_at ob_from ob_token ob_value ob_faultKind ob_faultPlace ob_fresh ob_parts ob_houses ob_houseMany ob_worthOf ob_byCall ob_over ob_bestSet ob_bestOver ob_bestWorth ob_row ob_tenDebts ob_tenMany ob_fewestBy ob_covered ob_queue ob_cameBy ob_parent ob_met ob_calls ob_callMany ob_calledOn ob_saved ob_many ob_width ob_numbers ob_moving)])) (kq G (va_A [(ce_X10 ob ob_thrown ob_world ob_images ob_hasImage ob_tape ob_taped ob_five ob_size ob_at ob_from ob_token ob_value ob_faultKind ob_faultPlace ob_fresh ob_parts ob_houses ob_houseMany ob_worthOf ob_byCall ob_over ob_bestSet ob_bestOver ob_bestWorth ob_row ob_tenDebts ob_tenMany ob_fewestBy ob_covered ob_queue ob_cameBy ob_parent ob_met ob_calls ob_callMany ob_calledOn ob_saved ob_many ob_width ob_numbers ob_moving)] sz)) (va_A [(ce_X10 ob ob_thrown ob_world ob_images ob_hasImage ob_tape ob_taped ob_five ob_size ob_at ob_from ob_token ob_value ob_faultKind ob_faultPlace ob_fresh ob_parts ob_houses ob_houseMany ob_worthOf ob_byCall ob_over ob_bestSet ob_bestOver ob_bestWorth ob_row ob_tenDebts ob_tenMany ob_fewestBy ob_covered ob_queue ob_cameBy ob_parent ob_met ob_calls ob_callMany ob_calledOn ob_saved ob_many ob_width ob_numbers ob_moving)] sz)) 0 0 (va_A [(ce_X10 ob ob_thrown ob_world ob_images ob_hasImage ob_tape ob_taped ob_five ob_size ob_at ob_from ob_token ob_value ob_faultKind ob_faultPlace ob_fresh ob_parts ob_houses ob_houseMany ob_worthOf ob_byCall ob_over ob_bestSet ob_bestOver ob_bestWorth ob_row ob_tenDebts ob_tenMany ob_fewestBy ob_covered ob_queue ob_cameBy ob_parent ob_met ob_calls ob_callMany ob_calledOn ob_saved ob_many ob_width ob_numbers ob_moving)] sz) := by
  refine Met.ofW (cc := cX10_paste) (maxL := 7) (ret := (some .int)) (by decide) rfl ?_
  intro p e s m args below meth c s₁ B hml hv
  obtain ⟨rfl, hsz, hP, hK, hD0⟩ := hv
  have hx := B.exec
  have hb := B.bytes
  have hr := B.returns
  have hw0 : ∀ w ∈ wAll, w.before _ s = true := fun w h => atoms_spec (ws := Cond.code yX10_paste cX10_paste 7 (some .int) :: wAll) B.pre w (List.mem_cons_of_mem _ h)
  have hown : s.vm.findClass RX10 = some m.cls := findClass_of_methodNamed B.named
  subst hsz
  have hD := hD0.self (sz := s.heap.size)
  generalize hAe : va_A [(ce_X10 ob ob_thrown ob_world ob_images ob_hasImage ob_tape ob_taped ob_five ob_size ob_at ob_from ob_token ob_value ob_faultKind ob_faultPlace ob_fresh ob_parts ob_houses ob_houseMany ob_worthOf ob_byCall ob_over ob_bestSet ob_bestOver ob_bestWorth ob_row ob_tenDebts ob_tenMany ob_fewestBy ob_covered ob_queue ob_cameBy ob_parent ob_met ob_calls ob_callMany ob_calledOn ob_saved ob_many ob_width ob_numbers ob_moving)] s.heap.size = A at hD ⊢
  have hA : ∀ q : Nat, s.heap.size ≤ q → A q := fun q h => by rw [← hAe]; exact Or.inr h
  have hS : va_S A s.heap s.heap [] := va_S.rf
  have hP : va_P G vwCl [(ce_X10 ob ob_thrown ob_world ob_images ob_hasImage ob_tape ob_taped ob_five ob_size ob_at ob_from ob_token ob_value ob_faultKind ob_faultPlace ob_fresh ob_parts ob_houses ob_houseMany ob_worthOf ob_byCall ob_over ob_bestSet ob_bestOver ob_bestWorth ob_row ob_tenDebts ob_tenMany ob_fewestBy ob_covered ob_queue ob_cameBy ob_parent ob_met ob_calls ob_callMany ob_calledOn ob_saved ob_many ob_width ob_numbers ob_moving)] s.heap := hP
  have hl := lv_entry ([.ref ob, .int a1, .int a2, .int a3, .int a4, .int a5]) (n := 7) (Nat.le_of_ble_eq_true rfl)
  rw [lg_entry_eq]
  generalize (lg_sl ([.ref ob, .int a1, .int a2, .int a3, .int a4, .int a5]) ++ List.replicate (7 - (lg_sl ([.ref ob, .int a1, .int a2, .int a3, .int a4, .int a5])).length) Slot.unset).toArray = ls at hl ⊢
  have hl : lv_has ls 7 [(0, .ref ob), (1, .int a1), (2, .int a2), (3, .int a3), (4, .int a4), (5, .int a5)] := hl
  refine lv_iload_n hx hb dX10_paste_0 rfl (lv_at hl 1 rfl) ?_
  refine cutW 14 (fun H locs ls st => st = [] ∧ vPD G A H [(ce_X10 ob ob_thrown ob_world ob_images ob_hasImage ob_tape ob_taped ob_five ob_size ob_at ob_from ob_token ob_value ob_faultKind ob_faultPlace ob_fresh ob_parts ob_houses ob_houseMany ob_worthOf ob_byCall ob_over ob_bestSet ob_bestOver ob_bestWorth ob_row ob_tenDebts ob_tenMany ob_fewestBy ob_covered ob_queue ob_cameBy ob_parent ob_met ob_calls ob_callMany ob_calledOn ob_saved ob_many ob_width ob_numbers ob_moving)] ∧ va_S A s.heap H locs ∧ lv_has ls 7 []) ?_ (fun J_14_1005 => ?_)
  · rintro H locs ls st ⟨rfl, ⟨hP, hD⟩, hS, hl⟩
    refine lv_bipush (v := (-2)) hx hb dX10_paste_14 (by decide) ?_
    exact W.iret (v := (-2)) hx hb hr (fun t ht hW => ⟨⟨(-2), _, rfl, ⟨rfl, rfl⟩, by rw [ht]; exact hP, hD⟩, hS.F ht⟩) hS.2.2 dX10_paste_16
  · skip
    refine cSim (As := [.int a1]) (rest := []) ⟨hx, hb, hml, hown, hw0⟩ hA hK hP hD hS [] (gisSlotM l G y _ a1 ) rfl ⟨(callB_of 1 hw0 (gA m_543) rfl rfl rfl (hw0 _ m_41) (hw0 _ m_433) cb_X10_isSlot ⟨Nat.le_of_ble_eq_true rfl, Nat.le_of_ble_eq_true rfl⟩), (hw0 _ m_434)⟩ rfl hl.1 (Nat.le_of_ble_eq_true rfl) dX10_paste_1 ⟨Nat.le_of_ble_eq_true rfl, Nat.le_of_ble_eq_true rfl⟩ (fun r_1006 w_1006 H locs hw_1006 hP hD hS => ?_)
    rcases hw_1006 with ⟨h_1007, rfl, rfl⟩ | ⟨h_1008, h_1009, rfl, rfl⟩
    · skip
      obtain ⟨hP, hD⟩ : vPD G A H [(ce_X10 ob ob_thrown ob_world ob_images ob_hasImage ob_tape ob_taped ob_five ob_size ob_at ob_from ob_token ob_value ob_faultKind ob_faultPlace ob_fresh ob_parts ob_houses ob_houseMany ob_worthOf ob_byCall ob_over ob_bestSet ob_bestOver ob_bestWorth ob_row ob_tenDebts ob_tenMany ob_fewestBy ob_covered ob_queue ob_cameBy ob_parent ob_met ob_calls ob_callMany ob_calledOn ob_saved ob_many ob_width ob_numbers ob_moving)] := ⟨hP, hD⟩
      refine lv_if_eq (tgt := 14) hx hb dX10_paste_4 (by decide) (fun _ => ?_) (fun c9 => absurd (by decide) c9)
      exact J_14_1005 _ _ _ _ ⟨rfl, ⟨hP, hD⟩, hS, lv_sub hl [] rfl⟩
    · skip
      have h_1010 := b_in p_a1 h_1008
      exact absurd (Int.le_trans (h_1010).1 (h_1010).2) (by decide)

set_option maxHeartbeats 4000000 in
set_option maxRecDepth 100000 in
theorem spasteMThi (l : Launch) (G : va_G) (y : Nat → ClassId) (sz : Nat) (ob : Nat) (a1 : Int32) (a2 : Int32) (a3 : Int32) (a4 : Int32) (a5 : Int32) (ob_thrown : Int32) (ob_world : Nat) (ob_images : Nat) (ob_hasImage : Nat) (ob_tape : Nat) (ob_taped : Int32) (ob_five : Nat) (ob_size : Int32) (ob_at : Int32) (ob_from : Int32) (ob_token : Int32) (ob_value : Int32) (ob_faultKind : Int32) (ob_faultPlace : Int32) (ob_fresh : Nat) (ob_parts : Nat) (ob_houses : Nat) (ob_houseMany : Int32) (ob_worthOf : Nat) (ob_byCall : Nat) (ob_over : Nat) (ob_bestSet : Int32) (ob_bestOver : Int32) (ob_bestWorth : Int32) (ob_row : Nat) (ob_tenDebts : Nat) (ob_tenMany : Int32) (ob_fewestBy : Nat) (ob_covered : Nat) (ob_queue : Nat) (ob_cameBy : Nat) (ob_parent : Nat) (ob_met : Nat) (ob_calls : Nat) (ob_callMany : Int32) (ob_calledOn : Nat) (ob_saved : Nat) (ob_many : Nat) (ob_width : Nat) (ob_numbers : Nat) (ob_moving : Nat) (p_ob_taped : (0 : Int) ≤ ob_taped.toInt ∧ ob_taped.toInt ≤ 1400) (p_ob_size : (0 : Int) ≤ ob_size.toInt ∧ ob_size.toInt ≤ 1400) (p_ob_at : (0 : Int) ≤ ob_at.toInt ∧ ob_at.toInt ≤ 1400) (p_ob_from : (0 : Int) ≤ ob_from.toInt ∧ ob_from.toInt ≤ 1400) (p_ob_token : (0 : Int) ≤ ob_token.toInt ∧ ob_token.toInt ≤ 4) (p_ob_value : (0 : Int) ≤ ob_value.toInt ∧ ob_value.toInt ≤ 9999) (p_ob_faultKind : (0 : Int) ≤ ob_faultKind.toInt ∧ ob_faultKind.toInt ≤ 3) (p_ob_houseMany : (0 : Int) ≤ ob_houseMany.toInt ∧ ob_houseMany.toInt ≤ 10) (p_ob_bestSet : (0 : Int) ≤ ob_bestSet.toInt ∧ ob_bestSet.toInt ≤ 1023) (p_ob_bestOver : (-1 : Int) ≤ ob_bestOver.toInt ∧ ob_bestOver.toInt ≤ 180) (p_ob_tenMany : (0 : Int) ≤ ob_tenMany.toInt ∧ ob_tenMany.toInt ≤ 10) (p_ob_callMany : (0 : Int) ≤ ob_callMany.toInt ∧ ob_callMany.toInt ≤ 16) (p_a1 : (0 : Int) ≤ a1.toInt ∧ a1.toInt ≤ 3) (p_a3 : (4 : Int) ≤ a3.toInt ∧ a3.toInt ≤ 2147483647) : Met l yX10_paste (Cond.code yX10_paste cX10_paste 7 (some .int) :: wAll) ({ frames := 2, cells := 0, slots := 0, locals := 45 }) (va_Pc [.ref ob, .int a1, .int a2, .int a3, .int a4, .int a5] (kp G y sz [(ce_X10 ob ob_thrown ob_world ob_images ob_hasImage ob_tape ob_taped ob_five ob_size ob_at ob_from ob_token ob_value ob_faultKind ob_faultPlace ob_fresh ob_parts ob_houses ob_houseMany ob_worthOf ob_byCall ob_over ob_bestSet ob_bestOver ob_bestWorth ob_row ob_tenDebts ob_tenMany ob_fewestBy ob_covered ob_queue ob_cameBy ob_parent ob_met ob_calls ob_callMany ob_calledOn ob_saved ob_many ob_width ob_numbers ob_moving)])) (va_Qi (fun (r : Int32) (w : va_W) => (r = (-2) ∧ w = [(ce_X10 ob ob_thrown ob_world ob_images ob_hasImage ob_tape ob_taped ob_five ob_size ob_at ob_from ob_token ob_value ob_faultKind ob_faultPlace ob_fresh ob_parts ob_houses ob_houseMany ob_worthOf ob_byCall ob_over ob_bestSet ob_bestOver ob_bestWorth ob_row ob_tenDebts ob_tenMany ob_fewestBy ob_covered ob_queue ob_cameBy ob_parent ob_met ob_calls ob_callMany ob_calledOn ob_saved ob_many ob_width ob_numbers ob_moving)])) (kq G (va_A [(ce_X10 ob ob_thrown ob_world ob_images ob_hasImage ob_tape ob_taped ob_five ob_size ob_at ob_from ob_token ob_value ob_faultKind ob_faultPlace ob_fresh ob_parts ob_houses ob_houseMany ob_worthOf ob_byCall ob_over ob_bestSet ob_bestOver ob_bestWorth ob_row ob_tenDebts ob_tenMany ob_fewestBy ob_covered ob_queue ob_cameBy ob_parent ob_met ob_calls ob_callMany ob_calledOn ob_saved ob_many ob_width ob_numbers ob_moving)] sz)) (va_A [(ce_X10 ob ob_thrown ob_world ob_images ob_hasImage ob_tape ob_taped ob_five ob_size ob_at ob_from ob_token ob_value ob_faultKind ob_faultPlace ob_fresh ob_parts ob_houses ob_houseMany ob_worthOf ob_byCall ob_over ob_bestSet ob_bestOver ob_bestWorth ob_row ob_tenDebts ob_tenMany ob_fewestBy ob_covered ob_queue ob_cameBy ob_parent ob_met ob_calls ob_callMany ob_calledOn ob_saved ob_many ob_width ob_numbers ob_moving)] sz)) 0 0 (va_A [(ce_X10 ob ob_thrown ob_world ob_images ob_hasImage ob_tape ob_taped ob_five ob_size ob_at ob_from ob_token ob_value ob_faultKind ob_faultPlace ob_fresh ob_parts ob_houses ob_houseMany ob_worthOf ob_byCall ob_over ob_bestSet ob_bestOver ob_bestWorth ob_row ob_tenDebts ob_tenMany ob_fewestBy ob_covered ob_queue ob_cameBy ob_parent ob_met ob_calls ob_callMany ob_calledOn ob_saved ob_many ob_width ob_numbers ob_moving)] sz) := by
  refine Met.ofW (cc := cX10_paste) (maxL := 7) (ret := (some .int)) (by decide) rfl ?_
  intro p e s m args below meth c s₁ B hml hv
  obtain ⟨rfl, hsz, hP, hK, hD0⟩ := hv
  have hx := B.exec
  have hb := B.bytes
  have hr := B.returns
  have hw0 : ∀ w ∈ wAll, w.before _ s = true := fun w h => atoms_spec (ws := Cond.code yX10_paste cX10_paste 7 (some .int) :: wAll) B.pre w (List.mem_cons_of_mem _ h)
  have hown : s.vm.findClass RX10 = some m.cls := findClass_of_methodNamed B.named
  subst hsz
  have hD := hD0.self (sz := s.heap.size)
  generalize hAe : va_A [(ce_X10 ob ob_thrown ob_world ob_images ob_hasImage ob_tape ob_taped ob_five ob_size ob_at ob_from ob_token ob_value ob_faultKind ob_faultPlace ob_fresh ob_parts ob_houses ob_houseMany ob_worthOf ob_byCall ob_over ob_bestSet ob_bestOver ob_bestWorth ob_row ob_tenDebts ob_tenMany ob_fewestBy ob_covered ob_queue ob_cameBy ob_parent ob_met ob_calls ob_callMany ob_calledOn ob_saved ob_many ob_width ob_numbers ob_moving)] s.heap.size = A at hD ⊢
  have hA : ∀ q : Nat, s.heap.size ≤ q → A q := fun q h => by rw [← hAe]; exact Or.inr h
  have hS : va_S A s.heap s.heap [] := va_S.rf
  have hP : va_P G vwCl [(ce_X10 ob ob_thrown ob_world ob_images ob_hasImage ob_tape ob_taped ob_five ob_size ob_at ob_from ob_token ob_value ob_faultKind ob_faultPlace ob_fresh ob_parts ob_houses ob_houseMany ob_worthOf ob_byCall ob_over ob_bestSet ob_bestOver ob_bestWorth ob_row ob_tenDebts ob_tenMany ob_fewestBy ob_covered ob_queue ob_cameBy ob_parent ob_met ob_calls ob_callMany ob_calledOn ob_saved ob_many ob_width ob_numbers ob_moving)] s.heap := hP
  have hl := lv_entry ([.ref ob, .int a1, .int a2, .int a3, .int a4, .int a5]) (n := 7) (Nat.le_of_ble_eq_true rfl)
  rw [lg_entry_eq]
  generalize (lg_sl ([.ref ob, .int a1, .int a2, .int a3, .int a4, .int a5]) ++ List.replicate (7 - (lg_sl ([.ref ob, .int a1, .int a2, .int a3, .int a4, .int a5])).length) Slot.unset).toArray = ls at hl ⊢
  have hl : lv_has ls 7 [(0, .ref ob), (1, .int a1), (2, .int a2), (3, .int a3), (4, .int a4), (5, .int a5)] := hl
  refine lv_iload_n hx hb dX10_paste_0 rfl (lv_at hl 1 rfl) ?_
  refine cutW 14 (fun H locs ls st => st = [] ∧ vPD G A H [(ce_X10 ob ob_thrown ob_world ob_images ob_hasImage ob_tape ob_taped ob_five ob_size ob_at ob_from ob_token ob_value ob_faultKind ob_faultPlace ob_fresh ob_parts ob_houses ob_houseMany ob_worthOf ob_byCall ob_over ob_bestSet ob_bestOver ob_bestWorth ob_row ob_tenDebts ob_tenMany ob_fewestBy ob_covered ob_queue ob_cameBy ob_parent ob_met ob_calls ob_callMany ob_calledOn ob_saved ob_many ob_width ob_numbers ob_moving)] ∧ va_S A s.heap H locs ∧ lv_has ls 7 []) ?_ (fun J_14_1009 => ?_)
  · rintro H locs ls st ⟨rfl, ⟨hP, hD⟩, hS, hl⟩
    refine lv_bipush (v := (-2)) hx hb dX10_paste_14 (by decide) ?_
    exact W.iret (v := (-2)) hx hb hr (fun t ht hW => ⟨⟨(-2), _, rfl, ⟨rfl, rfl⟩, by rw [ht]; exact hP, hD⟩, hS.F ht⟩) hS.2.2 dX10_paste_16
  · skip
    refine cSim (As := [.int a1]) (rest := []) ⟨hx, hb, hml, hown, hw0⟩ hA hK hP hD hS [] (gisSlotM l G y _ a1 ) rfl ⟨(callB_of 1 hw0 (gA m_543) rfl rfl rfl (hw0 _ m_41) (hw0 _ m_433) cb_X10_isSlot ⟨Nat.le_of_ble_eq_true rfl, Nat.le_of_ble_eq_true rfl⟩), (hw0 _ m_434)⟩ rfl hl.1 (Nat.le_of_ble_eq_true rfl) dX10_paste_1 ⟨Nat.le_of_ble_eq_true rfl, Nat.le_of_ble_eq_true rfl⟩ (fun r_1010 w_1010 H locs hw_1010 hP hD hS => ?_)
    rcases hw_1010 with ⟨h_1011, rfl, rfl⟩ | ⟨h_1012, h_1013, rfl, rfl⟩
    · skip
      obtain ⟨hP, hD⟩ : vPD G A H [(ce_X10 ob ob_thrown ob_world ob_images ob_hasImage ob_tape ob_taped ob_five ob_size ob_at ob_from ob_token ob_value ob_faultKind ob_faultPlace ob_fresh ob_parts ob_houses ob_houseMany ob_worthOf ob_byCall ob_over ob_bestSet ob_bestOver ob_bestWorth ob_row ob_tenDebts ob_tenMany ob_fewestBy ob_covered ob_queue ob_cameBy ob_parent ob_met ob_calls ob_callMany ob_calledOn ob_saved ob_many ob_width ob_numbers ob_moving)] := ⟨hP, hD⟩
      refine lv_if_eq (tgt := 14) hx hb dX10_paste_4 (by decide) (fun _ => ?_) (fun c9 => absurd (by decide) c9)
      exact J_14_1009 _ _ _ _ ⟨rfl, ⟨hP, hD⟩, hS, lv_sub hl [] rfl⟩
    · skip
      obtain ⟨hP, hD⟩ : vPD G A H [(ce_X10 ob ob_thrown ob_world ob_images ob_hasImage ob_tape ob_taped ob_five ob_size ob_at ob_from ob_token ob_value ob_faultKind ob_faultPlace ob_fresh ob_parts ob_houses ob_houseMany ob_worthOf ob_byCall ob_over ob_bestSet ob_bestOver ob_bestWorth ob_row ob_tenDebts ob_tenMany ob_fewestBy ob_covered ob_queue ob_cameBy ob_parent ob_met ob_calls ob_callMany ob_calledOn ob_saved ob_many ob_width ob_numbers ob_moving)] := ⟨hP, hD⟩
      refine lv_if_eq (tgt := 14) hx hb dX10_paste_4 (by decide) (fun c9 => absurd c9 (by decide)) (fun _ => ?_)
      refine lv_iload_n hx hb dX10_paste_7 rfl (lv_at hl 3 rfl) ?_
      refine cSim (As := [.int a3]) (rest := []) ⟨hx, hb, hml, hown, hw0⟩ hA hK hP hD hS [] (gisSlotM l G y _ a3 ) rfl ⟨(callB_of 1 hw0 (gA m_543) rfl rfl rfl (hw0 _ m_41) (hw0 _ m_433) cb_X10_isSlot ⟨Nat.le_of_ble_eq_true rfl, Nat.le_of_ble_eq_true rfl⟩), (hw0 _ m_434)⟩ rfl hl.1 (Nat.le_of_ble_eq_true rfl) dX10_paste_8 ⟨Nat.le_of_ble_eq_true rfl, Nat.le_of_ble_eq_true rfl⟩ (fun r_1014 w_1014 H locs hw_1014 hP hD hS => ?_)
      rcases hw_1014 with ⟨h_1015, rfl, rfl⟩ | ⟨h_1016, h_1017, rfl, rfl⟩
      · skip
        obtain ⟨hP, hD⟩ : vPD G A H [(ce_X10 ob ob_thrown ob_world ob_images ob_hasImage ob_tape ob_taped ob_five ob_size ob_at ob_from ob_token ob_value ob_faultKind ob_faultPlace ob_fresh ob_parts ob_houses ob_houseMany ob_worthOf ob_byCall ob_over ob_bestSet ob_bestOver ob_bestWorth ob_row ob_tenDebts ob_tenMany ob_fewestBy ob_covered ob_queue ob_cameBy ob_parent ob_met ob_calls ob_callMany ob_calledOn ob_saved ob_many ob_width ob_numbers ob_moving)] := ⟨hP, hD⟩
        refine lv_if_ne (tgt := 17) hx hb dX10_paste_11 (by decide) (fun c9 => absurd (by decide) c9) (fun _ => ?_)
        exact J_14_1009 _ _ _ _ ⟨rfl, ⟨hP, hD⟩, hS, lv_sub hl [] rfl⟩
      · skip
        have h_1018 := b_in p_a3 h_1016
        exact absurd (Int.le_trans (h_1018).1 (h_1018).2) (by decide)
