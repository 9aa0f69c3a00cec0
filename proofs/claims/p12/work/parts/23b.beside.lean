set_option maxHeartbeats 4000000 in
set_option maxRecDepth 100000 in
theorem sbes0 (l : Launch) (G : va_G) (y : Nat → ClassId) (sz : Nat) (ob : Nat) (ob_thrown : Int32) (ob_world : Nat) (ob_images : Nat) (ob_hasImage : Nat) (ob_tape : Nat) (ob_taped : Int32) (ob_five : Nat) (ob_size : Int32) (ob_at : Int32) (ob_from : Int32) (ob_token : Int32) (ob_value : Int32) (ob_faultKind : Int32) (ob_faultPlace : Int32) (ob_fresh : Nat) (ob_parts : Nat) (ob_houses : Nat) (ob_houseMany : Int32) (ob_worthOf : Nat) (ob_byCall : Nat) (ob_over : Nat) (ob_bestSet : Int32) (ob_bestOver : Int32) (ob_bestWorth : Int32) (ob_row : Nat) (ob_tenDebts : Nat) (ob_tenMany : Int32) (ob_fewestBy : Nat) (ob_covered : Nat) (ob_queue : Nat) (ob_cameBy : Nat) (ob_parent : Nat) (ob_met : Nat) (ob_calls : Nat) (ob_callMany : Int32) (ob_calledOn : Nat) (ob_saved : Nat) (ob_many : Nat) (ob_width : Nat) (ob_numbers : Nat) (ob_moving : Nat) (fob_world : Nat → Int32) (fob_images : Nat → Int32) (fob_hasImage : Nat → Int32) (fob_parts : Nat → Int32) (fob_saved : Nat → Int32) (p_fob_world : RWw fob_world) (p_fob_images : RIw fob_images) (p_fob_hasImage : ∀ i, (0 : Int) ≤ (fob_hasImage i).toInt ∧ (fob_hasImage i).toInt ≤ 1) (p_ob_taped : (0 : Int) ≤ ob_taped.toInt ∧ ob_taped.toInt ≤ 1400) (p_ob_size : (0 : Int) ≤ ob_size.toInt ∧ ob_size.toInt ≤ 1400) (p_ob_at : (0 : Int) ≤ ob_at.toInt ∧ ob_at.toInt ≤ 1400) (p_ob_from : (0 : Int) ≤ ob_from.toInt ∧ ob_from.toInt ≤ 1400) (p_ob_token : (0 : Int) ≤ ob_token.toInt ∧ ob_token.toInt ≤ 4) (p_ob_value : (0 : Int) ≤ ob_value.toInt ∧ ob_value.toInt ≤ 9999) (p_ob_faultKind : (0 : Int) ≤ ob_faultKind.toInt ∧ ob_faultKind.toInt ≤ 3) (p_ob_houseMany : (0 : Int) ≤ ob_houseMany.toInt ∧ ob_houseMany.toInt ≤ 10) (p_ob_bestSet : (0 : Int) ≤ ob_bestSet.toInt ∧ ob_bestSet.toInt ≤ 1023) (p_ob_bestOver : (-1 : Int) ≤ ob_bestOver.toInt ∧ ob_bestOver.toInt ≤ 180) (p_ob_tenMany : (0 : Int) ≤ ob_tenMany.toInt ∧ ob_tenMany.toInt ≤ 10) (p_ob_callMany : (0 : Int) ≤ ob_callMany.toInt ∧ ob_callMany.toInt ≤ 16) : Met l yX10_beside (Cond.code yX10_beside cX10_beside 5 (some .int) :: wAll) ({ frames := 4, cells := 0, slots := 0, locals := 111 }) (va_Pc [.ref ob, .int 0] (kp G y sz [(ce_X10 ob ob_thrown ob_world ob_images ob_hasImage ob_tape ob_taped ob_five ob_size ob_at ob_from ob_token ob_value ob_faultKind ob_faultPlace ob_fresh ob_parts ob_houses ob_houseMany ob_worthOf ob_byCall ob_over ob_bestSet ob_bestOver ob_bestWorth ob_row ob_tenDebts ob_tenMany ob_fewestBy ob_covered ob_queue ob_cameBy ob_parent ob_met ob_calls ob_callMany ob_calledOn ob_saved ob_many ob_width ob_numbers ob_moving), (ce_i9080 y ob_world fob_world), (ce_i27240 y ob_images fob_images), (ce_z3 y ob_hasImage fob_hasImage), (ce_i6 y ob_parts fob_parts), (ce_i9080 y ob_saved fob_saved)])) (va_Qi (fun (r : Int32) (w : va_W) => (∃ (v_1003 : Int32) (f_1004 : Nat → Int32) (f_1005 : Nat → Int32) (f_1006 : Nat → Int32), ((-6 : Int) ≤ v_1003.toInt ∧ v_1003.toInt ≤ 600) ∧ (RWw f_1004) ∧ (∀ j : Nat, j < 9080 → f_1004 j = fob_world j) ∧ r = v_1003 ∧ w = [(ce_X10 ob ob_thrown ob_world ob_images ob_hasImage ob_tape ob_taped ob_five ob_size ob_at ob_from ob_token ob_value ob_faultKind ob_faultPlace ob_fresh ob_parts ob_houses ob_houseMany ob_worthOf ob_byCall ob_over ob_bestSet ob_bestOver ob_bestWorth ob_row ob_tenDebts ob_tenMany ob_fewestBy ob_covered ob_queue ob_cameBy ob_parent ob_met ob_calls ob_callMany ob_calledOn ob_saved ob_many ob_width ob_numbers ob_moving), (ce_i9080 y ob_world f_1004), (ce_i27240 y ob_images fob_images), (ce_z3 y ob_hasImage fob_hasImage), (ce_i6 y ob_parts f_1005), (ce_i9080 y ob_saved f_1006)])) (kq G (va_A [(ce_X10 ob ob_thrown ob_world ob_images ob_hasImage ob_tape ob_taped ob_five ob_size ob_at ob_from ob_token ob_value ob_faultKind ob_faultPlace ob_fresh ob_parts ob_houses ob_houseMany ob_worthOf ob_byCall ob_over ob_bestSet ob_bestOver ob_bestWorth ob_row ob_tenDebts ob_tenMany ob_fewestBy ob_covered ob_queue ob_cameBy ob_parent ob_met ob_calls ob_callMany ob_calledOn ob_saved ob_many ob_width ob_numbers ob_moving), (ce_i9080 y ob_world fob_world), (ce_i27240 y ob_images fob_images), (ce_z3 y ob_hasImage fob_hasImage), (ce_i6 y ob_parts fob_parts), (ce_i9080 y ob_saved fob_saved)] sz)) (va_A [(ce_X10 ob ob_thrown ob_world ob_images ob_hasImage ob_tape ob_taped ob_five ob_size ob_at ob_from ob_token ob_value ob_faultKind ob_faultPlace ob_fresh ob_parts ob_houses ob_houseMany ob_worthOf ob_byCall ob_over ob_bestSet ob_bestOver ob_bestWorth ob_row ob_tenDebts ob_tenMany ob_fewestBy ob_covered ob_queue ob_cameBy ob_parent ob_met ob_calls ob_callMany ob_calledOn ob_saved ob_many ob_width ob_numbers ob_moving), (ce_i9080 y ob_world fob_world), (ce_i27240 y ob_images fob_images), (ce_z3 y ob_hasImage fob_hasImage), (ce_i6 y ob_parts fob_parts), (ce_i9080 y ob_saved fob_saved)] sz)) 0 0 (va_A [(ce_X10 ob ob_thrown ob_world ob_images ob_hasImage ob_tape ob_taped ob_five ob_size ob_at ob_from ob_token ob_value ob_faultKind ob_faultPlace ob_fresh ob_parts ob_houses ob_houseMany ob_worthOf ob_byCall ob_over ob_bestSet ob_bestOver ob_bestWorth ob_row ob_tenDebts ob_tenMany ob_fewestBy ob_covered ob_queue ob_cameBy ob_parent ob_met ob_calls ob_callMany ob_calledOn ob_saved ob_many ob_width ob_numbers ob_moving), (ce_i9080 y ob_world fob_world), (ce_i27240 y ob_images fob_images), (ce_z3 y ob_hasImage fob_hasImage), (ce_i6 y ob_parts fob_parts), (ce_i9080 y ob_saved fob_saved)] sz) := by
  refine Met.ofW (cc := cX10_beside) (maxL := 5) (ret := (some .int)) (by decide) rfl ?_
  intro p e s m args below meth c s₁ B hml hv
  obtain ⟨rfl, hsz, hP, hK, hD0⟩ := hv
  have hx := B.exec
  have hb := B.bytes
  have hr := B.returns
  have hw0 : ∀ w ∈ wAll, w.before _ s = true := fun w h => atoms_spec (ws := Cond.code yX10_beside cX10_beside 5 (some .int) :: wAll) B.pre w (List.mem_cons_of_mem _ h)
  have hown : s.vm.findClass RX10 = some m.cls := findClass_of_methodNamed B.named
  subst hsz
  have hD := hD0.self (sz := s.heap.size)
  generalize hAe : va_A [(ce_X10 ob ob_thrown ob_world ob_images ob_hasImage ob_tape ob_taped ob_five ob_size ob_at ob_from ob_token ob_value ob_faultKind ob_faultPlace ob_fresh ob_parts ob_houses ob_houseMany ob_worthOf ob_byCall ob_over ob_bestSet ob_bestOver ob_bestWorth ob_row ob_tenDebts ob_tenMany ob_fewestBy ob_covered ob_queue ob_cameBy ob_parent ob_met ob_calls ob_callMany ob_calledOn ob_saved ob_many ob_width ob_numbers ob_moving), (ce_i9080 y ob_world fob_world), (ce_i27240 y ob_images fob_images), (ce_z3 y ob_hasImage fob_hasImage), (ce_i6 y ob_parts fob_parts), (ce_i9080 y ob_saved fob_saved)] s.heap.size = A at hD ⊢
  have hA : ∀ q : Nat, s.heap.size ≤ q → A q := fun q h => by rw [← hAe]; exact Or.inr h
  have hS : va_S A s.heap s.heap [] := va_S.rf
  have hP : va_P G vwCl [(ce_X10 ob ob_thrown ob_world ob_images ob_hasImage ob_tape ob_taped ob_five ob_size ob_at ob_from ob_token ob_value ob_faultKind ob_faultPlace ob_fresh ob_parts ob_houses ob_houseMany ob_worthOf ob_byCall ob_over ob_bestSet ob_bestOver ob_bestWorth ob_row ob_tenDebts ob_tenMany ob_fewestBy ob_covered ob_queue ob_cameBy ob_parent ob_met ob_calls ob_callMany ob_calledOn ob_saved ob_many ob_width ob_numbers ob_moving), (ce_i9080 y ob_world fob_world), (ce_i27240 y ob_images fob_images), (ce_z3 y ob_hasImage fob_hasImage), (ce_i6 y ob_parts fob_parts), (ce_i9080 y ob_saved fob_saved)] s.heap := hP
  have hl := lv_entry ([.ref ob, .int 0]) (n := 5) (Nat.le_of_ble_eq_true rfl)
  rw [lg_entry_eq]
  generalize (lg_sl ([.ref ob, .int 0]) ++ List.replicate (5 - (lg_sl ([.ref ob, .int 0])).length) Slot.unset).toArray = ls at hl ⊢
  have hl : lv_has ls 5 [(0, .ref ob), (1, .int 0)] := hl
  refine lv_iload_n hx hb dX10_beside_0 rfl (lv_at hl 1 rfl) ?_
  refine lv_i2l (v := 0) hx hb dX10_beside_1 (by decide) ?_
  refine lv_lconst (v := 0) hx hb dX10_beside_2 (by decide) ?_
  refine lv_ldc2 (own := RX10) (v := 2) hx hb hown (hw0 _ m_360) dX10_beside_3 ?_
  refine cSim (As := [.long 0, .long 0, .long 2]) (rest := []) ⟨hx, hb, hml, hown, hw0⟩ hA hK hP hD hS [] (sX10_in l G y _ 0 0 2 ) rfl ⟨(callB_of 3 hw0 (gA m_516) rfl rfl rfl (hw0 _ m_41) (hw0 _ m_345) cb_X10_in ⟨Nat.le_of_ble_eq_true rfl, Nat.le_of_ble_eq_true rfl⟩), (hw0 _ m_346)⟩ rfl hl.1 (Nat.le_of_ble_eq_true rfl) dX10_beside_6 ⟨Nat.le_of_ble_eq_true rfl, Nat.le_of_ble_eq_true rfl⟩ (fun r_1001 w_1001 H locs hw_1001 hP hD hS => ?_)
  rcases hw_1001 with ⟨h_1002, rfl, rfl⟩ | ⟨h_1003, rfl, rfl⟩
  · skip
    have h_1004 : 0 < (0 : Int) ∨ (2 : Int) < 0 := in_n h_1002 (by decide) (by decide) (by decide)
    omega
  · skip
    have h_1005 : (0 : Int) ≤ 0 ∧ 0 ≤ (2 : Int) := in_y h_1003 (by decide) (by decide) (by decide)
    obtain ⟨hP, hD⟩ : vPD G A H [(ce_X10 ob ob_thrown ob_world ob_images ob_hasImage ob_tape ob_taped ob_five ob_size ob_at ob_from ob_token ob_value ob_faultKind ob_faultPlace ob_fresh ob_parts ob_houses ob_houseMany ob_worthOf ob_byCall ob_over ob_bestSet ob_bestOver ob_bestWorth ob_row ob_tenDebts ob_tenMany ob_fewestBy ob_covered ob_queue ob_cameBy ob_parent ob_met ob_calls ob_callMany ob_calledOn ob_saved ob_many ob_width ob_numbers ob_moving), (ce_i9080 y ob_world fob_world), (ce_i27240 y ob_images fob_images), (ce_z3 y ob_hasImage fob_hasImage), (ce_i6 y ob_parts fob_parts), (ce_i9080 y ob_saved fob_saved)] := ⟨hP, hD⟩
    refine lv_if_ne (tgt := 15) hx hb dX10_beside_9 (by decide) (fun _ => ?_) (fun c9 => absurd c9 (by decide))
    refine lv_aload_n hx hb dX10_beside_15 rfl (lv_at hl 0 rfl) ?_
    refine va_get (D := G) (ci := 10) (v := .ref ob_hasImage) (C := RX10) (T := TX10) (N := 41) hx hb hw0 inA_wsX100 hown hK.1 hP 0 rfl rfl 3 (by decide) (hw0 _ m_361) (fun _ h9 => h9) rfl dX10_beside_16 ?_
    refine lv_iload_n hx hb dX10_beside_19 rfl (lv_at hl 1 rfl) ?_
    refine va_zald hx hb hK.1 hP 3 3 rfl rfl (vi (bkc (x := 0) (c := 0) (by decide)) (by decide)) dX10_beside_20 ?_
    refine lv_topi (fun v_1006 ev_1006 => ?_)
    have bv_1006 : (0 : Int) ≤ v_1006.toInt ∧ v_1006.toInt ≤ 1 := rd_b ev_1006 p_fob_hasImage
    refine lv_if_ne (tgt := 27) hx hb dX10_beside_21 (by decide) (fun c_1007 => ?_) (fun c_1007 => ?_)
    · skip
      have nc_1007 := nb_ne (1) (1) c_1007 bv_1006 (k := 0) (by decide) (by decide)
      refine lv_iconst (v := 0) hx hb dX10_beside_27 (by decide) ?_
      refine lv_istore_n (lv' := [(2, .int 0), (0, .ref ob), (1, .int 0)]) hx hb dX10_beside_28 rfl hl (by decide) rfl (fun ls hl => ?_)
      refine loopX (fun n H locs ls st => ∃ (v_1067 : Int32) (f_1068 : Nat → Int32), (9080 - v_1067.toInt).toNat = n ∧ ((0 : Int) ≤ v_1067.toInt ∧ v_1067.toInt ≤ 9080) ∧ (cpR f_1068 fob_saved fob_world 0 0 0 v_1067.toInt) ∧ st = [] ∧ vPD G A H [(ce_X10 ob ob_thrown ob_world ob_images ob_hasImage ob_tape ob_taped ob_five ob_size ob_at ob_from ob_token ob_value ob_faultKind ob_faultPlace ob_fresh ob_parts ob_houses ob_houseMany ob_worthOf ob_byCall ob_over ob_bestSet ob_bestOver ob_bestWorth ob_row ob_tenDebts ob_tenMany ob_fewestBy ob_covered ob_queue ob_cameBy ob_parent ob_met ob_calls ob_callMany ob_calledOn ob_saved ob_many ob_width ob_numbers ob_moving), (ce_i9080 y ob_world fob_world), (ce_i27240 y ob_images fob_images), (ce_z3 y ob_hasImage fob_hasImage), (ce_i6 y ob_parts fob_parts), (ce_i9080 y ob_saved f_1068)] ∧ va_S A s.heap H locs ∧ lv_has ls 5 [(2, .int v_1067), (0, .ref ob), (1, .int 0)]) ?_ (n := (9080 - (0 : Int32).toInt).toNat) ⟨0, fob_saved, rfl, (bw (0) (9080) (bkc (x := 0) (c := 0) (by decide)) (by decide)), (cp_0 (by have h90 : Int32.toInt 0 = 0 := (by decide); omega)), rfl, ⟨hP, hD⟩, hS, lv_sub hl [0, 1, 2] rfl⟩
      rintro n ih_1072 H locs ls st ⟨v_1067, f_1068, hn_1072, bv_1067, rl1068_0, rfl, ⟨hP, hD⟩, hS, hl⟩
      refine lv_iload_n hx hb dX10_beside_29 rfl (lv_at hl 0 rfl) ?_
      refine lv_sipush (v := 9080) hx hb dX10_beside_30 (by decide) ?_
      refine lv_icmp_ge (tgt := 54) hx hb dX10_beside_33 (by decide) (fun c_1073 => ?_) (fun c_1073 => ?_)
      · skip
        have nc_1073 := nb_le (9080) (9080) c_1073 (bkc (x := 9080) (c := 9080) (by decide)) bv_1067 (by decide)
        refine lv_sipush (v := 154) hx hb dX10_beside_54 (by decide) ?_
        refine lv_istore_n (lv' := [(2, .int 154), (0, .ref ob), (1, .int 0)]) hx hb dX10_beside_57 rfl hl (by decide) rfl (fun ls hl => ?_)
        refine loopX (fun n H locs ls st => ∃ (v_1157 : Int32) (f_1158 : Nat → Int32), (1864 - v_1157.toInt).toNat = n ∧ ((154 : Int) ≤ v_1157.toInt ∧ v_1157.toInt ≤ 1864) ∧ (cpR f_1158 fob_world fob_images 0 0 154 v_1157.toInt) ∧ st = [] ∧ vPD G A H [(ce_X10 ob ob_thrown ob_world ob_images ob_hasImage ob_tape ob_taped ob_five ob_size ob_at ob_from ob_token ob_value ob_faultKind ob_faultPlace ob_fresh ob_parts ob_houses ob_houseMany ob_worthOf ob_byCall ob_over ob_bestSet ob_bestOver ob_bestWorth ob_row ob_tenDebts ob_tenMany ob_fewestBy ob_covered ob_queue ob_cameBy ob_parent ob_met ob_calls ob_callMany ob_calledOn ob_saved ob_many ob_width ob_numbers ob_moving), (ce_i9080 y ob_world f_1158), (ce_i27240 y ob_images fob_images), (ce_z3 y ob_hasImage fob_hasImage), (ce_i6 y ob_parts fob_parts), (ce_i9080 y ob_saved f_1068)] ∧ va_S A s.heap H locs ∧ lv_has ls 5 [(2, .int v_1157), (0, .ref ob), (1, .int 0)]) ?_ (n := (1864 - (154 : Int32).toInt).toNat) ⟨154, fob_world, rfl, (bw (154) (1864) (bkc (x := 154) (c := 154) (by decide)) (by decide)), (cp_0 (by have h90 : Int32.toInt 0 = 0 := (by decide); have h91 : Int32.toInt 154 = 154 := (by decide); omega)), rfl, ⟨hP, hD⟩, hS, lv_sub hl [0, 1, 2] rfl⟩
        rintro n ih_1164 H locs ls st ⟨v_1157, f_1158, hn_1164, bv_1157, rl1158_0, rfl, ⟨hP, hD⟩, hS, hl⟩
        refine lv_iload_n hx hb dX10_beside_58 rfl (lv_at hl 0 rfl) ?_
        refine lv_sipush (v := 1864) hx hb dX10_beside_59 (by decide) ?_
        refine lv_icmp_ge (tgt := 89) hx hb dX10_beside_62 (by decide) (fun c_1165 => ?_) (fun c_1165 => ?_)
        · skip
          have nc_1165 := nb_le (1864) (1864) c_1165 (bkc (x := 1864) (c := 1864) (by decide)) bv_1157 (by decide)
          refine lv_iconst (v := 1) hx hb dX10_beside_89 (by decide) ?_
          refine lv_istore_n (lv' := [(2, .int 1), (0, .ref ob), (1, .int 0)]) hx hb dX10_beside_90 rfl hl (by decide) rfl (fun ls hl => ?_)
          refine loopX (fun n H locs ls st => ∃ (v_1200 : Int32) (f_1201 : Nat → Int32), (4 - v_1200.toInt).toNat = n ∧ ((1 : Int) ≤ v_1200.toInt ∧ v_1200.toInt ≤ 4) ∧ (cpR f_1201 f_1158 fob_images 0 0 1 v_1200.toInt) ∧ st = [] ∧ vPD G A H [(ce_X10 ob ob_thrown ob_world ob_images ob_hasImage ob_tape ob_taped ob_five ob_size ob_at ob_from ob_token ob_value ob_faultKind ob_faultPlace ob_fresh ob_parts ob_houses ob_houseMany ob_worthOf ob_byCall ob_over ob_bestSet ob_bestOver ob_bestWorth ob_row ob_tenDebts ob_tenMany ob_fewestBy ob_covered ob_queue ob_cameBy ob_parent ob_met ob_calls ob_callMany ob_calledOn ob_saved ob_many ob_width ob_numbers ob_moving), (ce_i9080 y ob_world f_1201), (ce_i27240 y ob_images fob_images), (ce_z3 y ob_hasImage fob_hasImage), (ce_i6 y ob_parts fob_parts), (ce_i9080 y ob_saved f_1068)] ∧ va_S A s.heap H locs ∧ lv_has ls 5 [(2, .int v_1200), (0, .ref ob), (1, .int 0)]) ?_ (n := (4 - (1 : Int32).toInt).toNat) ⟨1, f_1158, rfl, (bw (1) (4) (bkc (x := 1) (c := 1) (by decide)) (by decide)), (cp_0 (by have h90 : Int32.toInt 0 = 0 := (by decide); have h91 : Int32.toInt 1 = 1 := (by decide); omega)), rfl, ⟨hP, hD⟩, hS, lv_sub hl [0, 1, 2] rfl⟩
          rintro n ih_1207 H locs ls st ⟨v_1200, f_1201, hn_1207, bv_1200, rl1201_0, rfl, ⟨hP, hD⟩, hS, hl⟩
          refine lv_iload_n hx hb dX10_beside_91 rfl (lv_at hl 0 rfl) ?_
          refine lv_iconst (v := 3) hx hb dX10_beside_92 (by decide) ?_
          refine lv_icmp_gt (tgt := 120) hx hb dX10_beside_93 (by decide) (fun c_1208 => ?_) (fun c_1208 => ?_)
          · skip
            have nc_1208 := nb_lt (3) (4) c_1208 (bkc (x := 3) (c := 3) (by decide)) bv_1200 (by decide)
            have kf_1201 : RWw f_1201 := RW_mix rl1158_0 (by omega) rl1201_0 (by omega) p_fob_world (RI_at p_fob_images 0 (by decide))
            refine lv_iconst (v := 0) hx hb dX10_beside_120 (by decide) ?_
            refine lv_istore_n (lv' := [(2, .int 0), (0, .ref ob), (1, .int 0)]) hx hb dX10_beside_121 rfl hl (by decide) rfl (fun ls hl => ?_)
            refine loopX (fun n H locs ls st => ∃ (v_1304 : Int32) (f_1305 : Nat → Int32), (16 - v_1304.toInt).toNat = n ∧ ((0 : Int) ≤ v_1304.toInt ∧ v_1304.toInt ≤ 16) ∧ (RWw f_1305) ∧ st = [] ∧ vPD G A H [(ce_X10 ob ob_thrown ob_world ob_images ob_hasImage ob_tape ob_taped ob_five ob_size ob_at ob_from ob_token ob_value ob_faultKind ob_faultPlace ob_fresh ob_parts ob_houses ob_houseMany ob_worthOf ob_byCall ob_over ob_bestSet ob_bestOver ob_bestWorth ob_row ob_tenDebts ob_tenMany ob_fewestBy ob_covered ob_queue ob_cameBy ob_parent ob_met ob_calls ob_callMany ob_calledOn ob_saved ob_many ob_width ob_numbers ob_moving), (ce_i9080 y ob_world f_1305), (ce_i27240 y ob_images fob_images), (ce_z3 y ob_hasImage fob_hasImage), (ce_i6 y ob_parts fob_parts), (ce_i9080 y ob_saved f_1068)] ∧ va_S A s.heap H locs ∧ lv_has ls 5 [(2, .int v_1304), (0, .ref ob)]) ?_ (n := (16 - (0 : Int32).toInt).toNat) ⟨0, f_1201, rfl, (bw (0) (16) (bkc (x := 0) (c := 0) (by decide)) (by decide)), kf_1201, rfl, ⟨hP, hD⟩, hS, lv_sub hl [0, 1] rfl⟩
            rintro n ih_1312 H locs ls st ⟨v_1304, f_1305, hn_1312, bv_1304, bf_1305, rfl, ⟨hP, hD⟩, hS, hl⟩
            refine lv_iload_n hx hb dX10_beside_122 rfl (lv_at hl 0 rfl) ?_
            refine lv_bipush (v := 16) hx hb dX10_beside_123 (by decide) ?_
            refine lv_icmp_ge (tgt := 151) hx hb dX10_beside_125 (by decide) (fun c_1313 => ?_) (fun c_1313 => ?_)
            · skip
              have nc_1313 := nb_le (16) (16) c_1313 (bkc (x := 16) (c := 16) (by decide)) bv_1304 (by decide)
              have h8f_1305 : (0 : Int) ≤ (f_1305 8).toInt ∧ (f_1305 8).toInt ≤ 600 := (bf_1305).1.1 8
              refine lv_aload_n hx hb dX10_beside_151 rfl (lv_at hl 1 rfl) ?_
              refine va_get (D := G) (ci := 10) (v := .ref ob_world) (C := RX10) (T := TX10) (N := 41) hx hb hw0 inA_wsX100 hown hK.1 hP 0 rfl rfl 1 (by decide) (hw0 _ m_352) (fun _ h9 => h9) rfl dX10_beside_152 ?_
              refine lv_bipush (v := 7) hx hb dX10_beside_155 (by decide) ?_
              refine lv_iconst (v := 0) hx hb dX10_beside_157 (by decide) ?_
              refine va_iast hx hb hK.1 hP hD hS 1 1 rfl rfl (vi (bkc (x := 7) (c := 7) (by decide)) (by decide)) dX10_beside_158 (fun H locs hP hD hS => ?_)
              generalize hf_1314 : (upd f_1305 (7 : Int32).toNatClampNeg 0) = f_1314 at hP hD
              have zf_1314_7 : (f_1314 7).toInt = 0 := by rw [← hf_1314]; exact (pin_eq (by decide)).trans (by decide)
              have zf_1314_8 : (f_1314 8).toInt = (f_1305 8).toInt := hf_1314 ▸ pin_ne (ix_not (bkc (x := 7) (c := 7) (by decide)) (by decide))
              have bf_1314 : RBw f_1314 := hf_1314 ▸ upk (bf_1305).1.1 (bkc (x := 0) (c := 0) (by decide)) (by decide)
              have cf_1314 : RVw f_1314 := ⟨bf_1314, by have h97 : (f_1305 7).toInt ≤ (f_1305 8).toInt := ((bf_1305).1).2; unfold W7; omega⟩
              have df_1314 : RWw f_1314 := ⟨cf_1314, hf_1314 ▸ WQ_up (bf_1305).1.1 (bf_1305).2 (qf_ix (bkc (x := 7) (c := 7) (by decide)) (by decide))⟩
              obtain ⟨hP, hD⟩ : vPD G A H [(ce_X10 ob ob_thrown ob_world ob_images ob_hasImage ob_tape ob_taped ob_five ob_size ob_at ob_from ob_token ob_value ob_faultKind ob_faultPlace ob_fresh ob_parts ob_houses ob_houseMany ob_worthOf ob_byCall ob_over ob_bestSet ob_bestOver ob_bestWorth ob_row ob_tenDebts ob_tenMany ob_fewestBy ob_covered ob_queue ob_cameBy ob_parent ob_met ob_calls ob_callMany ob_calledOn ob_saved ob_many ob_width ob_numbers ob_moving), (ce_i9080 y ob_world f_1314), (ce_i27240 y ob_images fob_images), (ce_z3 y ob_hasImage fob_hasImage), (ce_i6 y ob_parts fob_parts), (ce_i9080 y ob_saved f_1068)] := ⟨hP, hD⟩
              refine lv_iconst (v := 0) hx hb dX10_beside_159 (by decide) ?_
              refine lv_istore_n (lv' := [(2, .int 0), (0, .ref ob)]) hx hb dX10_beside_160 rfl hl (by decide) rfl (fun ls hl => ?_)
              refine loopX (fun n H locs ls st => ∃ (v_1374 : Int32) (f_1375 : Nat → Int32) (f_1376 : Nat → Int32), (600 - v_1374.toInt).toNat = n ∧ ((0 : Int) ≤ v_1374.toInt ∧ v_1374.toInt ≤ 600) ∧ (RWw f_1375) ∧ ((f_1375 7).toInt ≤ v_1374.toInt) ∧ st = [] ∧ vPD G A H [(ce_X10 ob ob_thrown ob_world ob_images ob_hasImage ob_tape ob_taped ob_five ob_size ob_at ob_from ob_token ob_value ob_faultKind ob_faultPlace ob_fresh ob_parts ob_houses ob_houseMany ob_worthOf ob_byCall ob_over ob_bestSet ob_bestOver ob_bestWorth ob_row ob_tenDebts ob_tenMany ob_fewestBy ob_covered ob_queue ob_cameBy ob_parent ob_met ob_calls ob_callMany ob_calledOn ob_saved ob_many ob_width ob_numbers ob_moving), (ce_i9080 y ob_world f_1375), (ce_i27240 y ob_images fob_images), (ce_z3 y ob_hasImage fob_hasImage), (ce_i6 y ob_parts f_1376), (ce_i9080 y ob_saved f_1068)] ∧ va_S A s.heap H locs ∧ lv_has ls 5 [(2, .int v_1374), (0, .ref ob)]) ?_ (n := (600 - (0 : Int32).toInt).toNat) ⟨0, f_1314, fob_parts, rfl, (bw (0) (600) (bkc (x := 0) (c := 0) (by decide)) (by decide)), df_1314, (by have h90 : Int32.toInt 0 = 0 := (by decide); omega), rfl, ⟨hP, hD⟩, hS, lv_sub hl [0, 1] rfl⟩
              rintro n ih_1394 H locs ls st ⟨v_1374, f_1375, f_1376, hn_1394, bv_1374, bf_1375, rl1376_0, rfl, ⟨hP, hD⟩, hS, hl⟩
              refine lv_iload_n hx hb dX10_beside_161 rfl (lv_at hl 0 rfl) ?_
              refine lv_aload_n hx hb dX10_beside_162 rfl (lv_at hl 1 rfl) ?_
              refine va_get (D := G) (ci := 10) (v := .ref ob_world) (C := RX10) (T := TX10) (N := 41) hx hb hw0 inA_wsX100 hown hK.1 hP 0 rfl rfl 1 (by decide) (hw0 _ m_352) (fun _ h9 => h9) rfl dX10_beside_163 ?_
              refine lv_bipush (v := 8) hx hb dX10_beside_166 (by decide) ?_
              refine va_iald hx hb hK.1 hP 1 1 rfl rfl (vi (bkc (x := 8) (c := 8) (by decide)) (by decide)) dX10_beside_168 ?_
              refine lv_topi (fun v_1395 ev_1395 => ?_)
              have bv_1395 : (0 : Int) ≤ v_1395.toInt ∧ v_1395.toInt ≤ 600 := rdk ev_1395 (bf_1375).1.1 (by decide)
              have yv_1395 : v_1395.toInt = (f_1375 8).toInt := congrArg Int32.toInt ev_1395
              refine lv_icmp_ge (tgt := 222) hx hb dX10_beside_169 (by decide) (fun c_1396 => ?_) (fun c_1396 => ?_)
              · skip
                have nc_1396 := nb_le (600) (0) c_1396 bv_1395 bv_1374 (by decide)
                refine lv_aload_n hx hb dX10_beside_222 rfl (lv_at hl 1 rfl) ?_
                refine va_get (D := G) (ci := 10) (v := .ref ob_world) (C := RX10) (T := TX10) (N := 41) hx hb hw0 inA_wsX100 hown hK.1 hP 0 rfl rfl 1 (by decide) (hw0 _ m_352) (fun _ h9 => h9) rfl dX10_beside_223 ?_
                refine lv_bipush (v := 7) hx hb dX10_beside_226 (by decide) ?_
                refine va_iald hx hb hK.1 hP 1 1 rfl rfl (vi (bkc (x := 7) (c := 7) (by decide)) (by decide)) dX10_beside_228 ?_
                refine lv_topi (fun v_1397 ev_1397 => ?_)
                have bv_1397 : (0 : Int) ≤ v_1397.toInt ∧ v_1397.toInt ≤ 600 := rdk ev_1397 (bf_1375).1.1 (by decide)
                have yv_1397 : v_1397.toInt = (f_1375 7).toInt := congrArg Int32.toInt ev_1397
                refine lv_istore_n (lv' := [(2, .int v_1397), (0, .ref ob)]) hx hb dX10_beside_229 rfl hl (by decide) rfl (fun ls hl => ?_)
                refine lv_iconst (v := 0) hx hb dX10_beside_230 (by decide) ?_
                refine lv_istore_n (lv' := [(3, .int 0), (2, .int v_1397), (0, .ref ob)]) hx hb dX10_beside_231 rfl hl (by decide) rfl (fun ls hl => ?_)
                refine loopX (fun n H locs ls st => ∃ (v_1457 : Int32) (f_1458 : Nat → Int32), (9080 - v_1457.toInt).toNat = n ∧ ((0 : Int) ≤ v_1457.toInt ∧ v_1457.toInt ≤ 9080) ∧ (cpR f_1458 f_1375 f_1068 0 0 0 v_1457.toInt) ∧ st = [] ∧ vPD G A H [(ce_X10 ob ob_thrown ob_world ob_images ob_hasImage ob_tape ob_taped ob_five ob_size ob_at ob_from ob_token ob_value ob_faultKind ob_faultPlace ob_fresh ob_parts ob_houses ob_houseMany ob_worthOf ob_byCall ob_over ob_bestSet ob_bestOver ob_bestWorth ob_row ob_tenDebts ob_tenMany ob_fewestBy ob_covered ob_queue ob_cameBy ob_parent ob_met ob_calls ob_callMany ob_calledOn ob_saved ob_many ob_width ob_numbers ob_moving), (ce_i9080 y ob_world f_1458), (ce_i27240 y ob_images fob_images), (ce_z3 y ob_hasImage fob_hasImage), (ce_i6 y ob_parts f_1376), (ce_i9080 y ob_saved f_1068)] ∧ va_S A s.heap H locs ∧ lv_has ls 5 [(3, .int v_1457), (2, .int v_1397), (0, .ref ob)]) ?_ (n := (9080 - (0 : Int32).toInt).toNat) ⟨0, f_1375, rfl, (bw (0) (9080) (bkc (x := 0) (c := 0) (by decide)) (by decide)), (cp_0 (by have h90 : Int32.toInt 0 = 0 := (by decide); omega)), rfl, ⟨hP, hD⟩, hS, lv_sub hl [0, 1, 2] rfl⟩
                rintro n ih_1462 H locs ls st ⟨v_1457, f_1458, hn_1462, bv_1457, rl1458_0, rfl, ⟨hP, hD⟩, hS, hl⟩
                refine lv_iload_n hx hb dX10_beside_232 rfl (lv_at hl 0 rfl) ?_
                refine lv_sipush (v := 9080) hx hb dX10_beside_233 (by decide) ?_
                refine lv_icmp_ge (tgt := 257) hx hb dX10_beside_236 (by decide) (fun c_1463 => ?_) (fun c_1463 => ?_)
                · skip
                  have nc_1463 := nb_le (9080) (9080) c_1463 (bkc (x := 9080) (c := 9080) (by decide)) bv_1457 (by decide)
                  have kf_1458 : RWw f_1458 := RW_same rl1458_0 (by omega) (RW_cong (cp_eq rl1068_0 (by omega)) p_fob_world)
                  refine lv_iload_n hx hb dX10_beside_257 rfl (lv_at hl 1 rfl) ?_
                  exact W.iret (v := v_1397) hx hb hr (fun t ht hW => ⟨⟨v_1397, _, rfl, ⟨v_1397, f_1458, f_1376, f_1068, (bw (-6) (600) bv_1397 (by decide)), kf_1458, (fun j hj => (cp_eq rl1458_0 (by omega) j hj).trans (cp_eq rl1068_0 (by omega) j hj)), rfl, rfl⟩, by rw [ht]; exact hP, hD⟩, hS.F ht⟩) hS.2.2 dX10_beside_258
                · skip
                  have nc_1463 := nb_nle (9079) (9080) c_1463 bv_1457 (bkc (x := 9080) (c := 9080) (by decide)) (by decide)
                  refine lv_aload_n hx hb dX10_beside_239 rfl (lv_at hl 2 rfl) ?_
                  refine va_get (D := G) (ci := 10) (v := .ref ob_world) (C := RX10) (T := TX10) (N := 41) hx hb hw0 inA_wsX100 hown hK.1 hP 0 rfl rfl 1 (by decide) (hw0 _ m_352) (fun _ h9 => h9) rfl dX10_beside_240 ?_
                  refine lv_iload_n hx hb dX10_beside_243 rfl (lv_at hl 0 rfl) ?_
                  refine lv_aload_n hx hb dX10_beside_244 rfl (lv_at hl 2 rfl) ?_
                  refine va_get (D := G) (ci := 10) (v := .ref ob_saved) (C := RX10) (T := TX10) (N := 41) hx hb hw0 inA_wsX100 hown hK.1 hP 0 rfl rfl 36 (by decide) (hw0 _ m_392) (fun _ h9 => h9) rfl dX10_beside_245 ?_
                  refine lv_iload_n hx hb dX10_beside_248 rfl (lv_at hl 0 rfl) ?_
                  refine va_iald hx hb hK.1 hP 5 1 rfl rfl (vi nc_1463.1 (by decide)) dX10_beside_249 ?_
                  refine lv_topi (fun v_1464 ev_1464 => ?_)
                  refine va_iast hx hb hK.1 hP hD hS 1 1 rfl rfl (vi nc_1463.1 (by decide)) dX10_beside_250 (fun H locs hP hD hS => ?_)
                  generalize hf_1465 : (upd f_1458 (v_1457 : Int32).toNatClampNeg v_1464) = f_1465 at hP hD
                  obtain ⟨hP, hD⟩ : vPD G A H [(ce_X10 ob ob_thrown ob_world ob_images ob_hasImage ob_tape ob_taped ob_five ob_size ob_at ob_from ob_token ob_value ob_faultKind ob_faultPlace ob_fresh ob_parts ob_houses ob_houseMany ob_worthOf ob_byCall ob_over ob_bestSet ob_bestOver ob_bestWorth ob_row ob_tenDebts ob_tenMany ob_fewestBy ob_covered ob_queue ob_cameBy ob_parent ob_met ob_calls ob_callMany ob_calledOn ob_saved ob_many ob_width ob_numbers ob_moving), (ce_i9080 y ob_world f_1465), (ce_i27240 y ob_images fob_images), (ce_z3 y ob_hasImage fob_hasImage), (ce_i6 y ob_parts f_1376), (ce_i9080 y ob_saved f_1068)] := ⟨hP, hD⟩
                  obtain ⟨v_1466, ev_1466⟩ : ∃ z : Int32, z = v_1457 + 1 := ⟨_, rfl⟩
                  have qv_1466 := ba_add ev_1466 nc_1463.1 (bkc (x := 1) (c := 1) (by decide)) (by decide)
                  have bv_1466 : (1 : Int) ≤ v_1466.toInt ∧ v_1466.toInt ≤ 9080 := bq_add qv_1466 nc_1463.1 (bkc (x := 1) (c := 1) (by decide)) _ _ (by decide)
                  have qv_1466 : v_1466.toInt = v_1457.toInt + (1) := qv_1466
                  refine lv_iinc (v := v_1466) (lv' := [(3, .int v_1466), (2, .int v_1397), (0, .ref ob)]) hx hb dX10_beside_251 hl (k := 0) rfl (ev_1466.symm) (by decide) rfl (fun ls hl => ?_)
                  refine lv_goto (tgt := 232) hx hb dX10_beside_254 (by decide) ?_
                  exact ih_1462 _ (ml_inc (hi := 9080) hn_1462 qv_1466 (by decide) ((bw (0) (9080) bv_1466 (by decide))).2) _ _ _ _ ⟨v_1466, f_1465, rfl, (bw (0) (9080) bv_1466 (by decide)), (cp_s rl1458_0 hf_1465 ev_1464 ((cl_to (by omega)).trans (by omega)) ((cl_to (by omega)).trans (by omega)) (by omega) (by omega)), rfl, ⟨hP, hD⟩, hS, lv_sub hl [0, 1, 2] rfl⟩
              · skip
                have nc_1396 := nb_nle (599) (1) c_1396 bv_1374 bv_1395 (by decide)
                refine lv_sipush (v := 6680) hx hb dX10_beside_172 (by decide) ?_
                refine lv_iconst (v := 4) hx hb dX10_beside_175 (by decide) ?_
                refine lv_iload_n hx hb dX10_beside_176 rfl (lv_at hl 0 rfl) ?_
                refine lv_imul hx hb dX10_beside_177 ?_
                refine lv_topi (fun v_1467 ev_1467 => ?_)
                have qv_1467 := ba_mul 4 (ev_1467.trans (Int32.mul_comm _ _)) nc_1396.1 (by decide) (by decide) (by decide)
                have bv_1467 : (0 : Int) ≤ v_1467.toInt ∧ v_1467.toInt ≤ 2396 := qv_1467.2
                refine lv_iadd hx hb dX10_beside_178 ?_
                refine lv_topi (fun v_1468 ev_1468 => ?_)
                have qv_1468 := ba_add ev_1468 (bkc (x := 6680) (c := 6680) (by decide)) bv_1467 (by decide)
                have bv_1468 : (6680 : Int) ≤ v_1468.toInt ∧ v_1468.toInt ≤ 9076 := bq_add qv_1468 (bkc (x := 6680) (c := 6680) (by decide)) bv_1467 _ _ (by decide)
                have qv_1468 : v_1468.toInt = (6680) + v_1467.toInt := qv_1468
                refine lv_istore_n (lv' := [(3, .int v_1468), (2, .int v_1374), (0, .ref ob)]) hx hb dX10_beside_179 rfl hl (by decide) rfl (fun ls hl => ?_)
                refine lv_aload_n hx hb dX10_beside_180 rfl (lv_at hl 2 rfl) ?_
                refine lv_aload_n hx hb dX10_beside_181 rfl (lv_at hl 2 rfl) ?_
                refine va_get (D := G) (ci := 10) (v := .ref ob_world) (C := RX10) (T := TX10) (N := 41) hx hb hw0 inA_wsX100 hown hK.1 hP 0 rfl rfl 1 (by decide) (hw0 _ m_352) (fun _ h9 => h9) rfl dX10_beside_182 ?_
                refine lv_iload_n hx hb dX10_beside_185 rfl (lv_at hl 0 rfl) ?_
                refine va_iald hx hb hK.1 hP 1 1 rfl rfl (vi bv_1468 (by decide)) dX10_beside_186 ?_
                refine lv_topi (fun v_1469 ev_1469 => ?_)
                have bv_1469 : (0 : Int) ≤ v_1469.toInt ∧ v_1469.toInt ≤ 15 := rdw ev_1469 (bf_1375).1.1 pl_74 (by omega) (nc_1396.1)
                refine lv_aload_n hx hb dX10_beside_187 rfl (lv_at hl 2 rfl) ?_
                refine va_get (D := G) (ci := 10) (v := .ref ob_world) (C := RX10) (T := TX10) (N := 41) hx hb hw0 inA_wsX100 hown hK.1 hP 0 rfl rfl 1 (by decide) (hw0 _ m_352) (fun _ h9 => h9) rfl dX10_beside_188 ?_
                refine lv_iload_n hx hb dX10_beside_191 rfl (lv_at hl 0 rfl) ?_
                refine lv_iconst (v := 1) hx hb dX10_beside_192 (by decide) ?_
                refine lv_iadd hx hb dX10_beside_193 ?_
                refine lv_topi (fun v_1470 ev_1470 => ?_)
                have qv_1470 := ba_add ev_1470 bv_1468 (bkc (x := 1) (c := 1) (by decide)) (by decide)
                have bv_1470 : (6681 : Int) ≤ v_1470.toInt ∧ v_1470.toInt ≤ 9077 := bq_add qv_1470 bv_1468 (bkc (x := 1) (c := 1) (by decide)) _ _ (by decide)
                have qv_1470 : v_1470.toInt = v_1468.toInt + (1) := qv_1470
                refine va_iald hx hb hK.1 hP 1 1 rfl rfl (vi bv_1470 (by decide)) dX10_beside_194 ?_
                refine lv_topi (fun v_1471 ev_1471 => ?_)
                have bv_1471 : (0 : Int) ≤ v_1471.toInt ∧ v_1471.toInt ≤ 15 := rdw ev_1471 (bf_1375).1.1 pl_75 (by omega) (nc_1396.1)
                refine lv_aload_n hx hb dX10_beside_195 rfl (lv_at hl 2 rfl) ?_
                refine va_get (D := G) (ci := 10) (v := .ref ob_world) (C := RX10) (T := TX10) (N := 41) hx hb hw0 inA_wsX100 hown hK.1 hP 0 rfl rfl 1 (by decide) (hw0 _ m_352) (fun _ h9 => h9) rfl dX10_beside_196 ?_
                refine lv_iload_n hx hb dX10_beside_199 rfl (lv_at hl 0 rfl) ?_
                refine lv_iconst (v := 2) hx hb dX10_beside_200 (by decide) ?_
                refine lv_iadd hx hb dX10_beside_201 ?_
                refine lv_topi (fun v_1472 ev_1472 => ?_)
                have qv_1472 := ba_add ev_1472 bv_1468 (bkc (x := 2) (c := 2) (by decide)) (by decide)
                have bv_1472 : (6682 : Int) ≤ v_1472.toInt ∧ v_1472.toInt ≤ 9078 := bq_add qv_1472 bv_1468 (bkc (x := 2) (c := 2) (by decide)) _ _ (by decide)
                have qv_1472 : v_1472.toInt = v_1468.toInt + (2) := qv_1472
                refine va_iald hx hb hK.1 hP 1 1 rfl rfl (vi bv_1472 (by decide)) dX10_beside_202 ?_
                refine lv_topi (fun v_1473 ev_1473 => ?_)
                refine lv_aload_n hx hb dX10_beside_203 rfl (lv_at hl 2 rfl) ?_
                refine va_get (D := G) (ci := 10) (v := .ref ob_world) (C := RX10) (T := TX10) (N := 41) hx hb hw0 inA_wsX100 hown hK.1 hP 0 rfl rfl 1 (by decide) (hw0 _ m_352) (fun _ h9 => h9) rfl dX10_beside_204 ?_
                refine lv_iload_n hx hb dX10_beside_207 rfl (lv_at hl 0 rfl) ?_
                refine lv_iconst (v := 3) hx hb dX10_beside_208 (by decide) ?_
                refine lv_iadd hx hb dX10_beside_209 ?_
                refine lv_topi (fun v_1474 ev_1474 => ?_)
                have qv_1474 := ba_add ev_1474 bv_1468 (bkc (x := 3) (c := 3) (by decide)) (by decide)
                have bv_1474 : (6683 : Int) ≤ v_1474.toInt ∧ v_1474.toInt ≤ 9079 := bq_add qv_1474 bv_1468 (bkc (x := 3) (c := 3) (by decide)) _ _ (by decide)
                have qv_1474 : v_1474.toInt = v_1468.toInt + (3) := qv_1474
                refine va_iald hx hb hK.1 hP 1 1 rfl rfl (vi bv_1474 (by decide)) dX10_beside_210 ?_
                refine lv_topi (fun v_1475 ev_1475 => ?_)
                refine cVim (As := [.int v_1469, .int v_1471, .int v_1473, .int v_1475]) (rest := []) ⟨hx, hb, hml, hown, hw0⟩ hA hK hP hD hS [true, true, false, false, true] (sX10_goes l G y _ ob v_1469 v_1471 v_1473 v_1475 ob_thrown ob_world ob_images ob_hasImage ob_tape ob_taped ob_five ob_size ob_at ob_from ob_token ob_value ob_faultKind ob_faultPlace ob_fresh ob_parts ob_houses ob_houseMany ob_worthOf ob_byCall ob_over ob_bestSet ob_bestOver ob_bestWorth ob_row ob_tenDebts ob_tenMany ob_fewestBy ob_covered ob_queue ob_cameBy ob_parent ob_met ob_calls ob_callMany ob_calledOn ob_saved ob_many ob_width ob_numbers ob_moving f_1375 f_1376 bf_1375 p_ob_taped p_ob_size p_ob_at p_ob_from p_ob_token p_ob_value p_ob_faultKind p_ob_houseMany p_ob_bestSet p_ob_bestOver p_ob_tenMany p_ob_callMany bv_1469 bv_1471 (by omega)) rfl ⟨(callB_of 4 hw0 (gA m_489) rfl rfl rfl (hw0 _ m_41) (hw0 _ m_393) cb_X10_goes ⟨Nat.le_of_ble_eq_true rfl, Nat.le_of_ble_eq_true rfl⟩), (hw0 _ m_394), (hw0 _ m_395)⟩ (ci := 10) (q := (RX10, TX10, 41)) rfl rfl rfl hl.1 (Nat.le_of_ble_eq_true rfl) dX10_beside_211 ⟨Nat.le_of_ble_eq_true rfl, Nat.le_of_ble_eq_true rfl⟩ (fun r_1476 w_1476 H locs hw_1476 hP hD hS => ?_)
                obtain ⟨v_1477, f_1478, f_1479, bv_1477, bf_1478, h_1480, h_1481, er_1476, rfl⟩ := hw_1476
                subst r_1476
                obtain ⟨hP, hD⟩ : vPD G A H [(ce_X10 ob ob_thrown ob_world ob_images ob_hasImage ob_tape ob_taped ob_five ob_size ob_at ob_from ob_token ob_value ob_faultKind ob_faultPlace ob_fresh ob_parts ob_houses ob_houseMany ob_worthOf ob_byCall ob_over ob_bestSet ob_bestOver ob_bestWorth ob_row ob_tenDebts ob_tenMany ob_fewestBy ob_covered ob_queue ob_cameBy ob_parent ob_met ob_calls ob_callMany ob_calledOn ob_saved ob_many ob_width ob_numbers ob_moving), (ce_i9080 y ob_world f_1478), (ce_i27240 y ob_images fob_images), (ce_z3 y ob_hasImage fob_hasImage), (ce_i6 y ob_parts f_1479), (ce_i9080 y ob_saved f_1068)] := ⟨hP, hD⟩
                refine lv_istore (lv' := [(4, .int v_1477), (3, .int v_1468), (2, .int v_1374), (0, .ref ob)]) hx hb dX10_beside_214 hl (by decide) rfl (fun ls hl => ?_)
                obtain ⟨v_1482, ev_1482⟩ : ∃ z : Int32, z = v_1374 + 1 := ⟨_, rfl⟩
                have qv_1482 := ba_add ev_1482 nc_1396.1 (bkc (x := 1) (c := 1) (by decide)) (by decide)
                have bv_1482 : (1 : Int) ≤ v_1482.toInt ∧ v_1482.toInt ≤ 600 := bq_add qv_1482 nc_1396.1 (bkc (x := 1) (c := 1) (by decide)) _ _ (by decide)
                have qv_1482 : v_1482.toInt = v_1374.toInt + (1) := qv_1482
                refine lv_iinc (v := v_1482) (lv' := [(2, .int v_1482), (4, .int v_1477), (3, .int v_1468), (0, .ref ob)]) hx hb dX10_beside_216 hl (k := 2) rfl (ev_1482.symm) (by decide) rfl (fun ls hl => ?_)
                refine lv_goto (tgt := 161) hx hb dX10_beside_219 (by decide) ?_
                exact ih_1394 _ (ml_inc (hi := 600) hn_1394 qv_1482 (by decide) ((bw (0) (600) bv_1482 (by decide))).2) _ _ _ _ ⟨v_1482, f_1478, f_1479, rfl, (bw (0) (600) bv_1482 (by decide)), bf_1478, (by omega), rfl, ⟨hP, hD⟩, hS, lv_sub hl [0, 3] rfl⟩
            · skip
              have nc_1313 := nb_nle (15) (16) c_1313 bv_1304 (bkc (x := 16) (c := 16) (by decide)) (by decide)
              refine lv_aload_n hx hb dX10_beside_128 rfl (lv_at hl 1 rfl) ?_
              refine va_get (D := G) (ci := 10) (v := .ref ob_world) (C := RX10) (T := TX10) (N := 41) hx hb hw0 inA_wsX100 hown hK.1 hP 0 rfl rfl 1 (by decide) (hw0 _ m_352) (fun _ h9 => h9) rfl dX10_beside_129 ?_
              refine lv_sipush (v := 1864) hx hb dX10_beside_132 (by decide) ?_
              refine lv_iload_n hx hb dX10_beside_135 rfl (lv_at hl 0 rfl) ?_
              refine lv_iadd hx hb dX10_beside_136 ?_
              refine lv_topi (fun v_1483 ev_1483 => ?_)
              have qv_1483 := ba_add ev_1483 (bkc (x := 1864) (c := 1864) (by decide)) nc_1313.1 (by decide)
              have bv_1483 : (1864 : Int) ≤ v_1483.toInt ∧ v_1483.toInt ≤ 1879 := bq_add qv_1483 (bkc (x := 1864) (c := 1864) (by decide)) nc_1313.1 _ _ (by decide)
              have qv_1483 : v_1483.toInt = (1864) + v_1304.toInt := qv_1483
              refine lv_aload_n hx hb dX10_beside_137 rfl (lv_at hl 1 rfl) ?_
              refine lv_iload_n hx hb dX10_beside_138 rfl (lv_at hl 0 rfl) ?_
              refine lv_bipush (v := 8) hx hb dX10_beside_139 (by decide) ?_
              refine cVim (As := [.int v_1304, .int 8]) (rest := [.int v_1483, .ref ob_world]) ⟨hx, hb, hml, hown, hw0⟩ hA hK hP hD hS [true, true] (sofHouse8 l G y _ ob v_1304 ob_thrown ob_world ob_images ob_hasImage ob_tape ob_taped ob_five ob_size ob_at ob_from ob_token ob_value ob_faultKind ob_faultPlace ob_fresh ob_parts ob_houses ob_houseMany ob_worthOf ob_byCall ob_over ob_bestSet ob_bestOver ob_bestWorth ob_row ob_tenDebts ob_tenMany ob_fewestBy ob_covered ob_queue ob_cameBy ob_parent ob_met ob_calls ob_callMany ob_calledOn ob_saved ob_many ob_width ob_numbers ob_moving f_1305 bf_1305 p_ob_taped p_ob_size p_ob_at p_ob_from p_ob_token p_ob_value p_ob_faultKind p_ob_houseMany p_ob_bestSet p_ob_bestOver p_ob_tenMany p_ob_callMany nc_1313.1) rfl ⟨(callB_of 2 hw0 (gA m_577) rfl rfl rfl (hw0 _ m_41) (hw0 _ m_388) cb_X10_ofHouse ⟨Nat.le_of_ble_eq_true rfl, Nat.le_of_ble_eq_true rfl⟩), (hw0 _ m_389), (hw0 _ m_390)⟩ (ci := 10) (q := (RX10, TX10, 41)) rfl rfl rfl hl.1 (Nat.le_of_ble_eq_true rfl) dX10_beside_141 ⟨Nat.le_of_ble_eq_true rfl, Nat.le_of_ble_eq_true rfl⟩ (fun r_1484 w_1484 H locs hw_1484 hP hD hS => ?_)
              obtain ⟨v_1485, bv_1485, h_1486, er_1484, rfl⟩ := hw_1484
              subst r_1484
              obtain ⟨hP, hD⟩ : vPD G A H [(ce_X10 ob ob_thrown ob_world ob_images ob_hasImage ob_tape ob_taped ob_five ob_size ob_at ob_from ob_token ob_value ob_faultKind ob_faultPlace ob_fresh ob_parts ob_houses ob_houseMany ob_worthOf ob_byCall ob_over ob_bestSet ob_bestOver ob_bestWorth ob_row ob_tenDebts ob_tenMany ob_fewestBy ob_covered ob_queue ob_cameBy ob_parent ob_met ob_calls ob_callMany ob_calledOn ob_saved ob_many ob_width ob_numbers ob_moving), (ce_i9080 y ob_world f_1305), (ce_i27240 y ob_images fob_images), (ce_z3 y ob_hasImage fob_hasImage), (ce_i6 y ob_parts fob_parts), (ce_i9080 y ob_saved f_1068)] := ⟨hP, hD⟩
              refine va_iast hx hb hK.1 hP hD hS 1 1 rfl rfl (vi bv_1483 (by decide)) dX10_beside_144 (fun H locs hP hD hS => ?_)
              generalize hf_1487 : (upd f_1305 (v_1483 : Int32).toNatClampNeg v_1485) = f_1487 at hP hD
              have zf_1487_7 : (f_1487 7).toInt = (f_1305 7).toInt := hf_1487 ▸ pin_ne (ix_not bv_1483 (by decide))
              have zf_1487_8 : (f_1487 8).toInt = (f_1305 8).toInt := hf_1487 ▸ pin_ne (ix_not bv_1483 (by decide))
              have bf_1487 : RBw f_1487 := hf_1487 ▸ upw (bf_1305).1.1 pl_13 (by omega) (nc_1313.1) bv_1485
              have cf_1487 : RVw f_1487 := hf_1487 ▸ RV_up (bf_1305).1 (hf_1487 ▸ bf_1487) (ix_out bv_1483 (by decide))
              have df_1487 : RWw f_1487 := ⟨cf_1487, hf_1487 ▸ WQ_up (bf_1305).1.1 (bf_1305).2 (qf_ix bv_1483 (by decide))⟩
              obtain ⟨hP, hD⟩ : vPD G A H [(ce_X10 ob ob_thrown ob_world ob_images ob_hasImage ob_tape ob_taped ob_five ob_size ob_at ob_from ob_token ob_value ob_faultKind ob_faultPlace ob_fresh ob_parts ob_houses ob_houseMany ob_worthOf ob_byCall ob_over ob_bestSet ob_bestOver ob_bestWorth ob_row ob_tenDebts ob_tenMany ob_fewestBy ob_covered ob_queue ob_cameBy ob_parent ob_met ob_calls ob_callMany ob_calledOn ob_saved ob_many ob_width ob_numbers ob_moving), (ce_i9080 y ob_world f_1487), (ce_i27240 y ob_images fob_images), (ce_z3 y ob_hasImage fob_hasImage), (ce_i6 y ob_parts fob_parts), (ce_i9080 y ob_saved f_1068)] := ⟨hP, hD⟩
              obtain ⟨v_1488, ev_1488⟩ : ∃ z : Int32, z = v_1304 + 1 := ⟨_, rfl⟩
              have qv_1488 := ba_add ev_1488 nc_1313.1 (bkc (x := 1) (c := 1) (by decide)) (by decide)
              have bv_1488 : (1 : Int) ≤ v_1488.toInt ∧ v_1488.toInt ≤ 16 := bq_add qv_1488 nc_1313.1 (bkc (x := 1) (c := 1) (by decide)) _ _ (by decide)
              have qv_1488 : v_1488.toInt = v_1304.toInt + (1) := qv_1488
              refine lv_iinc (v := v_1488) (lv' := [(2, .int v_1488), (0, .ref ob)]) hx hb dX10_beside_145 hl (k := 0) rfl (ev_1488.symm) (by decide) rfl (fun ls hl => ?_)
              refine lv_goto (tgt := 122) hx hb dX10_beside_148 (by decide) ?_
              exact ih_1312 _ (ml_inc (hi := 16) hn_1312 qv_1488 (by decide) ((bw (0) (16) bv_1488 (by decide))).2) _ _ _ _ ⟨v_1488, f_1487, rfl, (bw (0) (16) bv_1488 (by decide)), df_1487, rfl, ⟨hP, hD⟩, hS, lv_sub hl [0, 1] rfl⟩
          · skip
            have nc_1208 := nb_nlt (3) (3) c_1208 bv_1200 (bkc (x := 3) (c := 3) (by decide)) (by decide)
            refine lv_aload_n hx hb dX10_beside_96 rfl (lv_at hl 1 rfl) ?_
            refine va_get (D := G) (ci := 10) (v := .ref ob_world) (C := RX10) (T := TX10) (N := 41) hx hb hw0 inA_wsX100 hown hK.1 hP 0 rfl rfl 1 (by decide) (hw0 _ m_352) (fun _ h9 => h9) rfl dX10_beside_97 ?_
            refine lv_iload_n hx hb dX10_beside_100 rfl (lv_at hl 0 rfl) ?_
            refine lv_aload_n hx hb dX10_beside_101 rfl (lv_at hl 1 rfl) ?_
            refine va_get (D := G) (ci := 10) (v := .ref ob_images) (C := RX10) (T := TX10) (N := 41) hx hb hw0 inA_wsX100 hown hK.1 hP 0 rfl rfl 2 (by decide) (hw0 _ m_362) (fun _ h9 => h9) rfl dX10_beside_102 ?_
            refine lv_sipush (v := 9080) hx hb dX10_beside_105 (by decide) ?_
            refine lv_iload_n hx hb dX10_beside_108 rfl (lv_at hl 2 rfl) ?_
            refine lv_imul hx hb dX10_beside_109 ?_
            refine lv_topi (fun v_1489 ev_1489 => ?_)
            obtain rfl : 0 = v_1489 := (ev_1489.trans (by decide)).symm
            refine lv_iload_n hx hb dX10_beside_110 rfl (lv_at hl 0 rfl) ?_
            refine lv_iadd hx hb dX10_beside_111 ?_
            refine lv_topi (fun v_1490 ev_1490 => ?_)
            have qv_1490 := ba_add ev_1490 (bkc (x := 0) (c := 0) (by decide)) nc_1208.1 (by decide)
            have bv_1490 : (1 : Int) ≤ v_1490.toInt ∧ v_1490.toInt ≤ 3 := bq_add qv_1490 (bkc (x := 0) (c := 0) (by decide)) nc_1208.1 _ _ (by decide)
            have qv_1490 : v_1490.toInt = (0) + v_1200.toInt := qv_1490
            refine va_iald hx hb hK.1 hP 2 1 rfl rfl (vi bv_1490 (by decide)) dX10_beside_112 ?_
            refine lv_topi (fun v_1491 ev_1491 => ?_)
            refine va_iast hx hb hK.1 hP hD hS 1 1 rfl rfl (vi nc_1208.1 (by decide)) dX10_beside_113 (fun H locs hP hD hS => ?_)
            generalize hf_1492 : (upd f_1201 (v_1200 : Int32).toNatClampNeg v_1491) = f_1492 at hP hD
            have zf_1492_7 : (f_1492 7).toInt = (f_1201 7).toInt := hf_1492 ▸ pin_ne (ix_not nc_1208.1 (by decide))
            have zf_1492_8 : (f_1492 8).toInt = (f_1201 8).toInt := hf_1492 ▸ pin_ne (ix_not nc_1208.1 (by decide))
            obtain ⟨hP, hD⟩ : vPD G A H [(ce_X10 ob ob_thrown ob_world ob_images ob_hasImage ob_tape ob_taped ob_five ob_size ob_at ob_from ob_token ob_value ob_faultKind ob_faultPlace ob_fresh ob_parts ob_houses ob_houseMany ob_worthOf ob_byCall ob_over ob_bestSet ob_bestOver ob_bestWorth ob_row ob_tenDebts ob_tenMany ob_fewestBy ob_covered ob_queue ob_cameBy ob_parent ob_met ob_calls ob_callMany ob_calledOn ob_saved ob_many ob_width ob_numbers ob_moving), (ce_i9080 y ob_world f_1492), (ce_i27240 y ob_images fob_images), (ce_z3 y ob_hasImage fob_hasImage), (ce_i6 y ob_parts fob_parts), (ce_i9080 y ob_saved f_1068)] := ⟨hP, hD⟩
            obtain ⟨v_1493, ev_1493⟩ : ∃ z : Int32, z = v_1200 + 1 := ⟨_, rfl⟩
            have qv_1493 := ba_add ev_1493 nc_1208.1 (bkc (x := 1) (c := 1) (by decide)) (by decide)
            have bv_1493 : (2 : Int) ≤ v_1493.toInt ∧ v_1493.toInt ≤ 4 := bq_add qv_1493 nc_1208.1 (bkc (x := 1) (c := 1) (by decide)) _ _ (by decide)
            have qv_1493 : v_1493.toInt = v_1200.toInt + (1) := qv_1493
            refine lv_iinc (v := v_1493) (lv' := [(2, .int v_1493), (0, .ref ob), (1, .int 0)]) hx hb dX10_beside_114 hl (k := 0) rfl (ev_1493.symm) (by decide) rfl (fun ls hl => ?_)
            refine lv_goto (tgt := 91) hx hb dX10_beside_117 (by decide) ?_
            exact ih_1207 _ (ml_inc (hi := 4) hn_1207 qv_1493 (by decide) ((bw (1) (4) bv_1493 (by decide))).2) _ _ _ _ ⟨v_1493, f_1492, rfl, (bw (1) (4) bv_1493 (by decide)), (cp_s rl1201_0 hf_1492 ev_1491 ((cl_to (by omega)).trans (by omega)) ((cl_to (by omega)).trans (by omega)) (by omega) (by omega)), rfl, ⟨hP, hD⟩, hS, lv_sub hl [0, 1, 2] rfl⟩
        · skip
          have nc_1165 := nb_nle (1863) (1864) c_1165 bv_1157 (bkc (x := 1864) (c := 1864) (by decide)) (by decide)
          refine lv_aload_n hx hb dX10_beside_65 rfl (lv_at hl 1 rfl) ?_
          refine va_get (D := G) (ci := 10) (v := .ref ob_world) (C := RX10) (T := TX10) (N := 41) hx hb hw0 inA_wsX100 hown hK.1 hP 0 rfl rfl 1 (by decide) (hw0 _ m_352) (fun _ h9 => h9) rfl dX10_beside_66 ?_
          refine lv_iload_n hx hb dX10_beside_69 rfl (lv_at hl 0 rfl) ?_
          refine lv_aload_n hx hb dX10_beside_70 rfl (lv_at hl 1 rfl) ?_
          refine va_get (D := G) (ci := 10) (v := .ref ob_images) (C := RX10) (T := TX10) (N := 41) hx hb hw0 inA_wsX100 hown hK.1 hP 0 rfl rfl 2 (by decide) (hw0 _ m_362) (fun _ h9 => h9) rfl dX10_beside_71 ?_
          refine lv_sipush (v := 9080) hx hb dX10_beside_74 (by decide) ?_
          refine lv_iload_n hx hb dX10_beside_77 rfl (lv_at hl 2 rfl) ?_
          refine lv_imul hx hb dX10_beside_78 ?_
          refine lv_topi (fun v_1494 ev_1494 => ?_)
          obtain rfl : 0 = v_1494 := (ev_1494.trans (by decide)).symm
          refine lv_iload_n hx hb dX10_beside_79 rfl (lv_at hl 0 rfl) ?_
          refine lv_iadd hx hb dX10_beside_80 ?_
          refine lv_topi (fun v_1495 ev_1495 => ?_)
          have qv_1495 := ba_add ev_1495 (bkc (x := 0) (c := 0) (by decide)) nc_1165.1 (by decide)
          have bv_1495 : (154 : Int) ≤ v_1495.toInt ∧ v_1495.toInt ≤ 1863 := bq_add qv_1495 (bkc (x := 0) (c := 0) (by decide)) nc_1165.1 _ _ (by decide)
          have qv_1495 : v_1495.toInt = (0) + v_1157.toInt := qv_1495
          refine va_iald hx hb hK.1 hP 2 1 rfl rfl (vi bv_1495 (by decide)) dX10_beside_81 ?_
          refine lv_topi (fun v_1496 ev_1496 => ?_)
          refine va_iast hx hb hK.1 hP hD hS 1 1 rfl rfl (vi nc_1165.1 (by decide)) dX10_beside_82 (fun H locs hP hD hS => ?_)
          generalize hf_1497 : (upd f_1158 (v_1157 : Int32).toNatClampNeg v_1496) = f_1497 at hP hD
          have zf_1497_7 : (f_1497 7).toInt = (f_1158 7).toInt := hf_1497 ▸ pin_ne (ix_not nc_1165.1 (by decide))
          have zf_1497_8 : (f_1497 8).toInt = (f_1158 8).toInt := hf_1497 ▸ pin_ne (ix_not nc_1165.1 (by decide))
          obtain ⟨hP, hD⟩ : vPD G A H [(ce_X10 ob ob_thrown ob_world ob_images ob_hasImage ob_tape ob_taped ob_five ob_size ob_at ob_from ob_token ob_value ob_faultKind ob_faultPlace ob_fresh ob_parts ob_houses ob_houseMany ob_worthOf ob_byCall ob_over ob_bestSet ob_bestOver ob_bestWorth ob_row ob_tenDebts ob_tenMany ob_fewestBy ob_covered ob_queue ob_cameBy ob_parent ob_met ob_calls ob_callMany ob_calledOn ob_saved ob_many ob_width ob_numbers ob_moving), (ce_i9080 y ob_world f_1497), (ce_i27240 y ob_images fob_images), (ce_z3 y ob_hasImage fob_hasImage), (ce_i6 y ob_parts fob_parts), (ce_i9080 y ob_saved f_1068)] := ⟨hP, hD⟩
          obtain ⟨v_1498, ev_1498⟩ : ∃ z : Int32, z = v_1157 + 1 := ⟨_, rfl⟩
          have qv_1498 := ba_add ev_1498 nc_1165.1 (bkc (x := 1) (c := 1) (by decide)) (by decide)
          have bv_1498 : (155 : Int) ≤ v_1498.toInt ∧ v_1498.toInt ≤ 1864 := bq_add qv_1498 nc_1165.1 (bkc (x := 1) (c := 1) (by decide)) _ _ (by decide)
          have qv_1498 : v_1498.toInt = v_1157.toInt + (1) := qv_1498
          refine lv_iinc (v := v_1498) (lv' := [(2, .int v_1498), (0, .ref ob), (1, .int 0)]) hx hb dX10_beside_83 hl (k := 0) rfl (ev_1498.symm) (by decide) rfl (fun ls hl => ?_)
          refine lv_goto (tgt := 58) hx hb dX10_beside_86 (by decide) ?_
          exact ih_1164 _ (ml_inc (hi := 1864) hn_1164 qv_1498 (by decide) ((bw (154) (1864) bv_1498 (by decide))).2) _ _ _ _ ⟨v_1498, f_1497, rfl, (bw (154) (1864) bv_1498 (by decide)), (cp_s rl1158_0 hf_1497 ev_1496 ((cl_to (by omega)).trans (by omega)) ((cl_to (by omega)).trans (by omega)) (by omega) (by omega)), rfl, ⟨hP, hD⟩, hS, lv_sub hl [0, 1, 2] rfl⟩
      · skip
        have nc_1073 := nb_nle (9079) (9080) c_1073 bv_1067 (bkc (x := 9080) (c := 9080) (by decide)) (by decide)
        refine lv_aload_n hx hb dX10_beside_36 rfl (lv_at hl 1 rfl) ?_
        refine va_get (D := G) (ci := 10) (v := .ref ob_saved) (C := RX10) (T := TX10) (N := 41) hx hb hw0 inA_wsX100 hown hK.1 hP 0 rfl rfl 36 (by decide) (hw0 _ m_392) (fun _ h9 => h9) rfl dX10_beside_37 ?_
        refine lv_iload_n hx hb dX10_beside_40 rfl (lv_at hl 0 rfl) ?_
        refine lv_aload_n hx hb dX10_beside_41 rfl (lv_at hl 1 rfl) ?_
        refine va_get (D := G) (ci := 10) (v := .ref ob_world) (C := RX10) (T := TX10) (N := 41) hx hb hw0 inA_wsX100 hown hK.1 hP 0 rfl rfl 1 (by decide) (hw0 _ m_352) (fun _ h9 => h9) rfl dX10_beside_42 ?_
        refine lv_iload_n hx hb dX10_beside_45 rfl (lv_at hl 0 rfl) ?_
        refine va_iald hx hb hK.1 hP 1 1 rfl rfl (vi nc_1073.1 (by decide)) dX10_beside_46 ?_
        refine lv_topi (fun v_1499 ev_1499 => ?_)
        refine va_iast hx hb hK.1 hP hD hS 5 1 rfl rfl (vi nc_1073.1 (by decide)) dX10_beside_47 (fun H locs hP hD hS => ?_)
        generalize hf_1500 : (upd f_1068 (v_1067 : Int32).toNatClampNeg v_1499) = f_1500 at hP hD
        obtain ⟨hP, hD⟩ : vPD G A H [(ce_X10 ob ob_thrown ob_world ob_images ob_hasImage ob_tape ob_taped ob_five ob_size ob_at ob_from ob_token ob_value ob_faultKind ob_faultPlace ob_fresh ob_parts ob_houses ob_houseMany ob_worthOf ob_byCall ob_over ob_bestSet ob_bestOver ob_bestWorth ob_row ob_tenDebts ob_tenMany ob_fewestBy ob_covered ob_queue ob_cameBy ob_parent ob_met ob_calls ob_callMany ob_calledOn ob_saved ob_many ob_width ob_numbers ob_moving), (ce_i9080 y ob_world fob_world), (ce_i27240 y ob_images fob_images), (ce_z3 y ob_hasImage fob_hasImage), (ce_i6 y ob_parts fob_parts), (ce_i9080 y ob_saved f_1500)] := ⟨hP, hD⟩
        obtain ⟨v_1501, ev_1501⟩ : ∃ z : Int32, z = v_1067 + 1 := ⟨_, rfl⟩
        have qv_1501 := ba_add ev_1501 nc_1073.1 (bkc (x := 1) (c := 1) (by decide)) (by decide)
        have bv_1501 : (1 : Int) ≤ v_1501.toInt ∧ v_1501.toInt ≤ 9080 := bq_add qv_1501 nc_1073.1 (bkc (x := 1) (c := 1) (by decide)) _ _ (by decide)
        have qv_1501 : v_1501.toInt = v_1067.toInt + (1) := qv_1501
        refine lv_iinc (v := v_1501) (lv' := [(2, .int v_1501), (0, .ref ob), (1, .int 0)]) hx hb dX10_beside_48 hl (k := 0) rfl (ev_1501.symm) (by decide) rfl (fun ls hl => ?_)
        refine lv_goto (tgt := 29) hx hb dX10_beside_51 (by decide) ?_
        exact ih_1072 _ (ml_inc (hi := 9080) hn_1072 qv_1501 (by decide) ((bw (0) (9080) bv_1501 (by decide))).2) _ _ _ _ ⟨v_1501, f_1500, rfl, (bw (0) (9080) bv_1501 (by decide)), (cp_s rl1068_0 hf_1500 ev_1499 ((cl_to (by omega)).trans (by omega)) ((cl_to (by omega)).trans (by omega)) (by omega) (by omega)), rfl, ⟨hP, hD⟩, hS, lv_sub hl [0, 1, 2] rfl⟩
    · skip
      have nc_1007 := nb_eq (0) (0) c_1007 bv_1006 (bkc (x := 0) (c := 0) (by decide)) (by decide)
      refine lv_bipush (v := (-6)) hx hb dX10_beside_24 (by decide) ?_
      exact W.iret (v := (-6)) hx hb hr (fun t ht hW => ⟨⟨(-6), _, rfl, ⟨(-6), fob_world, fob_parts, fob_saved, (bw (-6) (600) (bkc (x := (-6)) (c := -6) (by decide)) (by decide)), p_fob_world, (fun _ _ => rfl), rfl, rfl⟩, by rw [ht]; exact hP, hD⟩, hS.F ht⟩) hS.2.2 dX10_beside_26

set_option maxHeartbeats 4000000 in
set_option maxRecDepth 100000 in
theorem sbes1 (l : Launch) (G : va_G) (y : Nat → ClassId) (sz : Nat) (ob : Nat) (ob_thrown : Int32) (ob_world : Nat) (ob_images : Nat) (ob_hasImage : Nat) (ob_tape : Nat) (ob_taped : Int32) (ob_five : Nat) (ob_size : Int32) (ob_at : Int32) (ob_from : Int32) (ob_token : Int32) (ob_value : Int32) (ob_faultKind : Int32) (ob_faultPlace : Int32) (ob_fresh : Nat) (ob_parts : Nat) (ob_houses : Nat) (ob_houseMany : Int32) (ob_worthOf : Nat) (ob_byCall : Nat) (ob_over : Nat) (ob_bestSet : Int32) (ob_bestOver : Int32) (ob_bestWorth : Int32) (ob_row : Nat) (ob_tenDebts : Nat) (ob_tenMany : Int32) (ob_fewestBy : Nat) (ob_covered : Nat) (ob_queue : Nat) (ob_cameBy : Nat) (ob_parent : Nat) (ob_met : Nat) (ob_calls : Nat) (ob_callMany : Int32) (ob_calledOn : Nat) (ob_saved : Nat) (ob_many : Nat) (ob_width : Nat) (ob_numbers : Nat) (ob_moving : Nat) (fob_world : Nat → Int32) (fob_images : Nat → Int32) (fob_hasImage : Nat → Int32) (fob_parts : Nat → Int32) (fob_saved : Nat → Int32) (p_fob_world : RWw fob_world) (p_fob_images : RIw fob_images) (p_fob_hasImage : ∀ i, (0 : Int) ≤ (fob_hasImage i).toInt ∧ (fob_hasImage i).toInt ≤ 1) (p_ob_taped : (0 : Int) ≤ ob_taped.toInt ∧ ob_taped.toInt ≤ 1400) (p_ob_size : (0 : Int) ≤ ob_size.toInt ∧ ob_size.toInt ≤ 1400) (p_ob_at : (0 : Int) ≤ ob_at.toInt ∧ ob_at.toInt ≤ 1400) (p_ob_from : (0 : Int) ≤ ob_from.toInt ∧ ob_from.toInt ≤ 1400) (p_ob_token : (0 : Int) ≤ ob_token.toInt ∧ ob_token.toInt ≤ 4) (p_ob_value : (0 : Int) ≤ ob_value.toInt ∧ ob_value.toInt ≤ 9999) (p_ob_faultKind : (0 : Int) ≤ ob_faultKind.toInt ∧ ob_faultKind.toInt ≤ 3) (p_ob_houseMany : (0 : Int) ≤ ob_houseMany.toInt ∧ ob_houseMany.toInt ≤ 10) (p_ob_bestSet : (0 : Int) ≤ ob_bestSet.toInt ∧ ob_bestSet.toInt ≤ 1023) (p_ob_bestOver : (-1 : Int) ≤ ob_bestOver.toInt ∧ ob_bestOver.toInt ≤ 180) (p_ob_tenMany : (0 : Int) ≤ ob_tenMany.toInt ∧ ob_tenMany.toInt ≤ 10) (p_ob_callMany : (0 : Int) ≤ ob_callMany.toInt ∧ ob_callMany.toInt ≤ 16) : Met l yX10_beside (Cond.code yX10_beside cX10_beside 5 (some .int) :: wAll) ({ frames := 4, cells := 0, slots := 0, locals := 111 }) (va_Pc [.ref ob, .int 1] (kp G y sz [(ce_X10 ob ob_thrown ob_world ob_images ob_hasImage ob_tape ob_taped ob_five ob_size ob_at ob_from ob_token ob_value ob_faultKind ob_faultPlace ob_fresh ob_parts ob_houses ob_houseMany ob_worthOf ob_byCall ob_over ob_bestSet ob_bestOver ob_bestWorth ob_row ob_tenDebts ob_tenMany ob_fewestBy ob_covered ob_queue ob_cameBy ob_parent ob_met ob_calls ob_callMany ob_calledOn ob_saved ob_many ob_width ob_numbers ob_moving), (ce_i9080 y ob_world fob_world), (ce_i27240 y ob_images fob_images), (ce_z3 y ob_hasImage fob_hasImage), (ce_i6 y ob_parts fob_parts), (ce_i9080 y ob_saved fob_saved)])) (va_Qi (fun (r : Int32) (w : va_W) => (∃ (v_1003 : Int32) (f_1004 : Nat → Int32) (f_1005 : Nat → Int32) (f_1006 : Nat → Int32), ((-6 : Int) ≤ v_1003.toInt ∧ v_1003.toInt ≤ 600) ∧ (RWw f_1004) ∧ (∀ j : Nat, j < 9080 → f_1004 j = fob_world j) ∧ r = v_1003 ∧ w = [(ce_X10 ob ob_thrown ob_world ob_images ob_hasImage ob_tape ob_taped ob_five ob_size ob_at ob_from ob_token ob_value ob_faultKind ob_faultPlace ob_fresh ob_parts ob_houses ob_houseMany ob_worthOf ob_byCall ob_over ob_bestSet ob_bestOver ob_bestWorth ob_row ob_tenDebts ob_tenMany ob_fewestBy ob_covered ob_queue ob_cameBy ob_parent ob_met ob_calls ob_callMany ob_calledOn ob_saved ob_many ob_width ob_numbers ob_moving), (ce_i9080 y ob_world f_1004), (ce_i27240 y ob_images fob_images), (ce_z3 y ob_hasImage fob_hasImage), (ce_i6 y ob_parts f_1005), (ce_i9080 y ob_saved f_1006)])) (kq G (va_A [(ce_X10 ob ob_thrown ob_world ob_images ob_hasImage ob_tape ob_taped ob_five ob_size ob_at ob_from ob_token ob_value ob_faultKind ob_faultPlace ob_fresh ob_parts ob_houses ob_houseMany ob_worthOf ob_byCall ob_over ob_bestSet ob_bestOver ob_bestWorth ob_row ob_tenDebts ob_tenMany ob_fewestBy ob_covered ob_queue ob_cameBy ob_parent ob_met ob_calls ob_callMany ob_calledOn ob_saved ob_many ob_width ob_numbers ob_moving), (ce_i9080 y ob_world fob_world), (ce_i27240 y ob_images fob_images), (ce_z3 y ob_hasImage fob_hasImage), (ce_i6 y ob_parts fob_parts), (ce_i9080 y ob_saved fob_saved)] sz)) (va_A [(ce_X10 ob ob_thrown ob_world ob_images ob_hasImage ob_tape ob_taped ob_five ob_size ob_at ob_from ob_token ob_value ob_faultKind ob_faultPlace ob_fresh ob_parts ob_houses ob_houseMany ob_worthOf ob_byCall ob_over ob_bestSet ob_bestOver ob_bestWorth ob_row ob_tenDebts ob_tenMany ob_fewestBy ob_covered ob_queue ob_cameBy ob_parent ob_met ob_calls ob_callMany ob_calledOn ob_saved ob_many ob_width ob_numbers ob_moving), (ce_i9080 y ob_world fob_world), (ce_i27240 y ob_images fob_images), (ce_z3 y ob_hasImage fob_hasImage), (ce_i6 y ob_parts fob_parts), (ce_i9080 y ob_saved fob_saved)] sz)) 0 0 (va_A [(ce_X10 ob ob_thrown ob_world ob_images ob_hasImage ob_tape ob_taped ob_five ob_size ob_at ob_from ob_token ob_value ob_faultKind ob_faultPlace ob_fresh ob_parts ob_houses ob_houseMany ob_worthOf ob_byCall ob_over ob_bestSet ob_bestOver ob_bestWorth ob_row ob_tenDebts ob_tenMany ob_fewestBy ob_covered ob_queue ob_cameBy ob_parent ob_met ob_calls ob_callMany ob_calledOn ob_saved ob_many ob_width ob_numbers ob_moving), (ce_i9080 y ob_world fob_world), (ce_i27240 y ob_images fob_images), (ce_z3 y ob_hasImage fob_hasImage), (ce_i6 y ob_parts fob_parts), (ce_i9080 y ob_saved fob_saved)] sz) := by
  refine Met.ofW (cc := cX10_beside) (maxL := 5) (ret := (some .int)) (by decide) rfl ?_
  intro p e s m args below meth c s₁ B hml hv
  obtain ⟨rfl, hsz, hP, hK, hD0⟩ := hv
  have hx := B.exec
  have hb := B.bytes
  have hr := B.returns
  have hw0 : ∀ w ∈ wAll, w.before _ s = true := fun w h => atoms_spec (ws := Cond.code yX10_beside cX10_beside 5 (some .int) :: wAll) B.pre w (List.mem_cons_of_mem _ h)
  have hown : s.vm.findClass RX10 = some m.cls := findClass_of_methodNamed B.named
  subst hsz
  have hD := hD0.self (sz := s.heap.size)
  generalize hAe : va_A [(ce_X10 ob ob_thrown ob_world ob_images ob_hasImage ob_tape ob_taped ob_five ob_size ob_at ob_from ob_token ob_value ob_faultKind ob_faultPlace ob_fresh ob_parts ob_houses ob_houseMany ob_worthOf ob_byCall ob_over ob_bestSet ob_bestOver ob_bestWorth ob_row ob_tenDebts ob_tenMany ob_fewestBy ob_covered ob_queue ob_cameBy ob_parent ob_met ob_calls ob_callMany ob_calledOn ob_saved ob_many ob_width ob_numbers ob_moving), (ce_i9080 y ob_world fob_world), (ce_i27240 y ob_images fob_images), (ce_z3 y ob_hasImage fob_hasImage), (ce_i6 y ob_parts fob_parts), (ce_i9080 y ob_saved fob_saved)] s.heap.size = A at hD ⊢
  have hA : ∀ q : Nat, s.heap.size ≤ q → A q := fun q h => by rw [← hAe]; exact Or.inr h
  have hS : va_S A s.heap s.heap [] := va_S.rf
  have hP : va_P G vwCl [(ce_X10 ob ob_thrown ob_world ob_images ob_hasImage ob_tape ob_taped ob_five ob_size ob_at ob_from ob_token ob_value ob_faultKind ob_faultPlace ob_fresh ob_parts ob_houses ob_houseMany ob_worthOf ob_byCall ob_over ob_bestSet ob_bestOver ob_bestWorth ob_row ob_tenDebts ob_tenMany ob_fewestBy ob_covered ob_queue ob_cameBy ob_parent ob_met ob_calls ob_callMany ob_calledOn ob_saved ob_many ob_width ob_numbers ob_moving), (ce_i9080 y ob_world fob_world), (ce_i27240 y ob_images fob_images), (ce_z3 y ob_hasImage fob_hasImage), (ce_i6 y ob_parts fob_parts), (ce_i9080 y ob_saved fob_saved)] s.heap := hP
  have hl := lv_entry ([.ref ob, .int 1]) (n := 5) (Nat.le_of_ble_eq_true rfl)
  rw [lg_entry_eq]
  generalize (lg_sl ([.ref ob, .int 1]) ++ List.replicate (5 - (lg_sl ([.ref ob, .int 1])).length) Slot.unset).toArray = ls at hl ⊢
  have hl : lv_has ls 5 [(0, .ref ob), (1, .int 1)] := hl
  refine lv_iload_n hx hb dX10_beside_0 rfl (lv_at hl 1 rfl) ?_
  refine lv_i2l (v := 1) hx hb dX10_beside_1 (by decide) ?_
  refine lv_lconst (v := 0) hx hb dX10_beside_2 (by decide) ?_
  refine lv_ldc2 (own := RX10) (v := 2) hx hb hown (hw0 _ m_360) dX10_beside_3 ?_
  refine cSim (As := [.long 1, .long 0, .long 2]) (rest := []) ⟨hx, hb, hml, hown, hw0⟩ hA hK hP hD hS [] (sX10_in l G y _ 1 0 2 ) rfl ⟨(callB_of 3 hw0 (gA m_516) rfl rfl rfl (hw0 _ m_41) (hw0 _ m_345) cb_X10_in ⟨Nat.le_of_ble_eq_true rfl, Nat.le_of_ble_eq_true rfl⟩), (hw0 _ m_346)⟩ rfl hl.1 (Nat.le_of_ble_eq_true rfl) dX10_beside_6 ⟨Nat.le_of_ble_eq_true rfl, Nat.le_of_ble_eq_true rfl⟩ (fun r_1001 w_1001 H locs hw_1001 hP hD hS => ?_)
  rcases hw_1001 with ⟨h_1002, rfl, rfl⟩ | ⟨h_1003, rfl, rfl⟩
  · skip
    have h_1004 : 1 < (0 : Int) ∨ (2 : Int) < 1 := in_n h_1002 (by decide) (by decide) (by decide)
    omega
  · skip
    have h_1005 : (0 : Int) ≤ 1 ∧ 1 ≤ (2 : Int) := in_y h_1003 (by decide) (by decide) (by decide)
    obtain ⟨hP, hD⟩ : vPD G A H [(ce_X10 ob ob_thrown ob_world ob_images ob_hasImage ob_tape ob_taped ob_five ob_size ob_at ob_from ob_token ob_value ob_faultKind ob_faultPlace ob_fresh ob_parts ob_houses ob_houseMany ob_worthOf ob_byCall ob_over ob_bestSet ob_bestOver ob_bestWorth ob_row ob_tenDebts ob_tenMany ob_fewestBy ob_covered ob_queue ob_cameBy ob_parent ob_met ob_calls ob_callMany ob_calledOn ob_saved ob_many ob_width ob_numbers ob_moving), (ce_i9080 y ob_world fob_world), (ce_i27240 y ob_images fob_images), (ce_z3 y ob_hasImage fob_hasImage), (ce_i6 y ob_parts fob_parts), (ce_i9080 y ob_saved fob_saved)] := ⟨hP, hD⟩
    refine lv_if_ne (tgt := 15) hx hb dX10_beside_9 (by decide) (fun _ => ?_) (fun c9 => absurd c9 (by decide))
    refine lv_aload_n hx hb dX10_beside_15 rfl (lv_at hl 0 rfl) ?_
    refine va_get (D := G) (ci := 10) (v := .ref ob_hasImage) (C := RX10) (T := TX10) (N := 41) hx hb hw0 inA_wsX100 hown hK.1 hP 0 rfl rfl 3 (by decide) (hw0 _ m_361) (fun _ h9 => h9) rfl dX10_beside_16 ?_
    refine lv_iload_n hx hb dX10_beside_19 rfl (lv_at hl 1 rfl) ?_
    refine va_zald hx hb hK.1 hP 3 3 rfl rfl (vi (bkc (x := 1) (c := 1) (by decide)) (by decide)) dX10_beside_20 ?_
    refine lv_topi (fun v_1006 ev_1006 => ?_)
    have bv_1006 : (0 : Int) ≤ v_1006.toInt ∧ v_1006.toInt ≤ 1 := rd_b ev_1006 p_fob_hasImage
    refine lv_if_ne (tgt := 27) hx hb dX10_beside_21 (by decide) (fun c_1007 => ?_) (fun c_1007 => ?_)
    · skip
      have nc_1007 := nb_ne (1) (1) c_1007 bv_1006 (k := 0) (by decide) (by decide)
      refine lv_iconst (v := 0) hx hb dX10_beside_27 (by decide) ?_
      refine lv_istore_n (lv' := [(2, .int 0), (0, .ref ob), (1, .int 1)]) hx hb dX10_beside_28 rfl hl (by decide) rfl (fun ls hl => ?_)
      refine loopX (fun n H locs ls st => ∃ (v_1067 : Int32) (f_1068 : Nat → Int32), (9080 - v_1067.toInt).toNat = n ∧ ((0 : Int) ≤ v_1067.toInt ∧ v_1067.toInt ≤ 9080) ∧ (cpR f_1068 fob_saved fob_world 0 0 0 v_1067.toInt) ∧ st = [] ∧ vPD G A H [(ce_X10 ob ob_thrown ob_world ob_images ob_hasImage ob_tape ob_taped ob_five ob_size ob_at ob_from ob_token ob_value ob_faultKind ob_faultPlace ob_fresh ob_parts ob_houses ob_houseMany ob_worthOf ob_byCall ob_over ob_bestSet ob_bestOver ob_bestWorth ob_row ob_tenDebts ob_tenMany ob_fewestBy ob_covered ob_queue ob_cameBy ob_parent ob_met ob_calls ob_callMany ob_calledOn ob_saved ob_many ob_width ob_numbers ob_moving), (ce_i9080 y ob_world fob_world), (ce_i27240 y ob_images fob_images), (ce_z3 y ob_hasImage fob_hasImage), (ce_i6 y ob_parts fob_parts), (ce_i9080 y ob_saved f_1068)] ∧ va_S A s.heap H locs ∧ lv_has ls 5 [(2, .int v_1067), (0, .ref ob), (1, .int 1)]) ?_ (n := (9080 - (0 : Int32).toInt).toNat) ⟨0, fob_saved, rfl, (bw (0) (9080) (bkc (x := 0) (c := 0) (by decide)) (by decide)), (cp_0 (by have h90 : Int32.toInt 0 = 0 := (by decide); have h91 : Int32.toInt 1 = 1 := (by decide); omega)), rfl, ⟨hP, hD⟩, hS, lv_sub hl [0, 1, 2] rfl⟩
      rintro n ih_1072 H locs ls st ⟨v_1067, f_1068, hn_1072, bv_1067, rl1068_0, rfl, ⟨hP, hD⟩, hS, hl⟩
      refine lv_iload_n hx hb dX10_beside_29 rfl (lv_at hl 0 rfl) ?_
      refine lv_sipush (v := 9080) hx hb dX10_beside_30 (by decide) ?_
      refine lv_icmp_ge (tgt := 54) hx hb dX10_beside_33 (by decide) (fun c_1073 => ?_) (fun c_1073 => ?_)
      · skip
        have nc_1073 := nb_le (9080) (9080) c_1073 (bkc (x := 9080) (c := 9080) (by decide)) bv_1067 (by decide)
        refine lv_sipush (v := 154) hx hb dX10_beside_54 (by decide) ?_
        refine lv_istore_n (lv' := [(2, .int 154), (0, .ref ob), (1, .int 1)]) hx hb dX10_beside_57 rfl hl (by decide) rfl (fun ls hl => ?_)
        refine loopX (fun n H locs ls st => ∃ (v_1157 : Int32) (f_1158 : Nat → Int32), (1864 - v_1157.toInt).toNat = n ∧ ((154 : Int) ≤ v_1157.toInt ∧ v_1157.toInt ≤ 1864) ∧ (cpR f_1158 fob_world fob_images 0 9080 154 v_1157.toInt) ∧ st = [] ∧ vPD G A H [(ce_X10 ob ob_thrown ob_world ob_images ob_hasImage ob_tape ob_taped ob_five ob_size ob_at ob_from ob_token ob_value ob_faultKind ob_faultPlace ob_fresh ob_parts ob_houses ob_houseMany ob_worthOf ob_byCall ob_over ob_bestSet ob_bestOver ob_bestWorth ob_row ob_tenDebts ob_tenMany ob_fewestBy ob_covered ob_queue ob_cameBy ob_parent ob_met ob_calls ob_callMany ob_calledOn ob_saved ob_many ob_width ob_numbers ob_moving), (ce_i9080 y ob_world f_1158), (ce_i27240 y ob_images fob_images), (ce_z3 y ob_hasImage fob_hasImage), (ce_i6 y ob_parts fob_parts), (ce_i9080 y ob_saved f_1068)] ∧ va_S A s.heap H locs ∧ lv_has ls 5 [(2, .int v_1157), (0, .ref ob), (1, .int 1)]) ?_ (n := (1864 - (154 : Int32).toInt).toNat) ⟨154, fob_world, rfl, (bw (154) (1864) (bkc (x := 154) (c := 154) (by decide)) (by decide)), (cp_0 (by have h90 : Int32.toInt 1 = 1 := (by decide); have h91 : Int32.toInt 154 = 154 := (by decide); omega)), rfl, ⟨hP, hD⟩, hS, lv_sub hl [0, 1, 2] rfl⟩
        rintro n ih_1164 H locs ls st ⟨v_1157, f_1158, hn_1164, bv_1157, rl1158_0, rfl, ⟨hP, hD⟩, hS, hl⟩
        refine lv_iload_n hx hb dX10_beside_58 rfl (lv_at hl 0 rfl) ?_
        refine lv_sipush (v := 1864) hx hb dX10_beside_59 (by decide) ?_
        refine lv_icmp_ge (tgt := 89) hx hb dX10_beside_62 (by decide) (fun c_1165 => ?_) (fun c_1165 => ?_)
        · skip
          have nc_1165 := nb_le (1864) (1864) c_1165 (bkc (x := 1864) (c := 1864) (by decide)) bv_1157 (by decide)
          refine lv_iconst (v := 1) hx hb dX10_beside_89 (by decide) ?_
          refine lv_istore_n (lv' := [(2, .int 1), (0, .ref ob), (1, .int 1)]) hx hb dX10_beside_90 rfl hl (by decide) rfl (fun ls hl => ?_)
          refine loopX (fun n H locs ls st => ∃ (v_1200 : Int32) (f_1201 : Nat → Int32), (4 - v_1200.toInt).toNat = n ∧ ((1 : Int) ≤ v_1200.toInt ∧ v_1200.toInt ≤ 4) ∧ (cpR f_1201 f_1158 fob_images 0 9080 1 v_1200.toInt) ∧ st = [] ∧ vPD G A H [(ce_X10 ob ob_thrown ob_world ob_images ob_hasImage ob_tape ob_taped ob_five ob_size ob_at ob_from ob_token ob_value ob_faultKind ob_faultPlace ob_fresh ob_parts ob_houses ob_houseMany ob_worthOf ob_byCall ob_over ob_bestSet ob_bestOver ob_bestWorth ob_row ob_tenDebts ob_tenMany ob_fewestBy ob_covered ob_queue ob_cameBy ob_parent ob_met ob_calls ob_callMany ob_calledOn ob_saved ob_many ob_width ob_numbers ob_moving), (ce_i9080 y ob_world f_1201), (ce_i27240 y ob_images fob_images), (ce_z3 y ob_hasImage fob_hasImage), (ce_i6 y ob_parts fob_parts), (ce_i9080 y ob_saved f_1068)] ∧ va_S A s.heap H locs ∧ lv_has ls 5 [(2, .int v_1200), (0, .ref ob), (1, .int 1)]) ?_ (n := (4 - (1 : Int32).toInt).toNat) ⟨1, f_1158, rfl, (bw (1) (4) (bkc (x := 1) (c := 1) (by decide)) (by decide)), (cp_0 (by have h90 : Int32.toInt 1 = 1 := (by decide); omega)), rfl, ⟨hP, hD⟩, hS, lv_sub hl [0, 1, 2] rfl⟩
          rintro n ih_1207 H locs ls st ⟨v_1200, f_1201, hn_1207, bv_1200, rl1201_0, rfl, ⟨hP, hD⟩, hS, hl⟩
          refine lv_iload_n hx hb dX10_beside_91 rfl (lv_at hl 0 rfl) ?_
          refine lv_iconst (v := 3) hx hb dX10_beside_92 (by decide) ?_
          refine lv_icmp_gt (tgt := 120) hx hb dX10_beside_93 (by decide) (fun c_1208 => ?_) (fun c_1208 => ?_)
          · skip
            have nc_1208 := nb_lt (3) (4) c_1208 (bkc (x := 3) (c := 3) (by decide)) bv_1200 (by decide)
            have kf_1201 : RWw f_1201 := RW_mix rl1158_0 (by omega) rl1201_0 (by omega) p_fob_world (RI_at p_fob_images 1 (by decide))
            refine lv_iconst (v := 0) hx hb dX10_beside_120 (by decide) ?_
            refine lv_istore_n (lv' := [(2, .int 0), (0, .ref ob), (1, .int 1)]) hx hb dX10_beside_121 rfl hl (by decide) rfl (fun ls hl => ?_)
            refine loopX (fun n H locs ls st => ∃ (v_1304 : Int32) (f_1305 : Nat → Int32), (16 - v_1304.toInt).toNat = n ∧ ((0 : Int) ≤ v_1304.toInt ∧ v_1304.toInt ≤ 16) ∧ (RWw f_1305) ∧ st = [] ∧ vPD G A H [(ce_X10 ob ob_thrown ob_world ob_images ob_hasImage ob_tape ob_taped ob_five ob_size ob_at ob_from ob_token ob_value ob_faultKind ob_faultPlace ob_fresh ob_parts ob_houses ob_houseMany ob_worthOf ob_byCall ob_over ob_bestSet ob_bestOver ob_bestWorth ob_row ob_tenDebts ob_tenMany ob_fewestBy ob_covered ob_queue ob_cameBy ob_parent ob_met ob_calls ob_callMany ob_calledOn ob_saved ob_many ob_width ob_numbers ob_moving), (ce_i9080 y ob_world f_1305), (ce_i27240 y ob_images fob_images), (ce_z3 y ob_hasImage fob_hasImage), (ce_i6 y ob_parts fob_parts), (ce_i9080 y ob_saved f_1068)] ∧ va_S A s.heap H locs ∧ lv_has ls 5 [(2, .int v_1304), (0, .ref ob)]) ?_ (n := (16 - (0 : Int32).toInt).toNat) ⟨0, f_1201, rfl, (bw (0) (16) (bkc (x := 0) (c := 0) (by decide)) (by decide)), kf_1201, rfl, ⟨hP, hD⟩, hS, lv_sub hl [0, 1] rfl⟩
            rintro n ih_1312 H locs ls st ⟨v_1304, f_1305, hn_1312, bv_1304, bf_1305, rfl, ⟨hP, hD⟩, hS, hl⟩
            refine lv_iload_n hx hb dX10_beside_122 rfl (lv_at hl 0 rfl) ?_
            refine lv_bipush (v := 16) hx hb dX10_beside_123 (by decide) ?_
            refine lv_icmp_ge (tgt := 151) hx hb dX10_beside_125 (by decide) (fun c_1313 => ?_) (fun c_1313 => ?_)
            · skip
              have nc_1313 := nb_le (16) (16) c_1313 (bkc (x := 16) (c := 16) (by decide)) bv_1304 (by decide)
              have h8f_1305 : (0 : Int) ≤ (f_1305 8).toInt ∧ (f_1305 8).toInt ≤ 600 := (bf_1305).1.1 8
              refine lv_aload_n hx hb dX10_beside_151 rfl (lv_at hl 1 rfl) ?_
              refine va_get (D := G) (ci := 10) (v := .ref ob_world) (C := RX10) (T := TX10) (N := 41) hx hb hw0 inA_wsX100 hown hK.1 hP 0 rfl rfl 1 (by decide) (hw0 _ m_352) (fun _ h9 => h9) rfl dX10_beside_152 ?_
              refine lv_bipush (v := 7) hx hb dX10_beside_155 (by decide) ?_
              refine lv_iconst (v := 0) hx hb dX10_beside_157 (by decide) ?_
              refine va_iast hx hb hK.1 hP hD hS 1 1 rfl rfl (vi (bkc (x := 7) (c := 7) (by decide)) (by decide)) dX10_beside_158 (fun H locs hP hD hS => ?_)
              generalize hf_1314 : (upd f_1305 (7 : Int32).toNatClampNeg 0) = f_1314 at hP hD
              have zf_1314_7 : (f_1314 7).toInt = 0 := by rw [← hf_1314]; exact (pin_eq (by decide)).trans (by decide)
              have zf_1314_8 : (f_1314 8).toInt = (f_1305 8).toInt := hf_1314 ▸ pin_ne (ix_not (bkc (x := 7) (c := 7) (by decide)) (by decide))
              have bf_1314 : RBw f_1314 := hf_1314 ▸ upk (bf_1305).1.1 (bkc (x := 0) (c := 0) (by decide)) (by decide)
              have cf_1314 : RVw f_1314 := ⟨bf_1314, by have h97 : (f_1305 7).toInt ≤ (f_1305 8).toInt := ((bf_1305).1).2; unfold W7; omega⟩
              have df_1314 : RWw f_1314 := ⟨cf_1314, hf_1314 ▸ WQ_up (bf_1305).1.1 (bf_1305).2 (qf_ix (bkc (x := 7) (c := 7) (by decide)) (by decide))⟩
              obtain ⟨hP, hD⟩ : vPD G A H [(ce_X10 ob ob_thrown ob_world ob_images ob_hasImage ob_tape ob_taped ob_five ob_size ob_at ob_from ob_token ob_value ob_faultKind ob_faultPlace ob_fresh ob_parts ob_houses ob_houseMany ob_worthOf ob_byCall ob_over ob_bestSet ob_bestOver ob_bestWorth ob_row ob_tenDebts ob_tenMany ob_fewestBy ob_covered ob_queue ob_cameBy ob_parent ob_met ob_calls ob_callMany ob_calledOn ob_saved ob_many ob_width ob_numbers ob_moving), (ce_i9080 y ob_world f_1314), (ce_i27240 y ob_images fob_images), (ce_z3 y ob_hasImage fob_hasImage), (ce_i6 y ob_parts fob_parts), (ce_i9080 y ob_saved f_1068)] := ⟨hP, hD⟩
              refine lv_iconst (v := 0) hx hb dX10_beside_159 (by decide) ?_
              refine lv_istore_n (lv' := [(2, .int 0), (0, .ref ob)]) hx hb dX10_beside_160 rfl hl (by decide) rfl (fun ls hl => ?_)
              refine loopX (fun n H locs ls st => ∃ (v_1374 : Int32) (f_1375 : Nat → Int32) (f_1376 : Nat → Int32), (600 - v_1374.toInt).toNat = n ∧ ((0 : Int) ≤ v_1374.toInt ∧ v_1374.toInt ≤ 600) ∧ (RWw f_1375) ∧ ((f_1375 7).toInt ≤ v_1374.toInt) ∧ st = [] ∧ vPD G A H [(ce_X10 ob ob_thrown ob_world ob_images ob_hasImage ob_tape ob_taped ob_five ob_size ob_at ob_from ob_token ob_value ob_faultKind ob_faultPlace ob_fresh ob_parts ob_houses ob_houseMany ob_worthOf ob_byCall ob_over ob_bestSet ob_bestOver ob_bestWorth ob_row ob_tenDebts ob_tenMany ob_fewestBy ob_covered ob_queue ob_cameBy ob_parent ob_met ob_calls ob_callMany ob_calledOn ob_saved ob_many ob_width ob_numbers ob_moving), (ce_i9080 y ob_world f_1375), (ce_i27240 y ob_images fob_images), (ce_z3 y ob_hasImage fob_hasImage), (ce_i6 y ob_parts f_1376), (ce_i9080 y ob_saved f_1068)] ∧ va_S A s.heap H locs ∧ lv_has ls 5 [(2, .int v_1374), (0, .ref ob)]) ?_ (n := (600 - (0 : Int32).toInt).toNat) ⟨0, f_1314, fob_parts, rfl, (bw (0) (600) (bkc (x := 0) (c := 0) (by decide)) (by decide)), df_1314, (by have h90 : Int32.toInt 0 = 0 := (by decide); omega), rfl, ⟨hP, hD⟩, hS, lv_sub hl [0, 1] rfl⟩
              rintro n ih_1394 H locs ls st ⟨v_1374, f_1375, f_1376, hn_1394, bv_1374, bf_1375, rl1376_0, rfl, ⟨hP, hD⟩, hS, hl⟩
              refine lv_iload_n hx hb dX10_beside_161 rfl (lv_at hl 0 rfl) ?_
              refine lv_aload_n hx hb dX10_beside_162 rfl (lv_at hl 1 rfl) ?_
              refine va_get (D := G) (ci := 10) (v := .ref ob_world) (C := RX10) (T := TX10) (N := 41) hx hb hw0 inA_wsX100 hown hK.1 hP 0 rfl rfl 1 (by decide) (hw0 _ m_352) (fun _ h9 => h9) rfl dX10_beside_163 ?_
              refine lv_bipush (v := 8) hx hb dX10_beside_166 (by decide) ?_
              refine va_iald hx hb hK.1 hP 1 1 rfl rfl (vi (bkc (x := 8) (c := 8) (by decide)) (by decide)) dX10_beside_168 ?_
              refine lv_topi (fun v_1395 ev_1395 => ?_)
              have bv_1395 : (0 : Int) ≤ v_1395.toInt ∧ v_1395.toInt ≤ 600 := rdk ev_1395 (bf_1375).1.1 (by decide)
              have yv_1395 : v_1395.toInt = (f_1375 8).toInt := congrArg Int32.toInt ev_1395
              refine lv_icmp_ge (tgt := 222) hx hb dX10_beside_169 (by decide) (fun c_1396 => ?_) (fun c_1396 => ?_)
              · skip
                have nc_1396 := nb_le (600) (0) c_1396 bv_1395 bv_1374 (by decide)
                refine lv_aload_n hx hb dX10_beside_222 rfl (lv_at hl 1 rfl) ?_
                refine va_get (D := G) (ci := 10) (v := .ref ob_world) (C := RX10) (T := TX10) (N := 41) hx hb hw0 inA_wsX100 hown hK.1 hP 0 rfl rfl 1 (by decide) (hw0 _ m_352) (fun _ h9 => h9) rfl dX10_beside_223 ?_
                refine lv_bipush (v := 7) hx hb dX10_beside_226 (by decide) ?_
                refine va_iald hx hb hK.1 hP 1 1 rfl rfl (vi (bkc (x := 7) (c := 7) (by decide)) (by decide)) dX10_beside_228 ?_
                refine lv_topi (fun v_1397 ev_1397 => ?_)
                have bv_1397 : (0 : Int) ≤ v_1397.toInt ∧ v_1397.toInt ≤ 600 := rdk ev_1397 (bf_1375).1.1 (by decide)
                have yv_1397 : v_1397.toInt = (f_1375 7).toInt := congrArg Int32.toInt ev_1397
                refine lv_istore_n (lv' := [(2, .int v_1397), (0, .ref ob)]) hx hb dX10_beside_229 rfl hl (by decide) rfl (fun ls hl => ?_)
                refine lv_iconst (v := 0) hx hb dX10_beside_230 (by decide) ?_
                refine lv_istore_n (lv' := [(3, .int 0), (2, .int v_1397), (0, .ref ob)]) hx hb dX10_beside_231 rfl hl (by decide) rfl (fun ls hl => ?_)
                refine loopX (fun n H locs ls st => ∃ (v_1457 : Int32) (f_1458 : Nat → Int32), (9080 - v_1457.toInt).toNat = n ∧ ((0 : Int) ≤ v_1457.toInt ∧ v_1457.toInt ≤ 9080) ∧ (cpR f_1458 f_1375 f_1068 0 0 0 v_1457.toInt) ∧ st = [] ∧ vPD G A H [(ce_X10 ob ob_thrown ob_world ob_images ob_hasImage ob_tape ob_taped ob_five ob_size ob_at ob_from ob_token ob_value ob_faultKind ob_faultPlace ob_fresh ob_parts ob_houses ob_houseMany ob_worthOf ob_byCall ob_over ob_bestSet ob_bestOver ob_bestWorth ob_row ob_tenDebts ob_tenMany ob_fewestBy ob_covered ob_queue ob_cameBy ob_parent ob_met ob_calls ob_callMany ob_calledOn ob_saved ob_many ob_width ob_numbers ob_moving), (ce_i9080 y ob_world f_1458), (ce_i27240 y ob_images fob_images), (ce_z3 y ob_hasImage fob_hasImage), (ce_i6 y ob_parts f_1376), (ce_i9080 y ob_saved f_1068)] ∧ va_S A s.heap H locs ∧ lv_has ls 5 [(3, .int v_1457), (2, .int v_1397), (0, .ref ob)]) ?_ (n := (9080 - (0 : Int32).toInt).toNat) ⟨0, f_1375, rfl, (bw (0) (9080) (bkc (x := 0) (c := 0) (by decide)) (by decide)), (cp_0 (by have h90 : Int32.toInt 0 = 0 := (by decide); omega)), rfl, ⟨hP, hD⟩, hS, lv_sub hl [0, 1, 2] rfl⟩
                rintro n ih_1462 H locs ls st ⟨v_1457, f_1458, hn_1462, bv_1457, rl1458_0, rfl, ⟨hP, hD⟩, hS, hl⟩
                refine lv_iload_n hx hb dX10_beside_232 rfl (lv_at hl 0 rfl) ?_
                refine lv_sipush (v := 9080) hx hb dX10_beside_233 (by decide) ?_
                refine lv_icmp_ge (tgt := 257) hx hb dX10_beside_236 (by decide) (fun c_1463 => ?_) (fun c_1463 => ?_)
                · skip
                  have nc_1463 := nb_le (9080) (9080) c_1463 (bkc (x := 9080) (c := 9080) (by decide)) bv_1457 (by decide)
                  have kf_1458 : RWw f_1458 := RW_same rl1458_0 (by omega) (RW_cong (cp_eq rl1068_0 (by omega)) p_fob_world)
                  refine lv_iload_n hx hb dX10_beside_257 rfl (lv_at hl 1 rfl) ?_
                  exact W.iret (v := v_1397) hx hb hr (fun t ht hW => ⟨⟨v_1397, _, rfl, ⟨v_1397, f_1458, f_1376, f_1068, (bw (-6) (600) bv_1397 (by decide)), kf_1458, (fun j hj => (cp_eq rl1458_0 (by omega) j hj).trans (cp_eq rl1068_0 (by omega) j hj)), rfl, rfl⟩, by rw [ht]; exact hP, hD⟩, hS.F ht⟩) hS.2.2 dX10_beside_258
                · skip
                  have nc_1463 := nb_nle (9079) (9080) c_1463 bv_1457 (bkc (x := 9080) (c := 9080) (by decide)) (by decide)
                  refine lv_aload_n hx hb dX10_beside_239 rfl (lv_at hl 2 rfl) ?_
                  refine va_get (D := G) (ci := 10) (v := .ref ob_world) (C := RX10) (T := TX10) (N := 41) hx hb hw0 inA_wsX100 hown hK.1 hP 0 rfl rfl 1 (by decide) (hw0 _ m_352) (fun _ h9 => h9) rfl dX10_beside_240 ?_
                  refine lv_iload_n hx hb dX10_beside_243 rfl (lv_at hl 0 rfl) ?_
                  refine lv_aload_n hx hb dX10_beside_244 rfl (lv_at hl 2 rfl) ?_
                  refine va_get (D := G) (ci := 10) (v := .ref ob_saved) (C := RX10) (T := TX10) (N := 41) hx hb hw0 inA_wsX100 hown hK.1 hP 0 rfl rfl 36 (by decide) (hw0 _ m_392) (fun _ h9 => h9) rfl dX10_beside_245 ?_
                  refine lv_iload_n hx hb dX10_beside_248 rfl (lv_at hl 0 rfl) ?_
                  refine va_iald hx hb hK.1 hP 5 1 rfl rfl (vi nc_1463.1 (by decide)) dX10_beside_249 ?_
                  refine lv_topi (fun v_1464 ev_1464 => ?_)
                  refine va_iast hx hb hK.1 hP hD hS 1 1 rfl rfl (vi nc_1463.1 (by decide)) dX10_beside_250 (fun H locs hP hD hS => ?_)
                  generalize hf_1465 : (upd f_1458 (v_1457 : Int32).toNatClampNeg v_1464) = f_1465 at hP hD
                  obtain ⟨hP, hD⟩ : vPD G A H [(ce_X10 ob ob_thrown ob_world ob_images ob_hasImage ob_tape ob_taped ob_five ob_size ob_at ob_from ob_token ob_value ob_faultKind ob_faultPlace ob_fresh ob_parts ob_houses ob_houseMany ob_worthOf ob_byCall ob_over ob_bestSet ob_bestOver ob_bestWorth ob_row ob_tenDebts ob_tenMany ob_fewestBy ob_covered ob_queue ob_cameBy ob_parent ob_met ob_calls ob_callMany ob_calledOn ob_saved ob_many ob_width ob_numbers ob_moving), (ce_i9080 y ob_world f_1465), (ce_i27240 y ob_images fob_images), (ce_z3 y ob_hasImage fob_hasImage), (ce_i6 y ob_parts f_1376), (ce_i9080 y ob_saved f_1068)] := ⟨hP, hD⟩
                  obtain ⟨v_1466, ev_1466⟩ : ∃ z : Int32, z = v_1457 + 1 := ⟨_, rfl⟩
                  have qv_1466 := ba_add ev_1466 nc_1463.1 (bkc (x := 1) (c := 1) (by decide)) (by decide)
                  have bv_1466 : (1 : Int) ≤ v_1466.toInt ∧ v_1466.toInt ≤ 9080 := bq_add qv_1466 nc_1463.1 (bkc (x := 1) (c := 1) (by decide)) _ _ (by decide)
                  have qv_1466 : v_1466.toInt = v_1457.toInt + (1) := qv_1466
                  refine lv_iinc (v := v_1466) (lv' := [(3, .int v_1466), (2, .int v_1397), (0, .ref ob)]) hx hb dX10_beside_251 hl (k := 0) rfl (ev_1466.symm) (by decide) rfl (fun ls hl => ?_)
                  refine lv_goto (tgt := 232) hx hb dX10_beside_254 (by decide) ?_
                  exact ih_1462 _ (ml_inc (hi := 9080) hn_1462 qv_1466 (by decide) ((bw (0) (9080) bv_1466 (by decide))).2) _ _ _ _ ⟨v_1466, f_1465, rfl, (bw (0) (9080) bv_1466 (by decide)), (cp_s rl1458_0 hf_1465 ev_1464 ((cl_to (by omega)).trans (by omega)) ((cl_to (by omega)).trans (by omega)) (by omega) (by omega)), rfl, ⟨hP, hD⟩, hS, lv_sub hl [0, 1, 2] rfl⟩
              · skip
                have nc_1396 := nb_nle (599) (1) c_1396 bv_1374 bv_1395 (by decide)
                refine lv_sipush (v := 6680) hx hb dX10_beside_172 (by decide) ?_
                refine lv_iconst (v := 4) hx hb dX10_beside_175 (by decide) ?_
                refine lv_iload_n hx hb dX10_beside_176 rfl (lv_at hl 0 rfl) ?_
                refine lv_imul hx hb dX10_beside_177 ?_
                refine lv_topi (fun v_1467 ev_1467 => ?_)
                have qv_1467 := ba_mul 4 (ev_1467.trans (Int32.mul_comm _ _)) nc_1396.1 (by decide) (by decide) (by decide)
                have bv_1467 : (0 : Int) ≤ v_1467.toInt ∧ v_1467.toInt ≤ 2396 := qv_1467.2
                refine lv_iadd hx hb dX10_beside_178 ?_
                refine lv_topi (fun v_1468 ev_1468 => ?_)
                have qv_1468 := ba_add ev_1468 (bkc (x := 6680) (c := 6680) (by decide)) bv_1467 (by decide)
                have bv_1468 : (6680 : Int) ≤ v_1468.toInt ∧ v_1468.toInt ≤ 9076 := bq_add qv_1468 (bkc (x := 6680) (c := 6680) (by decide)) bv_1467 _ _ (by decide)
                have qv_1468 : v_1468.toInt = (6680) + v_1467.toInt := qv_1468
                refine lv_istore_n (lv' := [(3, .int v_1468), (2, .int v_1374), (0, .ref ob)]) hx hb dX10_beside_179 rfl hl (by decide) rfl (fun ls hl => ?_)
                refine lv_aload_n hx hb dX10_beside_180 rfl (lv_at hl 2 rfl) ?_
                refine lv_aload_n hx hb dX10_beside_181 rfl (lv_at hl 2 rfl) ?_
                refine va_get (D := G) (ci := 10) (v := .ref ob_world) (C := RX10) (T := TX10) (N := 41) hx hb hw0 inA_wsX100 hown hK.1 hP 0 rfl rfl 1 (by decide) (hw0 _ m_352) (fun _ h9 => h9) rfl dX10_beside_182 ?_
                refine lv_iload_n hx hb dX10_beside_185 rfl (lv_at hl 0 rfl) ?_
                refine va_iald hx hb hK.1 hP 1 1 rfl rfl (vi bv_1468 (by decide)) dX10_beside_186 ?_
                refine lv_topi (fun v_1469 ev_1469 => ?_)
                have bv_1469 : (0 : Int) ≤ v_1469.toInt ∧ v_1469.toInt ≤ 15 := rdw ev_1469 (bf_1375).1.1 pl_74 (by omega) (nc_1396.1)
                refine lv_aload_n hx hb dX10_beside_187 rfl (lv_at hl 2 rfl) ?_
                refine va_get (D := G) (ci := 10) (v := .ref ob_world) (C := RX10) (T := TX10) (N := 41) hx hb hw0 inA_wsX100 hown hK.1 hP 0 rfl rfl 1 (by decide) (hw0 _ m_352) (fun _ h9 => h9) rfl dX10_beside_188 ?_
                refine lv_iload_n hx hb dX10_beside_191 rfl (lv_at hl 0 rfl) ?_
                refine lv_iconst (v := 1) hx hb dX10_beside_192 (by decide) ?_
                refine lv_iadd hx hb dX10_beside_193 ?_
                refine lv_topi (fun v_1470 ev_1470 => ?_)
                have qv_1470 := ba_add ev_1470 bv_1468 (bkc (x := 1) (c := 1) (by decide)) (by decide)
                have bv_1470 : (6681 : Int) ≤ v_1470.toInt ∧ v_1470.toInt ≤ 9077 := bq_add qv_1470 bv_1468 (bkc (x := 1) (c := 1) (by decide)) _ _ (by decide)
                have qv_1470 : v_1470.toInt = v_1468.toInt + (1) := qv_1470
                refine va_iald hx hb hK.1 hP 1 1 rfl rfl (vi bv_1470 (by decide)) dX10_beside_194 ?_
                refine lv_topi (fun v_1471 ev_1471 => ?_)
                have bv_1471 : (0 : Int) ≤ v_1471.toInt ∧ v_1471.toInt ≤ 15 := rdw ev_1471 (bf_1375).1.1 pl_75 (by omega) (nc_1396.1)
                refine lv_aload_n hx hb dX10_beside_195 rfl (lv_at hl 2 rfl) ?_
                refine va_get (D := G) (ci := 10) (v := .ref ob_world) (C := RX10) (T := TX10) (N := 41) hx hb hw0 inA_wsX100 hown hK.1 hP 0 rfl rfl 1 (by decide) (hw0 _ m_352) (fun _ h9 => h9) rfl dX10_beside_196 ?_
                refine lv_iload_n hx hb dX10_beside_199 rfl (lv_at hl 0 rfl) ?_
                refine lv_iconst (v := 2) hx hb dX10_beside_200 (by decide) ?_
                refine lv_iadd hx hb dX10_beside_201 ?_
                refine lv_topi (fun v_1472 ev_1472 => ?_)
                have qv_1472 := ba_add ev_1472 bv_1468 (bkc (x := 2) (c := 2) (by decide)) (by decide)
                have bv_1472 : (6682 : Int) ≤ v_1472.toInt ∧ v_1472.toInt ≤ 9078 := bq_add qv_1472 bv_1468 (bkc (x := 2) (c := 2) (by decide)) _ _ (by decide)
                have qv_1472 : v_1472.toInt = v_1468.toInt + (2) := qv_1472
                refine va_iald hx hb hK.1 hP 1 1 rfl rfl (vi bv_1472 (by decide)) dX10_beside_202 ?_
                refine lv_topi (fun v_1473 ev_1473 => ?_)
                refine lv_aload_n hx hb dX10_beside_203 rfl (lv_at hl 2 rfl) ?_
                refine va_get (D := G) (ci := 10) (v := .ref ob_world) (C := RX10) (T := TX10) (N := 41) hx hb hw0 inA_wsX100 hown hK.1 hP 0 rfl rfl 1 (by decide) (hw0 _ m_352) (fun _ h9 => h9) rfl dX10_beside_204 ?_
                refine lv_iload_n hx hb dX10_beside_207 rfl (lv_at hl 0 rfl) ?_
                refine lv_iconst (v := 3) hx hb dX10_beside_208 (by decide) ?_
                refine lv_iadd hx hb dX10_beside_209 ?_
                refine lv_topi (fun v_1474 ev_1474 => ?_)
                have qv_1474 := ba_add ev_1474 bv_1468 (bkc (x := 3) (c := 3) (by decide)) (by decide)
                have bv_1474 : (6683 : Int) ≤ v_1474.toInt ∧ v_1474.toInt ≤ 9079 := bq_add qv_1474 bv_1468 (bkc (x := 3) (c := 3) (by decide)) _ _ (by decide)
                have qv_1474 : v_1474.toInt = v_1468.toInt + (3) := qv_1474
                refine va_iald hx hb hK.1 hP 1 1 rfl rfl (vi bv_1474 (by decide)) dX10_beside_210 ?_
                refine lv_topi (fun v_1475 ev_1475 => ?_)
                refine cVim (As := [.int v_1469, .int v_1471, .int v_1473, .int v_1475]) (rest := []) ⟨hx, hb, hml, hown, hw0⟩ hA hK hP hD hS [true, true, false, false, true] (sX10_goes l G y _ ob v_1469 v_1471 v_1473 v_1475 ob_thrown ob_world ob_images ob_hasImage ob_tape ob_taped ob_five ob_size ob_at ob_from ob_token ob_value ob_faultKind ob_faultPlace ob_fresh ob_parts ob_houses ob_houseMany ob_worthOf ob_byCall ob_over ob_bestSet ob_bestOver ob_bestWorth ob_row ob_tenDebts ob_tenMany ob_fewestBy ob_covered ob_queue ob_cameBy ob_parent ob_met ob_calls ob_callMany ob_calledOn ob_saved ob_many ob_width ob_numbers ob_moving f_1375 f_1376 bf_1375 p_ob_taped p_ob_size p_ob_at p_ob_from p_ob_token p_ob_value p_ob_faultKind p_ob_houseMany p_ob_bestSet p_ob_bestOver p_ob_tenMany p_ob_callMany bv_1469 bv_1471 (by omega)) rfl ⟨(callB_of 4 hw0 (gA m_489) rfl rfl rfl (hw0 _ m_41) (hw0 _ m_393) cb_X10_goes ⟨Nat.le_of_ble_eq_true rfl, Nat.le_of_ble_eq_true rfl⟩), (hw0 _ m_394), (hw0 _ m_395)⟩ (ci := 10) (q := (RX10, TX10, 41)) rfl rfl rfl hl.1 (Nat.le_of_ble_eq_true rfl) dX10_beside_211 ⟨Nat.le_of_ble_eq_true rfl, Nat.le_of_ble_eq_true rfl⟩ (fun r_1476 w_1476 H locs hw_1476 hP hD hS => ?_)
                obtain ⟨v_1477, f_1478, f_1479, bv_1477, bf_1478, h_1480, h_1481, er_1476, rfl⟩ := hw_1476
                subst r_1476
                obtain ⟨hP, hD⟩ : vPD G A H [(ce_X10 ob ob_thrown ob_world ob_images ob_hasImage ob_tape ob_taped ob_five ob_size ob_at ob_from ob_token ob_value ob_faultKind ob_faultPlace ob_fresh ob_parts ob_houses ob_houseMany ob_worthOf ob_byCall ob_over ob_bestSet ob_bestOver ob_bestWorth ob_row ob_tenDebts ob_tenMany ob_fewestBy ob_covered ob_queue ob_cameBy ob_parent ob_met ob_calls ob_callMany ob_calledOn ob_saved ob_many ob_width ob_numbers ob_moving), (ce_i9080 y ob_world f_1478), (ce_i27240 y ob_images fob_images), (ce_z3 y ob_hasImage fob_hasImage), (ce_i6 y ob_parts f_1479), (ce_i9080 y ob_saved f_1068)] := ⟨hP, hD⟩
                refine lv_istore (lv' := [(4, .int v_1477), (3, .int v_1468), (2, .int v_1374), (0, .ref ob)]) hx hb dX10_beside_214 hl (by decide) rfl (fun ls hl => ?_)
                obtain ⟨v_1482, ev_1482⟩ : ∃ z : Int32, z = v_1374 + 1 := ⟨_, rfl⟩
                have qv_1482 := ba_add ev_1482 nc_1396.1 (bkc (x := 1) (c := 1) (by decide)) (by decide)
                have bv_1482 : (1 : Int) ≤ v_1482.toInt ∧ v_1482.toInt ≤ 600 := bq_add qv_1482 nc_1396.1 (bkc (x := 1) (c := 1) (by decide)) _ _ (by decide)
                have qv_1482 : v_1482.toInt = v_1374.toInt + (1) := qv_1482
                refine lv_iinc (v := v_1482) (lv' := [(2, .int v_1482), (4, .int v_1477), (3, .int v_1468), (0, .ref ob)]) hx hb dX10_beside_216 hl (k := 2) rfl (ev_1482.symm) (by decide) rfl (fun ls hl => ?_)
                refine lv_goto (tgt := 161) hx hb dX10_beside_219 (by decide) ?_
                exact ih_1394 _ (ml_inc (hi := 600) hn_1394 qv_1482 (by decide) ((bw (0) (600) bv_1482 (by decide))).2) _ _ _ _ ⟨v_1482, f_1478, f_1479, rfl, (bw (0) (600) bv_1482 (by decide)), bf_1478, (by omega), rfl, ⟨hP, hD⟩, hS, lv_sub hl [0, 3] rfl⟩
            · skip
              have nc_1313 := nb_nle (15) (16) c_1313 bv_1304 (bkc (x := 16) (c := 16) (by decide)) (by decide)
              refine lv_aload_n hx hb dX10_beside_128 rfl (lv_at hl 1 rfl) ?_
              refine va_get (D := G) (ci := 10) (v := .ref ob_world) (C := RX10) (T := TX10) (N := 41) hx hb hw0 inA_wsX100 hown hK.1 hP 0 rfl rfl 1 (by decide) (hw0 _ m_352) (fun _ h9 => h9) rfl dX10_beside_129 ?_
              refine lv_sipush (v := 1864) hx hb dX10_beside_132 (by decide) ?_
              refine lv_iload_n hx hb dX10_beside_135 rfl (lv_at hl 0 rfl) ?_
              refine lv_iadd hx hb dX10_beside_136 ?_
              refine lv_topi (fun v_1483 ev_1483 => ?_)
              have qv_1483 := ba_add ev_1483 (bkc (x := 1864) (c := 1864) (by decide)) nc_1313.1 (by decide)
              have bv_1483 : (1864 : Int) ≤ v_1483.toInt ∧ v_1483.toInt ≤ 1879 := bq_add qv_1483 (bkc (x := 1864) (c := 1864) (by decide)) nc_1313.1 _ _ (by decide)
              have qv_1483 : v_1483.toInt = (1864) + v_1304.toInt := qv_1483
              refine lv_aload_n hx hb dX10_beside_137 rfl (lv_at hl 1 rfl) ?_
              refine lv_iload_n hx hb dX10_beside_138 rfl (lv_at hl 0 rfl) ?_
              refine lv_bipush (v := 8) hx hb dX10_beside_139 (by decide) ?_
              refine cVim (As := [.int v_1304, .int 8]) (rest := [.int v_1483, .ref ob_world]) ⟨hx, hb, hml, hown, hw0⟩ hA hK hP hD hS [true, true] (sofHouse8 l G y _ ob v_1304 ob_thrown ob_world ob_images ob_hasImage ob_tape ob_taped ob_five ob_size ob_at ob_from ob_token ob_value ob_faultKind ob_faultPlace ob_fresh ob_parts ob_houses ob_houseMany ob_worthOf ob_byCall ob_over ob_bestSet ob_bestOver ob_bestWorth ob_row ob_tenDebts ob_tenMany ob_fewestBy ob_covered ob_queue ob_cameBy ob_parent ob_met ob_calls ob_callMany ob_calledOn ob_saved ob_many ob_width ob_numbers ob_moving f_1305 bf_1305 p_ob_taped p_ob_size p_ob_at p_ob_from p_ob_token p_ob_value p_ob_faultKind p_ob_houseMany p_ob_bestSet p_ob_bestOver p_ob_tenMany p_ob_callMany nc_1313.1) rfl ⟨(callB_of 2 hw0 (gA m_577) rfl rfl rfl (hw0 _ m_41) (hw0 _ m_388) cb_X10_ofHouse ⟨Nat.le_of_ble_eq_true rfl, Nat.le_of_ble_eq_true rfl⟩), (hw0 _ m_389), (hw0 _ m_390)⟩ (ci := 10) (q := (RX10, TX10, 41)) rfl rfl rfl hl.1 (Nat.le_of_ble_eq_true rfl) dX10_beside_141 ⟨Nat.le_of_ble_eq_true rfl, Nat.le_of_ble_eq_true rfl⟩ (fun r_1484 w_1484 H locs hw_1484 hP hD hS => ?_)
              obtain ⟨v_1485, bv_1485, h_1486, er_1484, rfl⟩ := hw_1484
              subst r_1484
              obtain ⟨hP, hD⟩ : vPD G A H [(ce_X10 ob ob_thrown ob_world ob_images ob_hasImage ob_tape ob_taped ob_five ob_size ob_at ob_from ob_token ob_value ob_faultKind ob_faultPlace ob_fresh ob_parts ob_houses ob_houseMany ob_worthOf ob_byCall ob_over ob_bestSet ob_bestOver ob_bestWorth ob_row ob_tenDebts ob_tenMany ob_fewestBy ob_covered ob_queue ob_cameBy ob_parent ob_met ob_calls ob_callMany ob_calledOn ob_saved ob_many ob_width ob_numbers ob_moving), (ce_i9080 y ob_world f_1305), (ce_i27240 y ob_images fob_images), (ce_z3 y ob_hasImage fob_hasImage), (ce_i6 y ob_parts fob_parts), (ce_i9080 y ob_saved f_1068)] := ⟨hP, hD⟩
              refine va_iast hx hb hK.1 hP hD hS 1 1 rfl rfl (vi bv_1483 (by decide)) dX10_beside_144 (fun H locs hP hD hS => ?_)
              generalize hf_1487 : (upd f_1305 (v_1483 : Int32).toNatClampNeg v_1485) = f_1487 at hP hD
              have zf_1487_7 : (f_1487 7).toInt = (f_1305 7).toInt := hf_1487 ▸ pin_ne (ix_not bv_1483 (by decide))
              have zf_1487_8 : (f_1487 8).toInt = (f_1305 8).toInt := hf_1487 ▸ pin_ne (ix_not bv_1483 (by decide))
              have bf_1487 : RBw f_1487 := hf_1487 ▸ upw (bf_1305).1.1 pl_13 (by omega) (nc_1313.1) bv_1485
              have cf_1487 : RVw f_1487 := hf_1487 ▸ RV_up (bf_1305).1 (hf_1487 ▸ bf_1487) (ix_out bv_1483 (by decide))
              have df_1487 : RWw f_1487 := ⟨cf_1487, hf_1487 ▸ WQ_up (bf_1305).1.1 (bf_1305).2 (qf_ix bv_1483 (by decide))⟩
              obtain ⟨hP, hD⟩ : vPD G A H [(ce_X10 ob ob_thrown ob_world ob_images ob_hasImage ob_tape ob_taped ob_five ob_size ob_at ob_from ob_token ob_value ob_faultKind ob_faultPlace ob_fresh ob_parts ob_houses ob_houseMany ob_worthOf ob_byCall ob_over ob_bestSet ob_bestOver ob_bestWorth ob_row ob_tenDebts ob_tenMany ob_fewestBy ob_covered ob_queue ob_cameBy ob_parent ob_met ob_calls ob_callMany ob_calledOn ob_saved ob_many ob_width ob_numbers ob_moving), (ce_i9080 y ob_world f_1487), (ce_i27240 y ob_images fob_images), (ce_z3 y ob_hasImage fob_hasImage), (ce_i6 y ob_parts fob_parts), (ce_i9080 y ob_saved f_1068)] := ⟨hP, hD⟩
              obtain ⟨v_1488, ev_1488⟩ : ∃ z : Int32, z = v_1304 + 1 := ⟨_, rfl⟩
              have qv_1488 := ba_add ev_1488 nc_1313.1 (bkc (x := 1) (c := 1) (by decide)) (by decide)
              have bv_1488 : (1 : Int) ≤ v_1488.toInt ∧ v_1488.toInt ≤ 16 := bq_add qv_1488 nc_1313.1 (bkc (x := 1) (c := 1) (by decide)) _ _ (by decide)
              have qv_1488 : v_1488.toInt = v_1304.toInt + (1) := qv_1488
              refine lv_iinc (v := v_1488) (lv' := [(2, .int v_1488), (0, .ref ob)]) hx hb dX10_beside_145 hl (k := 0) rfl (ev_1488.symm) (by decide) rfl (fun ls hl => ?_)
              refine lv_goto (tgt := 122) hx hb dX10_beside_148 (by decide) ?_
              exact ih_1312 _ (ml_inc (hi := 16) hn_1312 qv_1488 (by decide) ((bw (0) (16) bv_1488 (by decide))).2) _ _ _ _ ⟨v_1488, f_1487, rfl, (bw (0) (16) bv_1488 (by decide)), df_1487, rfl, ⟨hP, hD⟩, hS, lv_sub hl [0, 1] rfl⟩
          · skip
            have nc_1208 := nb_nlt (3) (3) c_1208 bv_1200 (bkc (x := 3) (c := 3) (by decide)) (by decide)
            refine lv_aload_n hx hb dX10_beside_96 rfl (lv_at hl 1 rfl) ?_
            refine va_get (D := G) (ci := 10) (v := .ref ob_world) (C := RX10) (T := TX10) (N := 41) hx hb hw0 inA_wsX100 hown hK.1 hP 0 rfl rfl 1 (by decide) (hw0 _ m_352) (fun _ h9 => h9) rfl dX10_beside_97 ?_
            refine lv_iload_n hx hb dX10_beside_100 rfl (lv_at hl 0 rfl) ?_
            refine lv_aload_n hx hb dX10_beside_101 rfl (lv_at hl 1 rfl) ?_
            refine va_get (D := G) (ci := 10) (v := .ref ob_images) (C := RX10) (T := TX10) (N := 41) hx hb hw0 inA_wsX100 hown hK.1 hP 0 rfl rfl 2 (by decide) (hw0 _ m_362) (fun _ h9 => h9) rfl dX10_beside_102 ?_
            refine lv_sipush (v := 9080) hx hb dX10_beside_105 (by decide) ?_
            refine lv_iload_n hx hb dX10_beside_108 rfl (lv_at hl 2 rfl) ?_
            refine lv_imul hx hb dX10_beside_109 ?_
            refine lv_topi (fun v_1489 ev_1489 => ?_)
            obtain rfl : 9080 = v_1489 := (ev_1489.trans (by decide)).symm
            refine lv_iload_n hx hb dX10_beside_110 rfl (lv_at hl 0 rfl) ?_
            refine lv_iadd hx hb dX10_beside_111 ?_
            refine lv_topi (fun v_1490 ev_1490 => ?_)
            have qv_1490 := ba_add ev_1490 (bkc (x := 9080) (c := 9080) (by decide)) nc_1208.1 (by decide)
            have bv_1490 : (9081 : Int) ≤ v_1490.toInt ∧ v_1490.toInt ≤ 9083 := bq_add qv_1490 (bkc (x := 9080) (c := 9080) (by decide)) nc_1208.1 _ _ (by decide)
            have qv_1490 : v_1490.toInt = (9080) + v_1200.toInt := qv_1490
            refine va_iald hx hb hK.1 hP 2 1 rfl rfl (vi bv_1490 (by decide)) dX10_beside_112 ?_
            refine lv_topi (fun v_1491 ev_1491 => ?_)
            refine va_iast hx hb hK.1 hP hD hS 1 1 rfl rfl (vi nc_1208.1 (by decide)) dX10_beside_113 (fun H locs hP hD hS => ?_)
            generalize hf_1492 : (upd f_1201 (v_1200 : Int32).toNatClampNeg v_1491) = f_1492 at hP hD
            have zf_1492_7 : (f_1492 7).toInt = (f_1201 7).toInt := hf_1492 ▸ pin_ne (ix_not nc_1208.1 (by decide))
            have zf_1492_8 : (f_1492 8).toInt = (f_1201 8).toInt := hf_1492 ▸ pin_ne (ix_not nc_1208.1 (by decide))
            obtain ⟨hP, hD⟩ : vPD G A H [(ce_X10 ob ob_thrown ob_world ob_images ob_hasImage ob_tape ob_taped ob_five ob_size ob_at ob_from ob_token ob_value ob_faultKind ob_faultPlace ob_fresh ob_parts ob_houses ob_houseMany ob_worthOf ob_byCall ob_over ob_bestSet ob_bestOver ob_bestWorth ob_row ob_tenDebts ob_tenMany ob_fewestBy ob_covered ob_queue ob_cameBy ob_parent ob_met ob_calls ob_callMany ob_calledOn ob_saved ob_many ob_width ob_numbers ob_moving), (ce_i9080 y ob_world f_1492), (ce_i27240 y ob_images fob_images), (ce_z3 y ob_hasImage fob_hasImage), (ce_i6 y ob_parts fob_parts), (ce_i9080 y ob_saved f_1068)] := ⟨hP, hD⟩
            obtain ⟨v_1493, ev_1493⟩ : ∃ z : Int32, z = v_1200 + 1 := ⟨_, rfl⟩
            have qv_1493 := ba_add ev_1493 nc_1208.1 (bkc (x := 1) (c := 1) (by decide)) (by decide)
            have bv_1493 : (2 : Int) ≤ v_1493.toInt ∧ v_1493.toInt ≤ 4 := bq_add qv_1493 nc_1208.1 (bkc (x := 1) (c := 1) (by decide)) _ _ (by decide)
            have qv_1493 : v_1493.toInt = v_1200.toInt + (1) := qv_1493
            refine lv_iinc (v := v_1493) (lv' := [(2, .int v_1493), (0, .ref ob), (1, .int 1)]) hx hb dX10_beside_114 hl (k := 0) rfl (ev_1493.symm) (by decide) rfl (fun ls hl => ?_)
            refine lv_goto (tgt := 91) hx hb dX10_beside_117 (by decide) ?_
            exact ih_1207 _ (ml_inc (hi := 4) hn_1207 qv_1493 (by decide) ((bw (1) (4) bv_1493 (by decide))).2) _ _ _ _ ⟨v_1493, f_1492, rfl, (bw (1) (4) bv_1493 (by decide)), (cp_s rl1201_0 hf_1492 ev_1491 ((cl_to (by omega)).trans (by omega)) ((cl_to (by omega)).trans (by omega)) (by omega) (by omega)), rfl, ⟨hP, hD⟩, hS, lv_sub hl [0, 1, 2] rfl⟩
        · skip
          have nc_1165 := nb_nle (1863) (1864) c_1165 bv_1157 (bkc (x := 1864) (c := 1864) (by decide)) (by decide)
          refine lv_aload_n hx hb dX10_beside_65 rfl (lv_at hl 1 rfl) ?_
          refine va_get (D := G) (ci := 10) (v := .ref ob_world) (C := RX10) (T := TX10) (N := 41) hx hb hw0 inA_wsX100 hown hK.1 hP 0 rfl rfl 1 (by decide) (hw0 _ m_352) (fun _ h9 => h9) rfl dX10_beside_66 ?_
          refine lv_iload_n hx hb dX10_beside_69 rfl (lv_at hl 0 rfl) ?_
          refine lv_aload_n hx hb dX10_beside_70 rfl (lv_at hl 1 rfl) ?_
          refine va_get (D := G) (ci := 10) (v := .ref ob_images) (C := RX10) (T := TX10) (N := 41) hx hb hw0 inA_wsX100 hown hK.1 hP 0 rfl rfl 2 (by decide) (hw0 _ m_362) (fun _ h9 => h9) rfl dX10_beside_71 ?_
          refine lv_sipush (v := 9080) hx hb dX10_beside_74 (by decide) ?_
          refine lv_iload_n hx hb dX10_beside_77 rfl (lv_at hl 2 rfl) ?_
          refine lv_imul hx hb dX10_beside_78 ?_
          refine lv_topi (fun v_1494 ev_1494 => ?_)
          obtain rfl : 9080 = v_1494 := (ev_1494.trans (by decide)).symm
          refine lv_iload_n hx hb dX10_beside_79 rfl (lv_at hl 0 rfl) ?_
          refine lv_iadd hx hb dX10_beside_80 ?_
          refine lv_topi (fun v_1495 ev_1495 => ?_)
          have qv_1495 := ba_add ev_1495 (bkc (x := 9080) (c := 9080) (by decide)) nc_1165.1 (by decide)
          have bv_1495 : (9234 : Int) ≤ v_1495.toInt ∧ v_1495.toInt ≤ 10943 := bq_add qv_1495 (bkc (x := 9080) (c := 9080) (by decide)) nc_1165.1 _ _ (by decide)
          have qv_1495 : v_1495.toInt = (9080) + v_1157.toInt := qv_1495
          refine va_iald hx hb hK.1 hP 2 1 rfl rfl (vi bv_1495 (by decide)) dX10_beside_81 ?_
          refine lv_topi (fun v_1496 ev_1496 => ?_)
          refine va_iast hx hb hK.1 hP hD hS 1 1 rfl rfl (vi nc_1165.1 (by decide)) dX10_beside_82 (fun H locs hP hD hS => ?_)
          generalize hf_1497 : (upd f_1158 (v_1157 : Int32).toNatClampNeg v_1496) = f_1497 at hP hD
          have zf_1497_7 : (f_1497 7).toInt = (f_1158 7).toInt := hf_1497 ▸ pin_ne (ix_not nc_1165.1 (by decide))
          have zf_1497_8 : (f_1497 8).toInt = (f_1158 8).toInt := hf_1497 ▸ pin_ne (ix_not nc_1165.1 (by decide))
          obtain ⟨hP, hD⟩ : vPD G A H [(ce_X10 ob ob_thrown ob_world ob_images ob_hasImage ob_tape ob_taped ob_five ob_size ob_at ob_from ob_token ob_value ob_faultKind ob_faultPlace ob_fresh ob_parts ob_houses ob_houseMany ob_worthOf ob_byCall ob_over ob_bestSet ob_bestOver ob_bestWorth ob_row ob_tenDebts ob_tenMany ob_fewestBy ob_covered ob_queue ob_cameBy ob_parent ob_met ob_calls ob_callMany ob_calledOn ob_saved ob_many ob_width ob_numbers ob_moving), (ce_i9080 y ob_world f_1497), (ce_i27240 y ob_images fob_images), (ce_z3 y ob_hasImage fob_hasImage), (ce_i6 y ob_parts fob_parts), (ce_i9080 y ob_saved f_1068)] := ⟨hP, hD⟩
          obtain ⟨v_1498, ev_1498⟩ : ∃ z : Int32, z = v_1157 + 1 := ⟨_, rfl⟩
          have qv_1498 := ba_add ev_1498 nc_1165.1 (bkc (x := 1) (c := 1) (by decide)) (by decide)
          have bv_1498 : (155 : Int) ≤ v_1498.toInt ∧ v_1498.toInt ≤ 1864 := bq_add qv_1498 nc_1165.1 (bkc (x := 1) (c := 1) (by decide)) _ _ (by decide)
          have qv_1498 : v_1498.toInt = v_1157.toInt + (1) := qv_1498
          refine lv_iinc (v := v_1498) (lv' := [(2, .int v_1498), (0, .ref ob), (1, .int 1)]) hx hb dX10_beside_83 hl (k := 0) rfl (ev_1498.symm) (by decide) rfl (fun ls hl => ?_)
          refine lv_goto (tgt := 58) hx hb dX10_beside_86 (by decide) ?_
          exact ih_1164 _ (ml_inc (hi := 1864) hn_1164 qv_1498 (by decide) ((bw (154) (1864) bv_1498 (by decide))).2) _ _ _ _ ⟨v_1498, f_1497, rfl, (bw (154) (1864) bv_1498 (by decide)), (cp_s rl1158_0 hf_1497 ev_1496 ((cl_to (by omega)).trans (by omega)) ((cl_to (by omega)).trans (by omega)) (by omega) (by omega)), rfl, ⟨hP, hD⟩, hS, lv_sub hl [0, 1, 2] rfl⟩
      · skip
        have nc_1073 := nb_nle (9079) (9080) c_1073 bv_1067 (bkc (x := 9080) (c := 9080) (by decide)) (by decide)
        refine lv_aload_n hx hb dX10_beside_36 rfl (lv_at hl 1 rfl) ?_
        refine va_get (D := G) (ci := 10) (v := .ref ob_saved) (C := RX10) (T := TX10) (N := 41) hx hb hw0 inA_wsX100 hown hK.1 hP 0 rfl rfl 36 (by decide) (hw0 _ m_392) (fun _ h9 => h9) rfl dX10_beside_37 ?_
        refine lv_iload_n hx hb dX10_beside_40 rfl (lv_at hl 0 rfl) ?_
        refine lv_aload_n hx hb dX10_beside_41 rfl (lv_at hl 1 rfl) ?_
        refine va_get (D := G) (ci := 10) (v := .ref ob_world) (C := RX10) (T := TX10) (N := 41) hx hb hw0 inA_wsX100 hown hK.1 hP 0 rfl rfl 1 (by decide) (hw0 _ m_352) (fun _ h9 => h9) rfl dX10_beside_42 ?_
        refine lv_iload_n hx hb dX10_beside_45 rfl (lv_at hl 0 rfl) ?_
        refine va_iald hx hb hK.1 hP 1 1 rfl rfl (vi nc_1073.1 (by decide)) dX10_beside_46 ?_
        refine lv_topi (fun v_1499 ev_1499 => ?_)
        refine va_iast hx hb hK.1 hP hD hS 5 1 rfl rfl (vi nc_1073.1 (by decide)) dX10_beside_47 (fun H locs hP hD hS => ?_)
        generalize hf_1500 : (upd f_1068 (v_1067 : Int32).toNatClampNeg v_1499) = f_1500 at hP hD
        obtain ⟨hP, hD⟩ : vPD G A H [(ce_X10 ob ob_thrown ob_world ob_images ob_hasImage ob_tape ob_taped ob_five ob_size ob_at ob_from ob_token ob_value ob_faultKind ob_faultPlace ob_fresh ob_parts ob_houses ob_houseMany ob_worthOf ob_byCall ob_over ob_bestSet ob_bestOver ob_bestWorth ob_row ob_tenDebts ob_tenMany ob_fewestBy ob_covered ob_queue ob_cameBy ob_parent ob_met ob_calls ob_callMany ob_calledOn ob_saved ob_many ob_width ob_numbers ob_moving), (ce_i9080 y ob_world fob_world), (ce_i27240 y ob_images fob_images), (ce_z3 y ob_hasImage fob_hasImage), (ce_i6 y ob_parts fob_parts), (ce_i9080 y ob_saved f_1500)] := ⟨hP, hD⟩
        obtain ⟨v_1501, ev_1501⟩ : ∃ z : Int32, z = v_1067 + 1 := ⟨_, rfl⟩
        have qv_1501 := ba_add ev_1501 nc_1073.1 (bkc (x := 1) (c := 1) (by decide)) (by decide)
        have bv_1501 : (1 : Int) ≤ v_1501.toInt ∧ v_1501.toInt ≤ 9080 := bq_add qv_1501 nc_1073.1 (bkc (x := 1) (c := 1) (by decide)) _ _ (by decide)
        have qv_1501 : v_1501.toInt = v_1067.toInt + (1) := qv_1501
        refine lv_iinc (v := v_1501) (lv' := [(2, .int v_1501), (0, .ref ob), (1, .int 1)]) hx hb dX10_beside_48 hl (k := 0) rfl (ev_1501.symm) (by decide) rfl (fun ls hl => ?_)
        refine lv_goto (tgt := 29) hx hb dX10_beside_51 (by decide) ?_
        exact ih_1072 _ (ml_inc (hi := 9080) hn_1072 qv_1501 (by decide) ((bw (0) (9080) bv_1501 (by decide))).2) _ _ _ _ ⟨v_1501, f_1500, rfl, (bw (0) (9080) bv_1501 (by decide)), (cp_s rl1068_0 hf_1500 ev_1499 ((cl_to (by omega)).trans (by omega)) ((cl_to (by omega)).trans (by omega)) (by omega) (by omega)), rfl, ⟨hP, hD⟩, hS, lv_sub hl [0, 1, 2] rfl⟩
    · skip
      have nc_1007 := nb_eq (0) (0) c_1007 bv_1006 (bkc (x := 0) (c := 0) (by decide)) (by decide)
      refine lv_bipush (v := (-6)) hx hb dX10_beside_24 (by decide) ?_
      exact W.iret (v := (-6)) hx hb hr (fun t ht hW => ⟨⟨(-6), _, rfl, ⟨(-6), fob_world, fob_parts, fob_saved, (bw (-6) (600) (bkc (x := (-6)) (c := -6) (by decide)) (by decide)), p_fob_world, (fun _ _ => rfl), rfl, rfl⟩, by rw [ht]; exact hP, hD⟩, hS.F ht⟩) hS.2.2 dX10_beside_26

set_option maxHeartbeats 4000000 in
set_option maxRecDepth 100000 in
theorem sbes2 (l : Launch) (G : va_G) (y : Nat → ClassId) (sz : Nat) (ob : Nat) (ob_thrown : Int32) (ob_world : Nat) (ob_images : Nat) (ob_hasImage : Nat) (ob_tape : Nat) (ob_taped : Int32) (ob_five : Nat) (ob_size : Int32) (ob_at : Int32) (ob_from : Int32) (ob_token : Int32) (ob_value : Int32) (ob_faultKind : Int32) (ob_faultPlace : Int32) (ob_fresh : Nat) (ob_parts : Nat) (ob_houses : Nat) (ob_houseMany : Int32) (ob_worthOf : Nat) (ob_byCall : Nat) (ob_over : Nat) (ob_bestSet : Int32) (ob_bestOver : Int32) (ob_bestWorth : Int32) (ob_row : Nat) (ob_tenDebts : Nat) (ob_tenMany : Int32) (ob_fewestBy : Nat) (ob_covered : Nat) (ob_queue : Nat) (ob_cameBy : Nat) (ob_parent : Nat) (ob_met : Nat) (ob_calls : Nat) (ob_callMany : Int32) (ob_calledOn : Nat) (ob_saved : Nat) (ob_many : Nat) (ob_width : Nat) (ob_numbers : Nat) (ob_moving : Nat) (fob_world : Nat → Int32) (fob_images : Nat → Int32) (fob_hasImage : Nat → Int32) (fob_parts : Nat → Int32) (fob_saved : Nat → Int32) (p_fob_world : RWw fob_world) (p_fob_images : RIw fob_images) (p_fob_hasImage : ∀ i, (0 : Int) ≤ (fob_hasImage i).toInt ∧ (fob_hasImage i).toInt ≤ 1) (p_ob_taped : (0 : Int) ≤ ob_taped.toInt ∧ ob_taped.toInt ≤ 1400) (p_ob_size : (0 : Int) ≤ ob_size.toInt ∧ ob_size.toInt ≤ 1400) (p_ob_at : (0 : Int) ≤ ob_at.toInt ∧ ob_at.toInt ≤ 1400) (p_ob_from : (0 : Int) ≤ ob_from.toInt ∧ ob_from.toInt ≤ 1400) (p_ob_token : (0 : Int) ≤ ob_token.toInt ∧ ob_token.toInt ≤ 4) (p_ob_value : (0 : Int) ≤ ob_value.toInt ∧ ob_value.toInt ≤ 9999) (p_ob_faultKind : (0 : Int) ≤ ob_faultKind.toInt ∧ ob_faultKind.toInt ≤ 3) (p_ob_houseMany : (0 : Int) ≤ ob_houseMany.toInt ∧ ob_houseMany.toInt ≤ 10) (p_ob_bestSet : (0 : Int) ≤ ob_bestSet.toInt ∧ ob_bestSet.toInt ≤ 1023) (p_ob_bestOver : (-1 : Int) ≤ ob_bestOver.toInt ∧ ob_bestOver.toInt ≤ 180) (p_ob_tenMany : (0 : Int) ≤ ob_tenMany.toInt ∧ ob_tenMany.toInt ≤ 10) (p_ob_callMany : (0 : Int) ≤ ob_callMany.toInt ∧ ob_callMany.toInt ≤ 16) : Met l yX10_beside (Cond.code yX10_beside cX10_beside 5 (some .int) :: wAll) ({ frames := 4, cells := 0, slots := 0, locals := 111 }) (va_Pc [.ref ob, .int 2] (kp G y sz [(ce_X10 ob ob_thrown ob_world ob_images ob_hasImage ob_tape ob_taped ob_five ob_size ob_at ob_from ob_token ob_value ob_faultKind ob_faultPlace ob_fresh ob_parts ob_houses ob_houseMany ob_worthOf ob_byCall ob_over ob_bestSet ob_bestOver ob_bestWorth ob_row ob_tenDebts ob_tenMany ob_fewestBy ob_covered ob_queue ob_cameBy ob_parent ob_met ob_calls ob_callMany ob_calledOn ob_saved ob_many ob_width ob_numbers ob_moving), (ce_i9080 y ob_world fob_world), (ce_i27240 y ob_images fob_images), (ce_z3 y ob_hasImage fob_hasImage), (ce_i6 y ob_parts fob_parts), (ce_i9080 y ob_saved fob_saved)])) (va_Qi (fun (r : Int32) (w : va_W) => (∃ (v_1003 : Int32) (f_1004 : Nat → Int32) (f_1005 : Nat → Int32) (f_1006 : Nat → Int32), ((-6 : Int) ≤ v_1003.toInt ∧ v_1003.toInt ≤ 600) ∧ (RWw f_1004) ∧ (∀ j : Nat, j < 9080 → f_1004 j = fob_world j) ∧ r = v_1003 ∧ w = [(ce_X10 ob ob_thrown ob_world ob_images ob_hasImage ob_tape ob_taped ob_five ob_size ob_at ob_from ob_token ob_value ob_faultKind ob_faultPlace ob_fresh ob_parts ob_houses ob_houseMany ob_worthOf ob_byCall ob_over ob_bestSet ob_bestOver ob_bestWorth ob_row ob_tenDebts ob_tenMany ob_fewestBy ob_covered ob_queue ob_cameBy ob_parent ob_met ob_calls ob_callMany ob_calledOn ob_saved ob_many ob_width ob_numbers ob_moving), (ce_i9080 y ob_world f_1004), (ce_i27240 y ob_images fob_images), (ce_z3 y ob_hasImage fob_hasImage), (ce_i6 y ob_parts f_1005), (ce_i9080 y ob_saved f_1006)])) (kq G (va_A [(ce_X10 ob ob_thrown ob_world ob_images ob_hasImage ob_tape ob_taped ob_five ob_size ob_at ob_from ob_token ob_value ob_faultKind ob_faultPlace ob_fresh ob_parts ob_houses ob_houseMany ob_worthOf ob_byCall ob_over ob_bestSet ob_bestOver ob_bestWorth ob_row ob_tenDebts ob_tenMany ob_fewestBy ob_covered ob_queue ob_cameBy ob_parent ob_met ob_calls ob_callMany ob_calledOn ob_saved ob_many ob_width ob_numbers ob_moving), (ce_i9080 y ob_world fob_world), (ce_i27240 y ob_images fob_images), (ce_z3 y ob_hasImage fob_hasImage), (ce_i6 y ob_parts fob_parts), (ce_i9080 y ob_saved fob_saved)] sz)) (va_A [(ce_X10 ob ob_thrown ob_world ob_images ob_hasImage ob_tape ob_taped ob_five ob_size ob_at ob_from ob_token ob_value ob_faultKind ob_faultPlace ob_fresh ob_parts ob_houses ob_houseMany ob_worthOf ob_byCall ob_over ob_bestSet ob_bestOver ob_bestWorth ob_row ob_tenDebts ob_tenMany ob_fewestBy ob_covered ob_queue ob_cameBy ob_parent ob_met ob_calls ob_callMany ob_calledOn ob_saved ob_many ob_width ob_numbers ob_moving), (ce_i9080 y ob_world fob_world), (ce_i27240 y ob_images fob_images), (ce_z3 y ob_hasImage fob_hasImage), (ce_i6 y ob_parts fob_parts), (ce_i9080 y ob_saved fob_saved)] sz)) 0 0 (va_A [(ce_X10 ob ob_thrown ob_world ob_images ob_hasImage ob_tape ob_taped ob_five ob_size ob_at ob_from ob_token ob_value ob_faultKind ob_faultPlace ob_fresh ob_parts ob_houses ob_houseMany ob_worthOf ob_byCall ob_over ob_bestSet ob_bestOver ob_bestWorth ob_row ob_tenDebts ob_tenMany ob_fewestBy ob_covered ob_queue ob_cameBy ob_parent ob_met ob_calls ob_callMany ob_calledOn ob_saved ob_many ob_width ob_numbers ob_moving), (ce_i9080 y ob_world fob_world), (ce_i27240 y ob_images fob_images), (ce_z3 y ob_hasImage fob_hasImage), (ce_i6 y ob_parts fob_parts), (ce_i9080 y ob_saved fob_saved)] sz) := by
  refine Met.ofW (cc := cX10_beside) (maxL := 5) (ret := (some .int)) (by decide) rfl ?_
  intro p e s m args below meth c s₁ B hml hv
  obtain ⟨rfl, hsz, hP, hK, hD0⟩ := hv
  have hx := B.exec
  have hb := B.bytes
  have hr := B.returns
  have hw0 : ∀ w ∈ wAll, w.before _ s = true := fun w h => atoms_spec (ws := Cond.code yX10_beside cX10_beside 5 (some .int) :: wAll) B.pre w (List.mem_cons_of_mem _ h)
  have hown : s.vm.findClass RX10 = some m.cls := findClass_of_methodNamed B.named
  subst hsz
  have hD := hD0.self (sz := s.heap.size)
  generalize hAe : va_A [(ce_X10 ob ob_thrown ob_world ob_images ob_hasImage ob_tape ob_taped ob_five ob_size ob_at ob_from ob_token ob_value ob_faultKind ob_faultPlace ob_fresh ob_parts ob_houses ob_houseMany ob_worthOf ob_byCall ob_over ob_bestSet ob_bestOver ob_bestWorth ob_row ob_tenDebts ob_tenMany ob_fewestBy ob_covered ob_queue ob_cameBy ob_parent ob_met ob_calls ob_callMany ob_calledOn ob_saved ob_many ob_width ob_numbers ob_moving), (ce_i9080 y ob_world fob_world), (ce_i27240 y ob_images fob_images), (ce_z3 y ob_hasImage fob_hasImage), (ce_i6 y ob_parts fob_parts), (ce_i9080 y ob_saved fob_saved)] s.heap.size = A at hD ⊢
  have hA : ∀ q : Nat, s.heap.size ≤ q → A q := fun q h => by rw [← hAe]; exact Or.inr h
  have hS : va_S A s.heap s.heap [] := va_S.rf
  have hP : va_P G vwCl [(ce_X10 ob ob_thrown ob_world ob_images ob_hasImage ob_tape ob_taped ob_five ob_size ob_at ob_from ob_token ob_value ob_faultKind ob_faultPlace ob_fresh ob_parts ob_houses ob_houseMany ob_worthOf ob_byCall ob_over ob_bestSet ob_bestOver ob_bestWorth ob_row ob_tenDebts ob_tenMany ob_fewestBy ob_covered ob_queue ob_cameBy ob_parent ob_met ob_calls ob_callMany ob_calledOn ob_saved ob_many ob_width ob_numbers ob_moving), (ce_i9080 y ob_world fob_world), (ce_i27240 y ob_images fob_images), (ce_z3 y ob_hasImage fob_hasImage), (ce_i6 y ob_parts fob_parts), (ce_i9080 y ob_saved fob_saved)] s.heap := hP
  have hl := lv_entry ([.ref ob, .int 2]) (n := 5) (Nat.le_of_ble_eq_true rfl)
  rw [lg_entry_eq]
  generalize (lg_sl ([.ref ob, .int 2]) ++ List.replicate (5 - (lg_sl ([.ref ob, .int 2])).length) Slot.unset).toArray = ls at hl ⊢
  have hl : lv_has ls 5 [(0, .ref ob), (1, .int 2)] := hl
  refine lv_iload_n hx hb dX10_beside_0 rfl (lv_at hl 1 rfl) ?_
  refine lv_i2l (v := 2) hx hb dX10_beside_1 (by decide) ?_
  refine lv_lconst (v := 0) hx hb dX10_beside_2 (by decide) ?_
  refine lv_ldc2 (own := RX10) (v := 2) hx hb hown (hw0 _ m_360) dX10_beside_3 ?_
  refine cSim (As := [.long 2, .long 0, .long 2]) (rest := []) ⟨hx, hb, hml, hown, hw0⟩ hA hK hP hD hS [] (sX10_in l G y _ 2 0 2 ) rfl ⟨(callB_of 3 hw0 (gA m_516) rfl rfl rfl (hw0 _ m_41) (hw0 _ m_345) cb_X10_in ⟨Nat.le_of_ble_eq_true rfl, Nat.le_of_ble_eq_true rfl⟩), (hw0 _ m_346)⟩ rfl hl.1 (Nat.le_of_ble_eq_true rfl) dX10_beside_6 ⟨Nat.le_of_ble_eq_true rfl, Nat.le_of_ble_eq_true rfl⟩ (fun r_1001 w_1001 H locs hw_1001 hP hD hS => ?_)
  rcases hw_1001 with ⟨h_1002, rfl, rfl⟩ | ⟨h_1003, rfl, rfl⟩
  · skip
    have h_1004 : 2 < (0 : Int) ∨ (2 : Int) < 2 := in_n h_1002 (by decide) (by decide) (by decide)
    omega
  · skip
    have h_1005 : (0 : Int) ≤ 2 ∧ 2 ≤ (2 : Int) := in_y h_1003 (by decide) (by decide) (by decide)
    obtain ⟨hP, hD⟩ : vPD G A H [(ce_X10 ob ob_thrown ob_world ob_images ob_hasImage ob_tape ob_taped ob_five ob_size ob_at ob_from ob_token ob_value ob_faultKind ob_faultPlace ob_fresh ob_parts ob_houses ob_houseMany ob_worthOf ob_byCall ob_over ob_bestSet ob_bestOver ob_bestWorth ob_row ob_tenDebts ob_tenMany ob_fewestBy ob_covered ob_queue ob_cameBy ob_parent ob_met ob_calls ob_callMany ob_calledOn ob_saved ob_many ob_width ob_numbers ob_moving), (ce_i9080 y ob_world fob_world), (ce_i27240 y ob_images fob_images), (ce_z3 y ob_hasImage fob_hasImage), (ce_i6 y ob_parts fob_parts), (ce_i9080 y ob_saved fob_saved)] := ⟨hP, hD⟩
    refine lv_if_ne (tgt := 15) hx hb dX10_beside_9 (by decide) (fun _ => ?_) (fun c9 => absurd c9 (by decide))
    refine lv_aload_n hx hb dX10_beside_15 rfl (lv_at hl 0 rfl) ?_
    refine va_get (D := G) (ci := 10) (v := .ref ob_hasImage) (C := RX10) (T := TX10) (N := 41) hx hb hw0 inA_wsX100 hown hK.1 hP 0 rfl rfl 3 (by decide) (hw0 _ m_361) (fun _ h9 => h9) rfl dX10_beside_16 ?_
    refine lv_iload_n hx hb dX10_beside_19 rfl (lv_at hl 1 rfl) ?_
    refine va_zald hx hb hK.1 hP 3 3 rfl rfl (vi (bkc (x := 2) (c := 2) (by decide)) (by decide)) dX10_beside_20 ?_
    refine lv_topi (fun v_1006 ev_1006 => ?_)
    have bv_1006 : (0 : Int) ≤ v_1006.toInt ∧ v_1006.toInt ≤ 1 := rd_b ev_1006 p_fob_hasImage
    refine lv_if_ne (tgt := 27) hx hb dX10_beside_21 (by decide) (fun c_1007 => ?_) (fun c_1007 => ?_)
    · skip
      have nc_1007 := nb_ne (1) (1) c_1007 bv_1006 (k := 0) (by decide) (by decide)
      refine lv_iconst (v := 0) hx hb dX10_beside_27 (by decide) ?_
      refine lv_istore_n (lv' := [(2, .int 0), (0, .ref ob), (1, .int 2)]) hx hb dX10_beside_28 rfl hl (by decide) rfl (fun ls hl => ?_)
      refine loopX (fun n H locs ls st => ∃ (v_1067 : Int32) (f_1068 : Nat → Int32), (9080 - v_1067.toInt).toNat = n ∧ ((0 : Int) ≤ v_1067.toInt ∧ v_1067.toInt ≤ 9080) ∧ (cpR f_1068 fob_saved fob_world 0 0 0 v_1067.toInt) ∧ st = [] ∧ vPD G A H [(ce_X10 ob ob_thrown ob_world ob_images ob_hasImage ob_tape ob_taped ob_five ob_size ob_at ob_from ob_token ob_value ob_faultKind ob_faultPlace ob_fresh ob_parts ob_houses ob_houseMany ob_worthOf ob_byCall ob_over ob_bestSet ob_bestOver ob_bestWorth ob_row ob_tenDebts ob_tenMany ob_fewestBy ob_covered ob_queue ob_cameBy ob_parent ob_met ob_calls ob_callMany ob_calledOn ob_saved ob_many ob_width ob_numbers ob_moving), (ce_i9080 y ob_world fob_world), (ce_i27240 y ob_images fob_images), (ce_z3 y ob_hasImage fob_hasImage), (ce_i6 y ob_parts fob_parts), (ce_i9080 y ob_saved f_1068)] ∧ va_S A s.heap H locs ∧ lv_has ls 5 [(2, .int v_1067), (0, .ref ob), (1, .int 2)]) ?_ (n := (9080 - (0 : Int32).toInt).toNat) ⟨0, fob_saved, rfl, (bw (0) (9080) (bkc (x := 0) (c := 0) (by decide)) (by decide)), (cp_0 (by have h90 : Int32.toInt 0 = 0 := (by decide); have h91 : Int32.toInt 2 = 2 := (by decide); omega)), rfl, ⟨hP, hD⟩, hS, lv_sub hl [0, 1, 2] rfl⟩
      rintro n ih_1072 H locs ls st ⟨v_1067, f_1068, hn_1072, bv_1067, rl1068_0, rfl, ⟨hP, hD⟩, hS, hl⟩
      refine lv_iload_n hx hb dX10_beside_29 rfl (lv_at hl 0 rfl) ?_
      refine lv_sipush (v := 9080) hx hb dX10_beside_30 (by decide) ?_
      refine lv_icmp_ge (tgt := 54) hx hb dX10_beside_33 (by decide) (fun c_1073 => ?_) (fun c_1073 => ?_)
      · skip
        have nc_1073 := nb_le (9080) (9080) c_1073 (bkc (x := 9080) (c := 9080) (by decide)) bv_1067 (by decide)
        refine lv_sipush (v := 154) hx hb dX10_beside_54 (by decide) ?_
        refine lv_istore_n (lv' := [(2, .int 154), (0, .ref ob), (1, .int 2)]) hx hb dX10_beside_57 rfl hl (by decide) rfl (fun ls hl => ?_)
        refine loopX (fun n H locs ls st => ∃ (v_1157 : Int32) (f_1158 : Nat → Int32), (1864 - v_1157.toInt).toNat = n ∧ ((154 : Int) ≤ v_1157.toInt ∧ v_1157.toInt ≤ 1864) ∧ (cpR f_1158 fob_world fob_images 0 18160 154 v_1157.toInt) ∧ st = [] ∧ vPD G A H [(ce_X10 ob ob_thrown ob_world ob_images ob_hasImage ob_tape ob_taped ob_five ob_size ob_at ob_from ob_token ob_value ob_faultKind ob_faultPlace ob_fresh ob_parts ob_houses ob_houseMany ob_worthOf ob_byCall ob_over ob_bestSet ob_bestOver ob_bestWorth ob_row ob_tenDebts ob_tenMany ob_fewestBy ob_covered ob_queue ob_cameBy ob_parent ob_met ob_calls ob_callMany ob_calledOn ob_saved ob_many ob_width ob_numbers ob_moving), (ce_i9080 y ob_world f_1158), (ce_i27240 y ob_images fob_images), (ce_z3 y ob_hasImage fob_hasImage), (ce_i6 y ob_parts fob_parts), (ce_i9080 y ob_saved f_1068)] ∧ va_S A s.heap H locs ∧ lv_has ls 5 [(2, .int v_1157), (0, .ref ob), (1, .int 2)]) ?_ (n := (1864 - (154 : Int32).toInt).toNat) ⟨154, fob_world, rfl, (bw (154) (1864) (bkc (x := 154) (c := 154) (by decide)) (by decide)), (cp_0 (by have h90 : Int32.toInt 2 = 2 := (by decide); have h91 : Int32.toInt 154 = 154 := (by decide); omega)), rfl, ⟨hP, hD⟩, hS, lv_sub hl [0, 1, 2] rfl⟩
        rintro n ih_1164 H locs ls st ⟨v_1157, f_1158, hn_1164, bv_1157, rl1158_0, rfl, ⟨hP, hD⟩, hS, hl⟩
        refine lv_iload_n hx hb dX10_beside_58 rfl (lv_at hl 0 rfl) ?_
        refine lv_sipush (v := 1864) hx hb dX10_beside_59 (by decide) ?_
        refine lv_icmp_ge (tgt := 89) hx hb dX10_beside_62 (by decide) (fun c_1165 => ?_) (fun c_1165 => ?_)
        · skip
          have nc_1165 := nb_le (1864) (1864) c_1165 (bkc (x := 1864) (c := 1864) (by decide)) bv_1157 (by decide)
          refine lv_iconst (v := 1) hx hb dX10_beside_89 (by decide) ?_
          refine lv_istore_n (lv' := [(2, .int 1), (0, .ref ob), (1, .int 2)]) hx hb dX10_beside_90 rfl hl (by decide) rfl (fun ls hl => ?_)
          refine loopX (fun n H locs ls st => ∃ (v_1200 : Int32) (f_1201 : Nat → Int32), (4 - v_1200.toInt).toNat = n ∧ ((1 : Int) ≤ v_1200.toInt ∧ v_1200.toInt ≤ 4) ∧ (cpR f_1201 f_1158 fob_images 0 18160 1 v_1200.toInt) ∧ st = [] ∧ vPD G A H [(ce_X10 ob ob_thrown ob_world ob_images ob_hasImage ob_tape ob_taped ob_five ob_size ob_at ob_from ob_token ob_value ob_faultKind ob_faultPlace ob_fresh ob_parts ob_houses ob_houseMany ob_worthOf ob_byCall ob_over ob_bestSet ob_bestOver ob_bestWorth ob_row ob_tenDebts ob_tenMany ob_fewestBy ob_covered ob_queue ob_cameBy ob_parent ob_met ob_calls ob_callMany ob_calledOn ob_saved ob_many ob_width ob_numbers ob_moving), (ce_i9080 y ob_world f_1201), (ce_i27240 y ob_images fob_images), (ce_z3 y ob_hasImage fob_hasImage), (ce_i6 y ob_parts fob_parts), (ce_i9080 y ob_saved f_1068)] ∧ va_S A s.heap H locs ∧ lv_has ls 5 [(2, .int v_1200), (0, .ref ob), (1, .int 2)]) ?_ (n := (4 - (1 : Int32).toInt).toNat) ⟨1, f_1158, rfl, (bw (1) (4) (bkc (x := 1) (c := 1) (by decide)) (by decide)), (cp_0 (by have h90 : Int32.toInt 1 = 1 := (by decide); have h91 : Int32.toInt 2 = 2 := (by decide); omega)), rfl, ⟨hP, hD⟩, hS, lv_sub hl [0, 1, 2] rfl⟩
          rintro n ih_1207 H locs ls st ⟨v_1200, f_1201, hn_1207, bv_1200, rl1201_0, rfl, ⟨hP, hD⟩, hS, hl⟩
          refine lv_iload_n hx hb dX10_beside_91 rfl (lv_at hl 0 rfl) ?_
          refine lv_iconst (v := 3) hx hb dX10_beside_92 (by decide) ?_
          refine lv_icmp_gt (tgt := 120) hx hb dX10_beside_93 (by decide) (fun c_1208 => ?_) (fun c_1208 => ?_)
          · skip
            have nc_1208 := nb_lt (3) (4) c_1208 (bkc (x := 3) (c := 3) (by decide)) bv_1200 (by decide)
            have kf_1201 : RWw f_1201 := RW_mix rl1158_0 (by omega) rl1201_0 (by omega) p_fob_world (RI_at p_fob_images 2 (by decide))
            refine lv_iconst (v := 0) hx hb dX10_beside_120 (by decide) ?_
            refine lv_istore_n (lv' := [(2, .int 0), (0, .ref ob), (1, .int 2)]) hx hb dX10_beside_121 rfl hl (by decide) rfl (fun ls hl => ?_)
            refine loopX (fun n H locs ls st => ∃ (v_1304 : Int32) (f_1305 : Nat → Int32), (16 - v_1304.toInt).toNat = n ∧ ((0 : Int) ≤ v_1304.toInt ∧ v_1304.toInt ≤ 16) ∧ (RWw f_1305) ∧ st = [] ∧ vPD G A H [(ce_X10 ob ob_thrown ob_world ob_images ob_hasImage ob_tape ob_taped ob_five ob_size ob_at ob_from ob_token ob_value ob_faultKind ob_faultPlace ob_fresh ob_parts ob_houses ob_houseMany ob_worthOf ob_byCall ob_over ob_bestSet ob_bestOver ob_bestWorth ob_row ob_tenDebts ob_tenMany ob_fewestBy ob_covered ob_queue ob_cameBy ob_parent ob_met ob_calls ob_callMany ob_calledOn ob_saved ob_many ob_width ob_numbers ob_moving), (ce_i9080 y ob_world f_1305), (ce_i27240 y ob_images fob_images), (ce_z3 y ob_hasImage fob_hasImage), (ce_i6 y ob_parts fob_parts), (ce_i9080 y ob_saved f_1068)] ∧ va_S A s.heap H locs ∧ lv_has ls 5 [(2, .int v_1304), (0, .ref ob)]) ?_ (n := (16 - (0 : Int32).toInt).toNat) ⟨0, f_1201, rfl, (bw (0) (16) (bkc (x := 0) (c := 0) (by decide)) (by decide)), kf_1201, rfl, ⟨hP, hD⟩, hS, lv_sub hl [0, 1] rfl⟩
            rintro n ih_1312 H locs ls st ⟨v_1304, f_1305, hn_1312, bv_1304, bf_1305, rfl, ⟨hP, hD⟩, hS, hl⟩
            refine lv_iload_n hx hb dX10_beside_122 rfl (lv_at hl 0 rfl) ?_
            refine lv_bipush (v := 16) hx hb dX10_beside_123 (by decide) ?_
            refine lv_icmp_ge (tgt := 151) hx hb dX10_beside_125 (by decide) (fun c_1313 => ?_) (fun c_1313 => ?_)
            · skip
              have nc_1313 := nb_le (16) (16) c_1313 (bkc (x := 16) (c := 16) (by decide)) bv_1304 (by decide)
              have h8f_1305 : (0 : Int) ≤ (f_1305 8).toInt ∧ (f_1305 8).toInt ≤ 600 := (bf_1305).1.1 8
              refine lv_aload_n hx hb dX10_beside_151 rfl (lv_at hl 1 rfl) ?_
              refine va_get (D := G) (ci := 10) (v := .ref ob_world) (C := RX10) (T := TX10) (N := 41) hx hb hw0 inA_wsX100 hown hK.1 hP 0 rfl rfl 1 (by decide) (hw0 _ m_352) (fun _ h9 => h9) rfl dX10_beside_152 ?_
              refine lv_bipush (v := 7) hx hb dX10_beside_155 (by decide) ?_
              refine lv_iconst (v := 0) hx hb dX10_beside_157 (by decide) ?_
              refine va_iast hx hb hK.1 hP hD hS 1 1 rfl rfl (vi (bkc (x := 7) (c := 7) (by decide)) (by decide)) dX10_beside_158 (fun H locs hP hD hS => ?_)
              generalize hf_1314 : (upd f_1305 (7 : Int32).toNatClampNeg 0) = f_1314 at hP hD
              have zf_1314_7 : (f_1314 7).toInt = 0 := by rw [← hf_1314]; exact (pin_eq (by decide)).trans (by decide)
              have zf_1314_8 : (f_1314 8).toInt = (f_1305 8).toInt := hf_1314 ▸ pin_ne (ix_not (bkc (x := 7) (c := 7) (by decide)) (by decide))
              have bf_1314 : RBw f_1314 := hf_1314 ▸ upk (bf_1305).1.1 (bkc (x := 0) (c := 0) (by decide)) (by decide)
              have cf_1314 : RVw f_1314 := ⟨bf_1314, by have h97 : (f_1305 7).toInt ≤ (f_1305 8).toInt := ((bf_1305).1).2; unfold W7; omega⟩
              have df_1314 : RWw f_1314 := ⟨cf_1314, hf_1314 ▸ WQ_up (bf_1305).1.1 (bf_1305).2 (qf_ix (bkc (x := 7) (c := 7) (by decide)) (by decide))⟩
              obtain ⟨hP, hD⟩ : vPD G A H [(ce_X10 ob ob_thrown ob_world ob_images ob_hasImage ob_tape ob_taped ob_five ob_size ob_at ob_from ob_token ob_value ob_faultKind ob_faultPlace ob_fresh ob_parts ob_houses ob_houseMany ob_worthOf ob_byCall ob_over ob_bestSet ob_bestOver ob_bestWorth ob_row ob_tenDebts ob_tenMany ob_fewestBy ob_covered ob_queue ob_cameBy ob_parent ob_met ob_calls ob_callMany ob_calledOn ob_saved ob_many ob_width ob_numbers ob_moving), (ce_i9080 y ob_world f_1314), (ce_i27240 y ob_images fob_images), (ce_z3 y ob_hasImage fob_hasImage), (ce_i6 y ob_parts fob_parts), (ce_i9080 y ob_saved f_1068)] := ⟨hP, hD⟩
              refine lv_iconst (v := 0) hx hb dX10_beside_159 (by decide) ?_
              refine lv_istore_n (lv' := [(2, .int 0), (0, .ref ob)]) hx hb dX10_beside_160 rfl hl (by decide) rfl (fun ls hl => ?_)
              refine loopX (fun n H locs ls st => ∃ (v_1374 : Int32) (f_1375 : Nat → Int32) (f_1376 : Nat → Int32), (600 - v_1374.toInt).toNat = n ∧ ((0 : Int) ≤ v_1374.toInt ∧ v_1374.toInt ≤ 600) ∧ (RWw f_1375) ∧ ((f_1375 7).toInt ≤ v_1374.toInt) ∧ st = [] ∧ vPD G A H [(ce_X10 ob ob_thrown ob_world ob_images ob_hasImage ob_tape ob_taped ob_five ob_size ob_at ob_from ob_token ob_value ob_faultKind ob_faultPlace ob_fresh ob_parts ob_houses ob_houseMany ob_worthOf ob_byCall ob_over ob_bestSet ob_bestOver ob_bestWorth ob_row ob_tenDebts ob_tenMany ob_fewestBy ob_covered ob_queue ob_cameBy ob_parent ob_met ob_calls ob_callMany ob_calledOn ob_saved ob_many ob_width ob_numbers ob_moving), (ce_i9080 y ob_world f_1375), (ce_i27240 y ob_images fob_images), (ce_z3 y ob_hasImage fob_hasImage), (ce_i6 y ob_parts f_1376), (ce_i9080 y ob_saved f_1068)] ∧ va_S A s.heap H locs ∧ lv_has ls 5 [(2, .int v_1374), (0, .ref ob)]) ?_ (n := (600 - (0 : Int32).toInt).toNat) ⟨0, f_1314, fob_parts, rfl, (bw (0) (600) (bkc (x := 0) (c := 0) (by decide)) (by decide)), df_1314, (by have h90 : Int32.toInt 0 = 0 := (by decide); omega), rfl, ⟨hP, hD⟩, hS, lv_sub hl [0, 1] rfl⟩
              rintro n ih_1394 H locs ls st ⟨v_1374, f_1375, f_1376, hn_1394, bv_1374, bf_1375, rl1376_0, rfl, ⟨hP, hD⟩, hS, hl⟩
              refine lv_iload_n hx hb dX10_beside_161 rfl (lv_at hl 0 rfl) ?_
              refine lv_aload_n hx hb dX10_beside_162 rfl (lv_at hl 1 rfl) ?_
              refine va_get (D := G) (ci := 10) (v := .ref ob_world) (C := RX10) (T := TX10) (N := 41) hx hb hw0 inA_wsX100 hown hK.1 hP 0 rfl rfl 1 (by decide) (hw0 _ m_352) (fun _ h9 => h9) rfl dX10_beside_163 ?_
              refine lv_bipush (v := 8) hx hb dX10_beside_166 (by decide) ?_
              refine va_iald hx hb hK.1 hP 1 1 rfl rfl (vi (bkc (x := 8) (c := 8) (by decide)) (by decide)) dX10_beside_168 ?_
              refine lv_topi (fun v_1395 ev_1395 => ?_)
              have bv_1395 : (0 : Int) ≤ v_1395.toInt ∧ v_1395.toInt ≤ 600 := rdk ev_1395 (bf_1375).1.1 (by decide)
              have yv_1395 : v_1395.toInt = (f_1375 8).toInt := congrArg Int32.toInt ev_1395
              refine lv_icmp_ge (tgt := 222) hx hb dX10_beside_169 (by decide) (fun c_1396 => ?_) (fun c_1396 => ?_)
              · skip
                have nc_1396 := nb_le (600) (0) c_1396 bv_1395 bv_1374 (by decide)
                refine lv_aload_n hx hb dX10_beside_222 rfl (lv_at hl 1 rfl) ?_
                refine va_get (D := G) (ci := 10) (v := .ref ob_world) (C := RX10) (T := TX10) (N := 41) hx hb hw0 inA_wsX100 hown hK.1 hP 0 rfl rfl 1 (by decide) (hw0 _ m_352) (fun _ h9 => h9) rfl dX10_beside_223 ?_
                refine lv_bipush (v := 7) hx hb dX10_beside_226 (by decide) ?_
                refine va_iald hx hb hK.1 hP 1 1 rfl rfl (vi (bkc (x := 7) (c := 7) (by decide)) (by decide)) dX10_beside_228 ?_
                refine lv_topi (fun v_1397 ev_1397 => ?_)
                have bv_1397 : (0 : Int) ≤ v_1397.toInt ∧ v_1397.toInt ≤ 600 := rdk ev_1397 (bf_1375).1.1 (by decide)
                have yv_1397 : v_1397.toInt = (f_1375 7).toInt := congrArg Int32.toInt ev_1397
                refine lv_istore_n (lv' := [(2, .int v_1397), (0, .ref ob)]) hx hb dX10_beside_229 rfl hl (by decide) rfl (fun ls hl => ?_)
                refine lv_iconst (v := 0) hx hb dX10_beside_230 (by decide) ?_
                refine lv_istore_n (lv' := [(3, .int 0), (2, .int v_1397), (0, .ref ob)]) hx hb dX10_beside_231 rfl hl (by decide) rfl (fun ls hl => ?_)
                refine loopX (fun n H locs ls st => ∃ (v_1457 : Int32) (f_1458 : Nat → Int32), (9080 - v_1457.toInt).toNat = n ∧ ((0 : Int) ≤ v_1457.toInt ∧ v_1457.toInt ≤ 9080) ∧ (cpR f_1458 f_1375 f_1068 0 0 0 v_1457.toInt) ∧ st = [] ∧ vPD G A H [(ce_X10 ob ob_thrown ob_world ob_images ob_hasImage ob_tape ob_taped ob_five ob_size ob_at ob_from ob_token ob_value ob_faultKind ob_faultPlace ob_fresh ob_parts ob_houses ob_houseMany ob_worthOf ob_byCall ob_over ob_bestSet ob_bestOver ob_bestWorth ob_row ob_tenDebts ob_tenMany ob_fewestBy ob_covered ob_queue ob_cameBy ob_parent ob_met ob_calls ob_callMany ob_calledOn ob_saved ob_many ob_width ob_numbers ob_moving), (ce_i9080 y ob_world f_1458), (ce_i27240 y ob_images fob_images), (ce_z3 y ob_hasImage fob_hasImage), (ce_i6 y ob_parts f_1376), (ce_i9080 y ob_saved f_1068)] ∧ va_S A s.heap H locs ∧ lv_has ls 5 [(3, .int v_1457), (2, .int v_1397), (0, .ref ob)]) ?_ (n := (9080 - (0 : Int32).toInt).toNat) ⟨0, f_1375, rfl, (bw (0) (9080) (bkc (x := 0) (c := 0) (by decide)) (by decide)), (cp_0 (by have h90 : Int32.toInt 0 = 0 := (by decide); omega)), rfl, ⟨hP, hD⟩, hS, lv_sub hl [0, 1, 2] rfl⟩
                rintro n ih_1462 H locs ls st ⟨v_1457, f_1458, hn_1462, bv_1457, rl1458_0, rfl, ⟨hP, hD⟩, hS, hl⟩
                refine lv_iload_n hx hb dX10_beside_232 rfl (lv_at hl 0 rfl) ?_
                refine lv_sipush (v := 9080) hx hb dX10_beside_233 (by decide) ?_
                refine lv_icmp_ge (tgt := 257) hx hb dX10_beside_236 (by decide) (fun c_1463 => ?_) (fun c_1463 => ?_)
                · skip
                  have nc_1463 := nb_le (9080) (9080) c_1463 (bkc (x := 9080) (c := 9080) (by decide)) bv_1457 (by decide)
                  have kf_1458 : RWw f_1458 := RW_same rl1458_0 (by omega) (RW_cong (cp_eq rl1068_0 (by omega)) p_fob_world)
                  refine lv_iload_n hx hb dX10_beside_257 rfl (lv_at hl 1 rfl) ?_
                  exact W.iret (v := v_1397) hx hb hr (fun t ht hW => ⟨⟨v_1397, _, rfl, ⟨v_1397, f_1458, f_1376, f_1068, (bw (-6) (600) bv_1397 (by decide)), kf_1458, (fun j hj => (cp_eq rl1458_0 (by omega) j hj).trans (cp_eq rl1068_0 (by omega) j hj)), rfl, rfl⟩, by rw [ht]; exact hP, hD⟩, hS.F ht⟩) hS.2.2 dX10_beside_258
                · skip
                  have nc_1463 := nb_nle (9079) (9080) c_1463 bv_1457 (bkc (x := 9080) (c := 9080) (by decide)) (by decide)
                  refine lv_aload_n hx hb dX10_beside_239 rfl (lv_at hl 2 rfl) ?_
                  refine va_get (D := G) (ci := 10) (v := .ref ob_world) (C := RX10) (T := TX10) (N := 41) hx hb hw0 inA_wsX100 hown hK.1 hP 0 rfl rfl 1 (by decide) (hw0 _ m_352) (fun _ h9 => h9) rfl dX10_beside_240 ?_
                  refine lv_iload_n hx hb dX10_beside_243 rfl (lv_at hl 0 rfl) ?_
                  refine lv_aload_n hx hb dX10_beside_244 rfl (lv_at hl 2 rfl) ?_
                  refine va_get (D := G) (ci := 10) (v := .ref ob_saved) (C := RX10) (T := TX10) (N := 41) hx hb hw0 inA_wsX100 hown hK.1 hP 0 rfl rfl 36 (by decide) (hw0 _ m_392) (fun _ h9 => h9) rfl dX10_beside_245 ?_
                  refine lv_iload_n hx hb dX10_beside_248 rfl (lv_at hl 0 rfl) ?_
                  refine va_iald hx hb hK.1 hP 5 1 rfl rfl (vi nc_1463.1 (by decide)) dX10_beside_249 ?_
                  refine lv_topi (fun v_1464 ev_1464 => ?_)
                  refine va_iast hx hb hK.1 hP hD hS 1 1 rfl rfl (vi nc_1463.1 (by decide)) dX10_beside_250 (fun H locs hP hD hS => ?_)
                  generalize hf_1465 : (upd f_1458 (v_1457 : Int32).toNatClampNeg v_1464) = f_1465 at hP hD
                  obtain ⟨hP, hD⟩ : vPD G A H [(ce_X10 ob ob_thrown ob_world ob_images ob_hasImage ob_tape ob_taped ob_five ob_size ob_at ob_from ob_token ob_value ob_faultKind ob_faultPlace ob_fresh ob_parts ob_houses ob_houseMany ob_worthOf ob_byCall ob_over ob_bestSet ob_bestOver ob_bestWorth ob_row ob_tenDebts ob_tenMany ob_fewestBy ob_covered ob_queue ob_cameBy ob_parent ob_met ob_calls ob_callMany ob_calledOn ob_saved ob_many ob_width ob_numbers ob_moving), (ce_i9080 y ob_world f_1465), (ce_i27240 y ob_images fob_images), (ce_z3 y ob_hasImage fob_hasImage), (ce_i6 y ob_parts f_1376), (ce_i9080 y ob_saved f_1068)] := ⟨hP, hD⟩
                  obtain ⟨v_1466, ev_1466⟩ : ∃ z : Int32, z = v_1457 + 1 := ⟨_, rfl⟩
                  have qv_1466 := ba_add ev_1466 nc_1463.1 (bkc (x := 1) (c := 1) (by decide)) (by decide)
                  have bv_1466 : (1 : Int) ≤ v_1466.toInt ∧ v_1466.toInt ≤ 9080 := bq_add qv_1466 nc_1463.1 (bkc (x := 1) (c := 1) (by decide)) _ _ (by decide)
                  have qv_1466 : v_1466.toInt = v_1457.toInt + (1) := qv_1466
                  refine lv_iinc (v := v_1466) (lv' := [(3, .int v_1466), (2, .int v_1397), (0, .ref ob)]) hx hb dX10_beside_251 hl (k := 0) rfl (ev_1466.symm) (by decide) rfl (fun ls hl => ?_)
                  refine lv_goto (tgt := 232) hx hb dX10_beside_254 (by decide) ?_
                  exact ih_1462 _ (ml_inc (hi := 9080) hn_1462 qv_1466 (by decide) ((bw (0) (9080) bv_1466 (by decide))).2) _ _ _ _ ⟨v_1466, f_1465, rfl, (bw (0) (9080) bv_1466 (by decide)), (cp_s rl1458_0 hf_1465 ev_1464 ((cl_to (by omega)).trans (by omega)) ((cl_to (by omega)).trans (by omega)) (by omega) (by omega)), rfl, ⟨hP, hD⟩, hS, lv_sub hl [0, 1, 2] rfl⟩
              · skip
                have nc_1396 := nb_nle (599) (1) c_1396 bv_1374 bv_1395 (by decide)
                refine lv_sipush (v := 6680) hx hb dX10_beside_172 (by decide) ?_
                refine lv_iconst (v := 4) hx hb dX10_beside_175 (by decide) ?_
                refine lv_iload_n hx hb dX10_beside_176 rfl (lv_at hl 0 rfl) ?_
                refine lv_imul hx hb dX10_beside_177 ?_
                refine lv_topi (fun v_1467 ev_1467 => ?_)
                have qv_1467 := ba_mul 4 (ev_1467.trans (Int32.mul_comm _ _)) nc_1396.1 (by decide) (by decide) (by decide)
                have bv_1467 : (0 : Int) ≤ v_1467.toInt ∧ v_1467.toInt ≤ 2396 := qv_1467.2
                refine lv_iadd hx hb dX10_beside_178 ?_
                refine lv_topi (fun v_1468 ev_1468 => ?_)
                have qv_1468 := ba_add ev_1468 (bkc (x := 6680) (c := 6680) (by decide)) bv_1467 (by decide)
                have bv_1468 : (6680 : Int) ≤ v_1468.toInt ∧ v_1468.toInt ≤ 9076 := bq_add qv_1468 (bkc (x := 6680) (c := 6680) (by decide)) bv_1467 _ _ (by decide)
                have qv_1468 : v_1468.toInt = (6680) + v_1467.toInt := qv_1468
                refine lv_istore_n (lv' := [(3, .int v_1468), (2, .int v_1374), (0, .ref ob)]) hx hb dX10_beside_179 rfl hl (by decide) rfl (fun ls hl => ?_)
                refine lv_aload_n hx hb dX10_beside_180 rfl (lv_at hl 2 rfl) ?_
                refine lv_aload_n hx hb dX10_beside_181 rfl (lv_at hl 2 rfl) ?_
                refine va_get (D := G) (ci := 10) (v := .ref ob_world) (C := RX10) (T := TX10) (N := 41) hx hb hw0 inA_wsX100 hown hK.1 hP 0 rfl rfl 1 (by decide) (hw0 _ m_352) (fun _ h9 => h9) rfl dX10_beside_182 ?_
                refine lv_iload_n hx hb dX10_beside_185 rfl (lv_at hl 0 rfl) ?_
                refine va_iald hx hb hK.1 hP 1 1 rfl rfl (vi bv_1468 (by decide)) dX10_beside_186 ?_
                refine lv_topi (fun v_1469 ev_1469 => ?_)
                have bv_1469 : (0 : Int) ≤ v_1469.toInt ∧ v_1469.toInt ≤ 15 := rdw ev_1469 (bf_1375).1.1 pl_74 (by omega) (nc_1396.1)
                refine lv_aload_n hx hb dX10_beside_187 rfl (lv_at hl 2 rfl) ?_
                refine va_get (D := G) (ci := 10) (v := .ref ob_world) (C := RX10) (T := TX10) (N := 41) hx hb hw0 inA_wsX100 hown hK.1 hP 0 rfl rfl 1 (by decide) (hw0 _ m_352) (fun _ h9 => h9) rfl dX10_beside_188 ?_
                refine lv_iload_n hx hb dX10_beside_191 rfl (lv_at hl 0 rfl) ?_
                refine lv_iconst (v := 1) hx hb dX10_beside_192 (by decide) ?_
                refine lv_iadd hx hb dX10_beside_193 ?_
                refine lv_topi (fun v_1470 ev_1470 => ?_)
                have qv_1470 := ba_add ev_1470 bv_1468 (bkc (x := 1) (c := 1) (by decide)) (by decide)
                have bv_1470 : (6681 : Int) ≤ v_1470.toInt ∧ v_1470.toInt ≤ 9077 := bq_add qv_1470 bv_1468 (bkc (x := 1) (c := 1) (by decide)) _ _ (by decide)
                have qv_1470 : v_1470.toInt = v_1468.toInt + (1) := qv_1470
                refine va_iald hx hb hK.1 hP 1 1 rfl rfl (vi bv_1470 (by decide)) dX10_beside_194 ?_
                refine lv_topi (fun v_1471 ev_1471 => ?_)
                have bv_1471 : (0 : Int) ≤ v_1471.toInt ∧ v_1471.toInt ≤ 15 := rdw ev_1471 (bf_1375).1.1 pl_75 (by omega) (nc_1396.1)
                refine lv_aload_n hx hb dX10_beside_195 rfl (lv_at hl 2 rfl) ?_
                refine va_get (D := G) (ci := 10) (v := .ref ob_world) (C := RX10) (T := TX10) (N := 41) hx hb hw0 inA_wsX100 hown hK.1 hP 0 rfl rfl 1 (by decide) (hw0 _ m_352) (fun _ h9 => h9) rfl dX10_beside_196 ?_
                refine lv_iload_n hx hb dX10_beside_199 rfl (lv_at hl 0 rfl) ?_
                refine lv_iconst (v := 2) hx hb dX10_beside_200 (by decide) ?_
                refine lv_iadd hx hb dX10_beside_201 ?_
                refine lv_topi (fun v_1472 ev_1472 => ?_)
                have qv_1472 := ba_add ev_1472 bv_1468 (bkc (x := 2) (c := 2) (by decide)) (by decide)
                have bv_1472 : (6682 : Int) ≤ v_1472.toInt ∧ v_1472.toInt ≤ 9078 := bq_add qv_1472 bv_1468 (bkc (x := 2) (c := 2) (by decide)) _ _ (by decide)
                have qv_1472 : v_1472.toInt = v_1468.toInt + (2) := qv_1472
                refine va_iald hx hb hK.1 hP 1 1 rfl rfl (vi bv_1472 (by decide)) dX10_beside_202 ?_
                refine lv_topi (fun v_1473 ev_1473 => ?_)
                refine lv_aload_n hx hb dX10_beside_203 rfl (lv_at hl 2 rfl) ?_
                refine va_get (D := G) (ci := 10) (v := .ref ob_world) (C := RX10) (T := TX10) (N := 41) hx hb hw0 inA_wsX100 hown hK.1 hP 0 rfl rfl 1 (by decide) (hw0 _ m_352) (fun _ h9 => h9) rfl dX10_beside_204 ?_
                refine lv_iload_n hx hb dX10_beside_207 rfl (lv_at hl 0 rfl) ?_
                refine lv_iconst (v := 3) hx hb dX10_beside_208 (by decide) ?_
                refine lv_iadd hx hb dX10_beside_209 ?_
                refine lv_topi (fun v_1474 ev_1474 => ?_)
                have qv_1474 := ba_add ev_1474 bv_1468 (bkc (x := 3) (c := 3) (by decide)) (by decide)
                have bv_1474 : (6683 : Int) ≤ v_1474.toInt ∧ v_1474.toInt ≤ 9079 := bq_add qv_1474 bv_1468 (bkc (x := 3) (c := 3) (by decide)) _ _ (by decide)
                have qv_1474 : v_1474.toInt = v_1468.toInt + (3) := qv_1474
                refine va_iald hx hb hK.1 hP 1 1 rfl rfl (vi bv_1474 (by decide)) dX10_beside_210 ?_
                refine lv_topi (fun v_1475 ev_1475 => ?_)
                refine cVim (As := [.int v_1469, .int v_1471, .int v_1473, .int v_1475]) (rest := []) ⟨hx, hb, hml, hown, hw0⟩ hA hK hP hD hS [true, true, false, false, true] (sX10_goes l G y _ ob v_1469 v_1471 v_1473 v_1475 ob_thrown ob_world ob_images ob_hasImage ob_tape ob_taped ob_five ob_size ob_at ob_from ob_token ob_value ob_faultKind ob_faultPlace ob_fresh ob_parts ob_houses ob_houseMany ob_worthOf ob_byCall ob_over ob_bestSet ob_bestOver ob_bestWorth ob_row ob_tenDebts ob_tenMany ob_fewestBy ob_covered ob_queue ob_cameBy ob_parent ob_met ob_calls ob_callMany ob_calledOn ob_saved ob_many ob_width ob_numbers ob_moving f_1375 f_1376 bf_1375 p_ob_taped p_ob_size p_ob_at p_ob_from p_ob_token p_ob_value p_ob_faultKind p_ob_houseMany p_ob_bestSet p_ob_bestOver p_ob_tenMany p_ob_callMany bv_1469 bv_1471 (by omega)) rfl ⟨(callB_of 4 hw0 (gA m_489) rfl rfl rfl (hw0 _ m_41) (hw0 _ m_393) cb_X10_goes ⟨Nat.le_of_ble_eq_true rfl, Nat.le_of_ble_eq_true rfl⟩), (hw0 _ m_394), (hw0 _ m_395)⟩ (ci := 10) (q := (RX10, TX10, 41)) rfl rfl rfl hl.1 (Nat.le_of_ble_eq_true rfl) dX10_beside_211 ⟨Nat.le_of_ble_eq_true rfl, Nat.le_of_ble_eq_true rfl⟩ (fun r_1476 w_1476 H locs hw_1476 hP hD hS => ?_)
                obtain ⟨v_1477, f_1478, f_1479, bv_1477, bf_1478, h_1480, h_1481, er_1476, rfl⟩ := hw_1476
                subst r_1476
                obtain ⟨hP, hD⟩ : vPD G A H [(ce_X10 ob ob_thrown ob_world ob_images ob_hasImage ob_tape ob_taped ob_five ob_size ob_at ob_from ob_token ob_value ob_faultKind ob_faultPlace ob_fresh ob_parts ob_houses ob_houseMany ob_worthOf ob_byCall ob_over ob_bestSet ob_bestOver ob_bestWorth ob_row ob_tenDebts ob_tenMany ob_fewestBy ob_covered ob_queue ob_cameBy ob_parent ob_met ob_calls ob_callMany ob_calledOn ob_saved ob_many ob_width ob_numbers ob_moving), (ce_i9080 y ob_world f_1478), (ce_i27240 y ob_images fob_images), (ce_z3 y ob_hasImage fob_hasImage), (ce_i6 y ob_parts f_1479), (ce_i9080 y ob_saved f_1068)] := ⟨hP, hD⟩
                refine lv_istore (lv' := [(4, .int v_1477), (3, .int v_1468), (2, .int v_1374), (0, .ref ob)]) hx hb dX10_beside_214 hl (by decide) rfl (fun ls hl => ?_)
                obtain ⟨v_1482, ev_1482⟩ : ∃ z : Int32, z = v_1374 + 1 := ⟨_, rfl⟩
                have qv_1482 := ba_add ev_1482 nc_1396.1 (bkc (x := 1) (c := 1) (by decide)) (by decide)
                have bv_1482 : (1 : Int) ≤ v_1482.toInt ∧ v_1482.toInt ≤ 600 := bq_add qv_1482 nc_1396.1 (bkc (x := 1) (c := 1) (by decide)) _ _ (by decide)
                have qv_1482 : v_1482.toInt = v_1374.toInt + (1) := qv_1482
                refine lv_iinc (v := v_1482) (lv' := [(2, .int v_1482), (4, .int v_1477), (3, .int v_1468), (0, .ref ob)]) hx hb dX10_beside_216 hl (k := 2) rfl (ev_1482.symm) (by decide) rfl (fun ls hl => ?_)
                refine lv_goto (tgt := 161) hx hb dX10_beside_219 (by decide) ?_
                exact ih_1394 _ (ml_inc (hi := 600) hn_1394 qv_1482 (by decide) ((bw (0) (600) bv_1482 (by decide))).2) _ _ _ _ ⟨v_1482, f_1478, f_1479, rfl, (bw (0) (600) bv_1482 (by decide)), bf_1478, (by omega), rfl, ⟨hP, hD⟩, hS, lv_sub hl [0, 3] rfl⟩
            · skip
              have nc_1313 := nb_nle (15) (16) c_1313 bv_1304 (bkc (x := 16) (c := 16) (by decide)) (by decide)
              refine lv_aload_n hx hb dX10_beside_128 rfl (lv_at hl 1 rfl) ?_
              refine va_get (D := G) (ci := 10) (v := .ref ob_world) (C := RX10) (T := TX10) (N := 41) hx hb hw0 inA_wsX100 hown hK.1 hP 0 rfl rfl 1 (by decide) (hw0 _ m_352) (fun _ h9 => h9) rfl dX10_beside_129 ?_
              refine lv_sipush (v := 1864) hx hb dX10_beside_132 (by decide) ?_
              refine lv_iload_n hx hb dX10_beside_135 rfl (lv_at hl 0 rfl) ?_
              refine lv_iadd hx hb dX10_beside_136 ?_
              refine lv_topi (fun v_1483 ev_1483 => ?_)
              have qv_1483 := ba_add ev_1483 (bkc (x := 1864) (c := 1864) (by decide)) nc_1313.1 (by decide)
              have bv_1483 : (1864 : Int) ≤ v_1483.toInt ∧ v_1483.toInt ≤ 1879 := bq_add qv_1483 (bkc (x := 1864) (c := 1864) (by decide)) nc_1313.1 _ _ (by decide)
              have qv_1483 : v_1483.toInt = (1864) + v_1304.toInt := qv_1483
              refine lv_aload_n hx hb dX10_beside_137 rfl (lv_at hl 1 rfl) ?_
              refine lv_iload_n hx hb dX10_beside_138 rfl (lv_at hl 0 rfl) ?_
              refine lv_bipush (v := 8) hx hb dX10_beside_139 (by decide) ?_
              refine cVim (As := [.int v_1304, .int 8]) (rest := [.int v_1483, .ref ob_world]) ⟨hx, hb, hml, hown, hw0⟩ hA hK hP hD hS [true, true] (sofHouse8 l G y _ ob v_1304 ob_thrown ob_world ob_images ob_hasImage ob_tape ob_taped ob_five ob_size ob_at ob_from ob_token ob_value ob_faultKind ob_faultPlace ob_fresh ob_parts ob_houses ob_houseMany ob_worthOf ob_byCall ob_over ob_bestSet ob_bestOver ob_bestWorth ob_row ob_tenDebts ob_tenMany ob_fewestBy ob_covered ob_queue ob_cameBy ob_parent ob_met ob_calls ob_callMany ob_calledOn ob_saved ob_many ob_width ob_numbers ob_moving f_1305 bf_1305 p_ob_taped p_ob_size p_ob_at p_ob_from p_ob_token p_ob_value p_ob_faultKind p_ob_houseMany p_ob_bestSet p_ob_bestOver p_ob_tenMany p_ob_callMany nc_1313.1) rfl ⟨(callB_of 2 hw0 (gA m_577) rfl rfl rfl (hw0 _ m_41) (hw0 _ m_388) cb_X10_ofHouse ⟨Nat.le_of_ble_eq_true rfl, Nat.le_of_ble_eq_true rfl⟩), (hw0 _ m_389), (hw0 _ m_390)⟩ (ci := 10) (q := (RX10, TX10, 41)) rfl rfl rfl hl.1 (Nat.le_of_ble_eq_true rfl) dX10_beside_141 ⟨Nat.le_of_ble_eq_true rfl, Nat.le_of_ble_eq_true rfl⟩ (fun r_1484 w_1484 H locs hw_1484 hP hD hS => ?_)
              obtain ⟨v_1485, bv_1485, h_1486, er_1484, rfl⟩ := hw_1484
              subst r_1484
              obtain ⟨hP, hD⟩ : vPD G A H [(ce_X10 ob ob_thrown ob_world ob_images ob_hasImage ob_tape ob_taped ob_five ob_size ob_at ob_from ob_token ob_value ob_faultKind ob_faultPlace ob_fresh ob_parts ob_houses ob_houseMany ob_worthOf ob_byCall ob_over ob_bestSet ob_bestOver ob_bestWorth ob_row ob_tenDebts ob_tenMany ob_fewestBy ob_covered ob_queue ob_cameBy ob_parent ob_met ob_calls ob_callMany ob_calledOn ob_saved ob_many ob_width ob_numbers ob_moving), (ce_i9080 y ob_world f_1305), (ce_i27240 y ob_images fob_images), (ce_z3 y ob_hasImage fob_hasImage), (ce_i6 y ob_parts fob_parts), (ce_i9080 y ob_saved f_1068)] := ⟨hP, hD⟩
              refine va_iast hx hb hK.1 hP hD hS 1 1 rfl rfl (vi bv_1483 (by decide)) dX10_beside_144 (fun H locs hP hD hS => ?_)
              generalize hf_1487 : (upd f_1305 (v_1483 : Int32).toNatClampNeg v_1485) = f_1487 at hP hD
              have zf_1487_7 : (f_1487 7).toInt = (f_1305 7).toInt := hf_1487 ▸ pin_ne (ix_not bv_1483 (by decide))
              have zf_1487_8 : (f_1487 8).toInt = (f_1305 8).toInt := hf_1487 ▸ pin_ne (ix_not bv_1483 (by decide))
              have bf_1487 : RBw f_1487 := hf_1487 ▸ upw (bf_1305).1.1 pl_13 (by omega) (nc_1313.1) bv_1485
              have cf_1487 : RVw f_1487 := hf_1487 ▸ RV_up (bf_1305).1 (hf_1487 ▸ bf_1487) (ix_out bv_1483 (by decide))
              have df_1487 : RWw f_1487 := ⟨cf_1487, hf_1487 ▸ WQ_up (bf_1305).1.1 (bf_1305).2 (qf_ix bv_1483 (by decide))⟩
              obtain ⟨hP, hD⟩ : vPD G A H [(ce_X10 ob ob_thrown ob_world ob_images ob_hasImage ob_tape ob_taped ob_five ob_size ob_at ob_from ob_token ob_value ob_faultKind ob_faultPlace ob_fresh ob_parts ob_houses ob_houseMany ob_worthOf ob_byCall ob_over ob_bestSet ob_bestOver ob_bestWorth ob_row ob_tenDebts ob_tenMany ob_fewestBy ob_covered ob_queue ob_cameBy ob_parent ob_met ob_calls ob_callMany ob_calledOn ob_saved ob_many ob_width ob_numbers ob_moving), (ce_i9080 y ob_world f_1487), (ce_i27240 y ob_images fob_images), (ce_z3 y ob_hasImage fob_hasImage), (ce_i6 y ob_parts fob_parts), (ce_i9080 y ob_saved f_1068)] := ⟨hP, hD⟩
              obtain ⟨v_1488, ev_1488⟩ : ∃ z : Int32, z = v_1304 + 1 := ⟨_, rfl⟩
              have qv_1488 := ba_add ev_1488 nc_1313.1 (bkc (x := 1) (c := 1) (by decide)) (by decide)
              have bv_1488 : (1 : Int) ≤ v_1488.toInt ∧ v_1488.toInt ≤ 16 := bq_add qv_1488 nc_1313.1 (bkc (x := 1) (c := 1) (by decide)) _ _ (by decide)
              have qv_1488 : v_1488.toInt = v_1304.toInt + (1) := qv_1488
              refine lv_iinc (v := v_1488) (lv' := [(2, .int v_1488), (0, .ref ob)]) hx hb dX10_beside_145 hl (k := 0) rfl (ev_1488.symm) (by decide) rfl (fun ls hl => ?_)
              refine lv_goto (tgt := 122) hx hb dX10_beside_148 (by decide) ?_
              exact ih_1312 _ (ml_inc (hi := 16) hn_1312 qv_1488 (by decide) ((bw (0) (16) bv_1488 (by decide))).2) _ _ _ _ ⟨v_1488, f_1487, rfl, (bw (0) (16) bv_1488 (by decide)), df_1487, rfl, ⟨hP, hD⟩, hS, lv_sub hl [0, 1] rfl⟩
          · skip
            have nc_1208 := nb_nlt (3) (3) c_1208 bv_1200 (bkc (x := 3) (c := 3) (by decide)) (by decide)
            refine lv_aload_n hx hb dX10_beside_96 rfl (lv_at hl 1 rfl) ?_
            refine va_get (D := G) (ci := 10) (v := .ref ob_world) (C := RX10) (T := TX10) (N := 41) hx hb hw0 inA_wsX100 hown hK.1 hP 0 rfl rfl 1 (by decide) (hw0 _ m_352) (fun _ h9 => h9) rfl dX10_beside_97 ?_
            refine lv_iload_n hx hb dX10_beside_100 rfl (lv_at hl 0 rfl) ?_
            refine lv_aload_n hx hb dX10_beside_101 rfl (lv_at hl 1 rfl) ?_
            refine va_get (D := G) (ci := 10) (v := .ref ob_images) (C := RX10) (T := TX10) (N := 41) hx hb hw0 inA_wsX100 hown hK.1 hP 0 rfl rfl 2 (by decide) (hw0 _ m_362) (fun _ h9 => h9) rfl dX10_beside_102 ?_
            refine lv_sipush (v := 9080) hx hb dX10_beside_105 (by decide) ?_
            refine lv_iload_n hx hb dX10_beside_108 rfl (lv_at hl 2 rfl) ?_
            refine lv_imul hx hb dX10_beside_109 ?_
            refine lv_topi (fun v_1489 ev_1489 => ?_)
            obtain rfl : 18160 = v_1489 := (ev_1489.trans (by decide)).symm
            refine lv_iload_n hx hb dX10_beside_110 rfl (lv_at hl 0 rfl) ?_
            refine lv_iadd hx hb dX10_beside_111 ?_
            refine lv_topi (fun v_1490 ev_1490 => ?_)
            have qv_1490 := ba_add ev_1490 (bkc (x := 18160) (c := 18160) (by decide)) nc_1208.1 (by decide)
            have bv_1490 : (18161 : Int) ≤ v_1490.toInt ∧ v_1490.toInt ≤ 18163 := bq_add qv_1490 (bkc (x := 18160) (c := 18160) (by decide)) nc_1208.1 _ _ (by decide)
            have qv_1490 : v_1490.toInt = (18160) + v_1200.toInt := qv_1490
            refine va_iald hx hb hK.1 hP 2 1 rfl rfl (vi bv_1490 (by decide)) dX10_beside_112 ?_
            refine lv_topi (fun v_1491 ev_1491 => ?_)
            refine va_iast hx hb hK.1 hP hD hS 1 1 rfl rfl (vi nc_1208.1 (by decide)) dX10_beside_113 (fun H locs hP hD hS => ?_)
            generalize hf_1492 : (upd f_1201 (v_1200 : Int32).toNatClampNeg v_1491) = f_1492 at hP hD
            have zf_1492_7 : (f_1492 7).toInt = (f_1201 7).toInt := hf_1492 ▸ pin_ne (ix_not nc_1208.1 (by decide))
            have zf_1492_8 : (f_1492 8).toInt = (f_1201 8).toInt := hf_1492 ▸ pin_ne (ix_not nc_1208.1 (by decide))
            obtain ⟨hP, hD⟩ : vPD G A H [(ce_X10 ob ob_thrown ob_world ob_images ob_hasImage ob_tape ob_taped ob_five ob_size ob_at ob_from ob_token ob_value ob_faultKind ob_faultPlace ob_fresh ob_parts ob_houses ob_houseMany ob_worthOf ob_byCall ob_over ob_bestSet ob_bestOver ob_bestWorth ob_row ob_tenDebts ob_tenMany ob_fewestBy ob_covered ob_queue ob_cameBy ob_parent ob_met ob_calls ob_callMany ob_calledOn ob_saved ob_many ob_width ob_numbers ob_moving), (ce_i9080 y ob_world f_1492), (ce_i27240 y ob_images fob_images), (ce_z3 y ob_hasImage fob_hasImage), (ce_i6 y ob_parts fob_parts), (ce_i9080 y ob_saved f_1068)] := ⟨hP, hD⟩
            obtain ⟨v_1493, ev_1493⟩ : ∃ z : Int32, z = v_1200 + 1 := ⟨_, rfl⟩
            have qv_1493 := ba_add ev_1493 nc_1208.1 (bkc (x := 1) (c := 1) (by decide)) (by decide)
            have bv_1493 : (2 : Int) ≤ v_1493.toInt ∧ v_1493.toInt ≤ 4 := bq_add qv_1493 nc_1208.1 (bkc (x := 1) (c := 1) (by decide)) _ _ (by decide)
            have qv_1493 : v_1493.toInt = v_1200.toInt + (1) := qv_1493
            refine lv_iinc (v := v_1493) (lv' := [(2, .int v_1493), (0, .ref ob), (1, .int 2)]) hx hb dX10_beside_114 hl (k := 0) rfl (ev_1493.symm) (by decide) rfl (fun ls hl => ?_)
            refine lv_goto (tgt := 91) hx hb dX10_beside_117 (by decide) ?_
            exact ih_1207 _ (ml_inc (hi := 4) hn_1207 qv_1493 (by decide) ((bw (1) (4) bv_1493 (by decide))).2) _ _ _ _ ⟨v_1493, f_1492, rfl, (bw (1) (4) bv_1493 (by decide)), (cp_s rl1201_0 hf_1492 ev_1491 ((cl_to (by omega)).trans (by omega)) ((cl_to (by omega)).trans (by omega)) (by omega) (by omega)), rfl, ⟨hP, hD⟩, hS, lv_sub hl [0, 1, 2] rfl⟩
        · skip
          have nc_1165 := nb_nle (1863) (1864) c_1165 bv_1157 (bkc (x := 1864) (c := 1864) (by decide)) (by decide)
          refine lv_aload_n hx hb dX10_beside_65 rfl (lv_at hl 1 rfl) ?_
          refine va_get (D := G) (ci := 10) (v := .ref ob_world) (C := RX10) (T := TX10) (N := 41) hx hb hw0 inA_wsX100 hown hK.1 hP 0 rfl rfl 1 (by decide) (hw0 _ m_352) (fun _ h9 => h9) rfl dX10_beside_66 ?_
          refine lv_iload_n hx hb dX10_beside_69 rfl (lv_at hl 0 rfl) ?_
          refine lv_aload_n hx hb dX10_beside_70 rfl (lv_at hl 1 rfl) ?_
          refine va_get (D := G) (ci := 10) (v := .ref ob_images) (C := RX10) (T := TX10) (N := 41) hx hb hw0 inA_wsX100 hown hK.1 hP 0 rfl rfl 2 (by decide) (hw0 _ m_362) (fun _ h9 => h9) rfl dX10_beside_71 ?_
          refine lv_sipush (v := 9080) hx hb dX10_beside_74 (by decide) ?_
          refine lv_iload_n hx hb dX10_beside_77 rfl (lv_at hl 2 rfl) ?_
          refine lv_imul hx hb dX10_beside_78 ?_
          refine lv_topi (fun v_1494 ev_1494 => ?_)
          obtain rfl : 18160 = v_1494 := (ev_1494.trans (by decide)).symm
          refine lv_iload_n hx hb dX10_beside_79 rfl (lv_at hl 0 rfl) ?_
          refine lv_iadd hx hb dX10_beside_80 ?_
          refine lv_topi (fun v_1495 ev_1495 => ?_)
          have qv_1495 := ba_add ev_1495 (bkc (x := 18160) (c := 18160) (by decide)) nc_1165.1 (by decide)
          have bv_1495 : (18314 : Int) ≤ v_1495.toInt ∧ v_1495.toInt ≤ 20023 := bq_add qv_1495 (bkc (x := 18160) (c := 18160) (by decide)) nc_1165.1 _ _ (by decide)
          have qv_1495 : v_1495.toInt = (18160) + v_1157.toInt := qv_1495
          refine va_iald hx hb hK.1 hP 2 1 rfl rfl (vi bv_1495 (by decide)) dX10_beside_81 ?_
          refine lv_topi (fun v_1496 ev_1496 => ?_)
          refine va_iast hx hb hK.1 hP hD hS 1 1 rfl rfl (vi nc_1165.1 (by decide)) dX10_beside_82 (fun H locs hP hD hS => ?_)
          generalize hf_1497 : (upd f_1158 (v_1157 : Int32).toNatClampNeg v_1496) = f_1497 at hP hD
          have zf_1497_7 : (f_1497 7).toInt = (f_1158 7).toInt := hf_1497 ▸ pin_ne (ix_not nc_1165.1 (by decide))
          have zf_1497_8 : (f_1497 8).toInt = (f_1158 8).toInt := hf_1497 ▸ pin_ne (ix_not nc_1165.1 (by decide))
          obtain ⟨hP, hD⟩ : vPD G A H [(ce_X10 ob ob_thrown ob_world ob_images ob_hasImage ob_tape ob_taped ob_five ob_size ob_at ob_from ob_token ob_value ob_faultKind ob_faultPlace ob_fresh ob_parts ob_houses ob_houseMany ob_worthOf ob_byCall ob_over ob_bestSet ob_bestOver ob_bestWorth ob_row ob_tenDebts ob_tenMany ob_fewestBy ob_covered ob_queue ob_cameBy ob_parent ob_met ob_calls ob_callMany ob_calledOn ob_saved ob_many ob_width ob_numbers ob_moving), (ce_i9080 y ob_world f_1497), (ce_i27240 y ob_images fob_images), (ce_z3 y ob_hasImage fob_hasImage), (ce_i6 y ob_parts fob_parts), (ce_i9080 y ob_saved f_1068)] := ⟨hP, hD⟩
          obtain ⟨v_1498, ev_1498⟩ : ∃ z : Int32, z = v_1157 + 1 := ⟨_, rfl⟩
          have qv_1498 := ba_add ev_1498 nc_1165.1 (bkc (x := 1) (c := 1) (by decide)) (by decide)
          have bv_1498 : (155 : Int) ≤ v_1498.toInt ∧ v_1498.toInt ≤ 1864 := bq_add qv_1498 nc_1165.1 (bkc (x := 1) (c := 1) (by decide)) _ _ (by decide)
          have qv_1498 : v_1498.toInt = v_1157.toInt + (1) := qv_1498
          refine lv_iinc (v := v_1498) (lv' := [(2, .int v_1498), (0, .ref ob), (1, .int 2)]) hx hb dX10_beside_83 hl (k := 0) rfl (ev_1498.symm) (by decide) rfl (fun ls hl => ?_)
          refine lv_goto (tgt := 58) hx hb dX10_beside_86 (by decide) ?_
          exact ih_1164 _ (ml_inc (hi := 1864) hn_1164 qv_1498 (by decide) ((bw (154) (1864) bv_1498 (by decide))).2) _ _ _ _ ⟨v_1498, f_1497, rfl, (bw (154) (1864) bv_1498 (by decide)), (cp_s rl1158_0 hf_1497 ev_1496 ((cl_to (by omega)).trans (by omega)) ((cl_to (by omega)).trans (by omega)) (by omega) (by omega)), rfl, ⟨hP, hD⟩, hS, lv_sub hl [0, 1, 2] rfl⟩
      · skip
        have nc_1073 := nb_nle (9079) (9080) c_1073 bv_1067 (bkc (x := 9080) (c := 9080) (by decide)) (by decide)
        refine lv_aload_n hx hb dX10_beside_36 rfl (lv_at hl 1 rfl) ?_
        refine va_get (D := G) (ci := 10) (v := .ref ob_saved) (C := RX10) (T := TX10) (N := 41) hx hb hw0 inA_wsX100 hown hK.1 hP 0 rfl rfl 36 (by decide) (hw0 _ m_392) (fun _ h9 => h9) rfl dX10_beside_37 ?_
        refine lv_iload_n hx hb dX10_beside_40 rfl (lv_at hl 0 rfl) ?_
        refine lv_aload_n hx hb dX10_beside_41 rfl (lv_at hl 1 rfl) ?_
        refine va_get (D := G) (ci := 10) (v := .ref ob_world) (C := RX10) (T := TX10) (N := 41) hx hb hw0 inA_wsX100 hown hK.1 hP 0 rfl rfl 1 (by decide) (hw0 _ m_352) (fun _ h9 => h9) rfl dX10_beside_42 ?_
        refine lv_iload_n hx hb dX10_beside_45 rfl (lv_at hl 0 rfl) ?_
        refine va_iald hx hb hK.1 hP 1 1 rfl rfl (vi nc_1073.1 (by decide)) dX10_beside_46 ?_
        refine lv_topi (fun v_1499 ev_1499 => ?_)
        refine va_iast hx hb hK.1 hP hD hS 5 1 rfl rfl (vi nc_1073.1 (by decide)) dX10_beside_47 (fun H locs hP hD hS => ?_)
        generalize hf_1500 : (upd f_1068 (v_1067 : Int32).toNatClampNeg v_1499) = f_1500 at hP hD
        obtain ⟨hP, hD⟩ : vPD G A H [(ce_X10 ob ob_thrown ob_world ob_images ob_hasImage ob_tape ob_taped ob_five ob_size ob_at ob_from ob_token ob_value ob_faultKind ob_faultPlace ob_fresh ob_parts ob_houses ob_houseMany ob_worthOf ob_byCall ob_over ob_bestSet ob_bestOver ob_bestWorth ob_row ob_tenDebts ob_tenMany ob_fewestBy ob_covered ob_queue ob_cameBy ob_parent ob_met ob_calls ob_callMany ob_calledOn ob_saved ob_many ob_width ob_numbers ob_moving), (ce_i9080 y ob_world fob_world), (ce_i27240 y ob_images fob_images), (ce_z3 y ob_hasImage fob_hasImage), (ce_i6 y ob_parts fob_parts), (ce_i9080 y ob_saved f_1500)] := ⟨hP, hD⟩
        obtain ⟨v_1501, ev_1501⟩ : ∃ z : Int32, z = v_1067 + 1 := ⟨_, rfl⟩
        have qv_1501 := ba_add ev_1501 nc_1073.1 (bkc (x := 1) (c := 1) (by decide)) (by decide)
        have bv_1501 : (1 : Int) ≤ v_1501.toInt ∧ v_1501.toInt ≤ 9080 := bq_add qv_1501 nc_1073.1 (bkc (x := 1) (c := 1) (by decide)) _ _ (by decide)
        have qv_1501 : v_1501.toInt = v_1067.toInt + (1) := qv_1501
        refine lv_iinc (v := v_1501) (lv' := [(2, .int v_1501), (0, .ref ob), (1, .int 2)]) hx hb dX10_beside_48 hl (k := 0) rfl (ev_1501.symm) (by decide) rfl (fun ls hl => ?_)
        refine lv_goto (tgt := 29) hx hb dX10_beside_51 (by decide) ?_
        exact ih_1072 _ (ml_inc (hi := 9080) hn_1072 qv_1501 (by decide) ((bw (0) (9080) bv_1501 (by decide))).2) _ _ _ _ ⟨v_1501, f_1500, rfl, (bw (0) (9080) bv_1501 (by decide)), (cp_s rl1068_0 hf_1500 ev_1499 ((cl_to (by omega)).trans (by omega)) ((cl_to (by omega)).trans (by omega)) (by omega) (by omega)), rfl, ⟨hP, hD⟩, hS, lv_sub hl [0, 1, 2] rfl⟩
    · skip
      have nc_1007 := nb_eq (0) (0) c_1007 bv_1006 (bkc (x := 0) (c := 0) (by decide)) (by decide)
      refine lv_bipush (v := (-6)) hx hb dX10_beside_24 (by decide) ?_
      exact W.iret (v := (-6)) hx hb hr (fun t ht hW => ⟨⟨(-6), _, rfl, ⟨(-6), fob_world, fob_parts, fob_saved, (bw (-6) (600) (bkc (x := (-6)) (c := -6) (by decide)) (by decide)), p_fob_world, (fun _ _ => rfl), rfl, rfl⟩, by rw [ht]; exact hP, hD⟩, hS.F ht⟩) hS.2.2 dX10_beside_26
