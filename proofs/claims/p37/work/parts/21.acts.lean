set_option maxHeartbeats 4000000 in
set_option maxRecDepth 100000 in
theorem sX10_owesAlready (l : Launch) (G : va_G) (y : Nat → ClassId) (sz : Nat) (ob : Nat) (a1 : Int32) (a2 : Int32) (a3 : Int32) (ob_thrown : Int32) (ob_world : Nat) (ob_images : Nat) (ob_hasImage : Nat) (ob_tape : Nat) (ob_taped : Int32) (ob_five : Nat) (ob_size : Int32) (ob_at : Int32) (ob_from : Int32) (ob_token : Int32) (ob_value : Int32) (ob_faultKind : Int32) (ob_faultPlace : Int32) (ob_fresh : Nat) (ob_parts : Nat) (ob_houses : Nat) (ob_houseMany : Int32) (ob_worthOf : Nat) (ob_byCall : Nat) (ob_over : Nat) (ob_bestSet : Int32) (ob_bestOver : Int32) (ob_bestWorth : Int32) (ob_row : Nat) (ob_tenDebts : Nat) (ob_tenMany : Int32) (ob_fewestBy : Nat) (ob_covered : Nat) (ob_queue : Nat) (ob_cameBy : Nat) (ob_parent : Nat) (ob_met : Nat) (ob_calls : Nat) (ob_callMany : Int32) (ob_calledOn : Nat) (ob_saved : Nat) (ob_many : Nat) (ob_width : Nat) (ob_numbers : Nat) (ob_moving : Nat) (fob_world : Nat → Int32) (p_fob_world : RWw fob_world) (p_ob_taped : (0 : Int) ≤ ob_taped.toInt ∧ ob_taped.toInt ≤ 1400) (p_ob_size : (0 : Int) ≤ ob_size.toInt ∧ ob_size.toInt ≤ 1400) (p_ob_at : (0 : Int) ≤ ob_at.toInt ∧ ob_at.toInt ≤ 1400) (p_ob_from : (0 : Int) ≤ ob_from.toInt ∧ ob_from.toInt ≤ 1400) (p_ob_token : (0 : Int) ≤ ob_token.toInt ∧ ob_token.toInt ≤ 4) (p_ob_value : (0 : Int) ≤ ob_value.toInt ∧ ob_value.toInt ≤ 9999) (p_ob_faultKind : (0 : Int) ≤ ob_faultKind.toInt ∧ ob_faultKind.toInt ≤ 3) (p_ob_houseMany : (0 : Int) ≤ ob_houseMany.toInt ∧ ob_houseMany.toInt ≤ 10) (p_ob_bestSet : (0 : Int) ≤ ob_bestSet.toInt ∧ ob_bestSet.toInt ≤ 1023) (p_ob_bestOver : (-1 : Int) ≤ ob_bestOver.toInt ∧ ob_bestOver.toInt ≤ 180) (p_ob_tenMany : (0 : Int) ≤ ob_tenMany.toInt ∧ ob_tenMany.toInt ≤ 10) (p_ob_callMany : (0 : Int) ≤ ob_callMany.toInt ∧ ob_callMany.toInt ≤ 16) : Met l yX10_owesAlready (Cond.code yX10_owesAlready cX10_owesAlready 5 (some .boolean) :: wAll) ({ frames := 1, cells := 0, slots := 0, locals := 22 }) (va_Pc [.ref ob, .int a1, .int a2, .int a3] (kp G y sz [(ce_X10 ob ob_thrown ob_world ob_images ob_hasImage ob_tape ob_taped ob_five ob_size ob_at ob_from ob_token ob_value ob_faultKind ob_faultPlace ob_fresh ob_parts ob_houses ob_houseMany ob_worthOf ob_byCall ob_over ob_bestSet ob_bestOver ob_bestWorth ob_row ob_tenDebts ob_tenMany ob_fewestBy ob_covered ob_queue ob_cameBy ob_parent ob_met ob_calls ob_callMany ob_calledOn ob_saved ob_many ob_width ob_numbers ob_moving), (ce_i9080 y ob_world fob_world)])) (va_Qi (fun (r : Int32) (w : va_W) => (r = 0 ∧ w = [(ce_X10 ob ob_thrown ob_world ob_images ob_hasImage ob_tape ob_taped ob_five ob_size ob_at ob_from ob_token ob_value ob_faultKind ob_faultPlace ob_fresh ob_parts ob_houses ob_houseMany ob_worthOf ob_byCall ob_over ob_bestSet ob_bestOver ob_bestWorth ob_row ob_tenDebts ob_tenMany ob_fewestBy ob_covered ob_queue ob_cameBy ob_parent ob_met ob_calls ob_callMany ob_calledOn ob_saved ob_many ob_width ob_numbers ob_moving), (ce_i9080 y ob_world fob_world)]) ∨ (((0 : Int) ≤ a1.toInt ∧ a1.toInt ≤ 15) ∧ ((0 : Int) ≤ a2.toInt ∧ a2.toInt ≤ 15) ∧ r = 1 ∧ w = [(ce_X10 ob ob_thrown ob_world ob_images ob_hasImage ob_tape ob_taped ob_five ob_size ob_at ob_from ob_token ob_value ob_faultKind ob_faultPlace ob_fresh ob_parts ob_houses ob_houseMany ob_worthOf ob_byCall ob_over ob_bestSet ob_bestOver ob_bestWorth ob_row ob_tenDebts ob_tenMany ob_fewestBy ob_covered ob_queue ob_cameBy ob_parent ob_met ob_calls ob_callMany ob_calledOn ob_saved ob_many ob_width ob_numbers ob_moving), (ce_i9080 y ob_world fob_world)])) (kq G (va_A [(ce_X10 ob ob_thrown ob_world ob_images ob_hasImage ob_tape ob_taped ob_five ob_size ob_at ob_from ob_token ob_value ob_faultKind ob_faultPlace ob_fresh ob_parts ob_houses ob_houseMany ob_worthOf ob_byCall ob_over ob_bestSet ob_bestOver ob_bestWorth ob_row ob_tenDebts ob_tenMany ob_fewestBy ob_covered ob_queue ob_cameBy ob_parent ob_met ob_calls ob_callMany ob_calledOn ob_saved ob_many ob_width ob_numbers ob_moving), (ce_i9080 y ob_world fob_world)] sz)) (va_A [(ce_X10 ob ob_thrown ob_world ob_images ob_hasImage ob_tape ob_taped ob_five ob_size ob_at ob_from ob_token ob_value ob_faultKind ob_faultPlace ob_fresh ob_parts ob_houses ob_houseMany ob_worthOf ob_byCall ob_over ob_bestSet ob_bestOver ob_bestWorth ob_row ob_tenDebts ob_tenMany ob_fewestBy ob_covered ob_queue ob_cameBy ob_parent ob_met ob_calls ob_callMany ob_calledOn ob_saved ob_many ob_width ob_numbers ob_moving), (ce_i9080 y ob_world fob_world)] sz)) 0 0 (va_A [(ce_X10 ob ob_thrown ob_world ob_images ob_hasImage ob_tape ob_taped ob_five ob_size ob_at ob_from ob_token ob_value ob_faultKind ob_faultPlace ob_fresh ob_parts ob_houses ob_houseMany ob_worthOf ob_byCall ob_over ob_bestSet ob_bestOver ob_bestWorth ob_row ob_tenDebts ob_tenMany ob_fewestBy ob_covered ob_queue ob_cameBy ob_parent ob_met ob_calls ob_callMany ob_calledOn ob_saved ob_many ob_width ob_numbers ob_moving), (ce_i9080 y ob_world fob_world)] sz) := by
  refine Met.ofW (cc := cX10_owesAlready) (maxL := 5) (ret := (some .boolean)) (by decide) rfl ?_
  intro p e s m args below meth c s₁ B hml hv
  obtain ⟨rfl, hsz, hP, hK, hD0⟩ := hv
  have hx := B.exec
  have hb := B.bytes
  have hr := B.returns
  have hw0 : ∀ w ∈ wAll, w.before _ s = true := fun w h => atoms_spec (ws := Cond.code yX10_owesAlready cX10_owesAlready 5 (some .boolean) :: wAll) B.pre w (List.mem_cons_of_mem _ h)
  have hown : s.vm.findClass RX10 = some m.cls := findClass_of_methodNamed B.named
  subst hsz
  have hD := hD0.self (sz := s.heap.size)
  generalize hAe : va_A [(ce_X10 ob ob_thrown ob_world ob_images ob_hasImage ob_tape ob_taped ob_five ob_size ob_at ob_from ob_token ob_value ob_faultKind ob_faultPlace ob_fresh ob_parts ob_houses ob_houseMany ob_worthOf ob_byCall ob_over ob_bestSet ob_bestOver ob_bestWorth ob_row ob_tenDebts ob_tenMany ob_fewestBy ob_covered ob_queue ob_cameBy ob_parent ob_met ob_calls ob_callMany ob_calledOn ob_saved ob_many ob_width ob_numbers ob_moving), (ce_i9080 y ob_world fob_world)] s.heap.size = A at hD ⊢
  have hA : ∀ q : Nat, s.heap.size ≤ q → A q := fun q h => by rw [← hAe]; exact Or.inr h
  have hS : va_S A s.heap s.heap [] := va_S.rf
  have hP : va_P G vwCl [(ce_X10 ob ob_thrown ob_world ob_images ob_hasImage ob_tape ob_taped ob_five ob_size ob_at ob_from ob_token ob_value ob_faultKind ob_faultPlace ob_fresh ob_parts ob_houses ob_houseMany ob_worthOf ob_byCall ob_over ob_bestSet ob_bestOver ob_bestWorth ob_row ob_tenDebts ob_tenMany ob_fewestBy ob_covered ob_queue ob_cameBy ob_parent ob_met ob_calls ob_callMany ob_calledOn ob_saved ob_many ob_width ob_numbers ob_moving), (ce_i9080 y ob_world fob_world)] s.heap := hP
  have hl := lv_entry ([.ref ob, .int a1, .int a2, .int a3]) (n := 5) (Nat.le_of_ble_eq_true rfl)
  rw [lg_entry_eq]
  generalize (lg_sl ([.ref ob, .int a1, .int a2, .int a3]) ++ List.replicate (5 - (lg_sl ([.ref ob, .int a1, .int a2, .int a3])).length) Slot.unset).toArray = ls at hl ⊢
  have hl : lv_has ls 5 [(0, .ref ob), (1, .int a1), (2, .int a2), (3, .int a3)] := hl
  refine lv_iconst (v := 0) hx hb dX10_owesAlready_0 (by decide) ?_
  refine lv_istore (lv' := [(4, .int 0), (0, .ref ob), (1, .int a1), (2, .int a2), (3, .int a3)]) hx hb dX10_owesAlready_1 hl (by decide) rfl (fun ls hl => ?_)
  refine loopX (fun n H locs ls st => ∃ (v_1239 : Int32), (600 - v_1239.toInt).toNat = n ∧ ((0 : Int) ≤ v_1239.toInt ∧ v_1239.toInt ≤ 600) ∧ st = [] ∧ vPD G A H [(ce_X10 ob ob_thrown ob_world ob_images ob_hasImage ob_tape ob_taped ob_five ob_size ob_at ob_from ob_token ob_value ob_faultKind ob_faultPlace ob_fresh ob_parts ob_houses ob_houseMany ob_worthOf ob_byCall ob_over ob_bestSet ob_bestOver ob_bestWorth ob_row ob_tenDebts ob_tenMany ob_fewestBy ob_covered ob_queue ob_cameBy ob_parent ob_met ob_calls ob_callMany ob_calledOn ob_saved ob_many ob_width ob_numbers ob_moving), (ce_i9080 y ob_world fob_world)] ∧ va_S A s.heap H locs ∧ lv_has ls 5 [(4, .int v_1239), (0, .ref ob), (1, .int a1), (2, .int a2), (3, .int a3)]) ?_ (n := (600 - (0 : Int32).toInt).toNat) ⟨0, rfl, (bw (0) (600) (bkc (x := 0) (c := 0) (by decide)) (by decide)), rfl, ⟨hP, hD⟩, hS, lv_sub hl [0, 1, 2, 3, 4] rfl⟩
  rintro n ih_1258 H locs ls st ⟨v_1239, hn_1258, bv_1239, rfl, ⟨hP, hD⟩, hS, hl⟩
  refine lv_iload hx hb dX10_owesAlready_3 (lv_at hl 0 rfl) ?_
  refine lv_aload_n hx hb dX10_owesAlready_5 rfl (lv_at hl 1 rfl) ?_
  refine va_get (D := G) (ci := 10) (v := .ref ob_world) (C := RX10) (T := TX10) (N := 41) hx hb hw0 inA_wsX100 hown hK.1 hP 0 rfl rfl 1 (by decide) (hw0 _ m_352) (fun _ h9 => h9) rfl dX10_owesAlready_6 ?_
  refine lv_bipush (v := 7) hx hb dX10_owesAlready_9 (by decide) ?_
  refine va_iald hx hb hK.1 hP 1 1 rfl rfl (vi (bkc (x := 7) (c := 7) (by decide)) (by decide)) dX10_owesAlready_11 ?_
  refine lv_topi (fun v_1259 ev_1259 => ?_)
  have bv_1259 : (0 : Int) ≤ v_1259.toInt ∧ v_1259.toInt ≤ 600 := rdk ev_1259 (p_fob_world).1.1 (by decide)
  refine lv_icmp_ge (tgt := 56) hx hb dX10_owesAlready_12 (by decide) (fun c_1260 => ?_) (fun c_1260 => ?_)
  · skip
    have nc_1260 := nb_le (600) (0) c_1260 bv_1259 bv_1239 (by decide)
    refine lv_iconst (v := 0) hx hb dX10_owesAlready_56 (by decide) ?_
    exact W.zret (v := 0) hx hb hr rfl (fun t ht hW => ⟨⟨0, _, rfl, Or.inl (⟨rfl, rfl⟩), by rw [ht]; exact hP, hD⟩, hS.F ht⟩) hS.2.2 dX10_owesAlready_57
  · skip
    have nc_1260 := nb_nle (599) (1) c_1260 bv_1239 bv_1259 (by decide)
    refine lv_aload_n hx hb dX10_owesAlready_15 rfl (lv_at hl 1 rfl) ?_
    refine lv_iload hx hb dX10_owesAlready_16 (lv_at hl 0 rfl) ?_
    refine lv_iconst (v := 0) hx hb dX10_owesAlready_18 (by decide) ?_
    refine cVim (As := [.int v_1239, .int 0]) (rest := []) ⟨hx, hb, hml, hown, hw0⟩ hA hK hP hD hS [true, true] (sofDebt0 l G y _ ob v_1239 ob_thrown ob_world ob_images ob_hasImage ob_tape ob_taped ob_five ob_size ob_at ob_from ob_token ob_value ob_faultKind ob_faultPlace ob_fresh ob_parts ob_houses ob_houseMany ob_worthOf ob_byCall ob_over ob_bestSet ob_bestOver ob_bestWorth ob_row ob_tenDebts ob_tenMany ob_fewestBy ob_covered ob_queue ob_cameBy ob_parent ob_met ob_calls ob_callMany ob_calledOn ob_saved ob_many ob_width ob_numbers ob_moving fob_world p_fob_world p_ob_taped p_ob_size p_ob_at p_ob_from p_ob_token p_ob_value p_ob_faultKind p_ob_houseMany p_ob_bestSet p_ob_bestOver p_ob_tenMany p_ob_callMany (bw (0) (959) nc_1260.1 (by decide))) rfl ⟨(callB_of 2 hw0 (gA m_576) rfl rfl rfl (hw0 _ m_41) (hw0 _ m_402) cb_X10_ofDebt ⟨Nat.le_of_ble_eq_true rfl, Nat.le_of_ble_eq_true rfl⟩), (hw0 _ m_403), (hw0 _ m_404)⟩ (ci := 10) (q := (RX10, TX10, 41)) rfl rfl rfl hl.1 (Nat.le_of_ble_eq_true rfl) dX10_owesAlready_19 ⟨Nat.le_of_ble_eq_true rfl, Nat.le_of_ble_eq_true rfl⟩ (fun r_1261 w_1261 H locs hw_1261 hP hD hS => ?_)
    obtain ⟨v_1262, bv_1262, er_1261, rfl⟩ := hw_1261
    subst r_1261
    obtain ⟨hP, hD⟩ : vPD G A H [(ce_X10 ob ob_thrown ob_world ob_images ob_hasImage ob_tape ob_taped ob_five ob_size ob_at ob_from ob_token ob_value ob_faultKind ob_faultPlace ob_fresh ob_parts ob_houses ob_houseMany ob_worthOf ob_byCall ob_over ob_bestSet ob_bestOver ob_bestWorth ob_row ob_tenDebts ob_tenMany ob_fewestBy ob_covered ob_queue ob_cameBy ob_parent ob_met ob_calls ob_callMany ob_calledOn ob_saved ob_many ob_width ob_numbers ob_moving), (ce_i9080 y ob_world fob_world)] := ⟨hP, hD⟩
    refine lv_iload_n hx hb dX10_owesAlready_22 rfl (lv_at hl 2 rfl) ?_
    refine cutW 50 (fun H locs ls st => st = [] ∧ vPD G A H [(ce_X10 ob ob_thrown ob_world ob_images ob_hasImage ob_tape ob_taped ob_five ob_size ob_at ob_from ob_token ob_value ob_faultKind ob_faultPlace ob_fresh ob_parts ob_houses ob_houseMany ob_worthOf ob_byCall ob_over ob_bestSet ob_bestOver ob_bestWorth ob_row ob_tenDebts ob_tenMany ob_fewestBy ob_covered ob_queue ob_cameBy ob_parent ob_met ob_calls ob_callMany ob_calledOn ob_saved ob_many ob_width ob_numbers ob_moving), (ce_i9080 y ob_world fob_world)] ∧ va_S A s.heap H locs ∧ lv_has ls 5 [(4, .int v_1239), (0, .ref ob), (1, .int a1), (2, .int a2), (3, .int a3)]) ?_ (fun J_50_1269 => ?_)
    · rintro H locs ls st ⟨rfl, ⟨hP, hD⟩, hS, hl⟩
      obtain ⟨v_1270, ev_1270⟩ : ∃ z : Int32, z = v_1239 + 1 := ⟨_, rfl⟩
      have qv_1270 := ba_add ev_1270 nc_1260.1 (bkc (x := 1) (c := 1) (by decide)) (by decide)
      have bv_1270 : (1 : Int) ≤ v_1270.toInt ∧ v_1270.toInt ≤ 600 := bq_add qv_1270 nc_1260.1 (bkc (x := 1) (c := 1) (by decide)) _ _ (by decide)
      have qv_1270 : v_1270.toInt = v_1239.toInt + (1) := qv_1270
      refine lv_iinc (v := v_1270) (lv' := [(4, .int v_1270), (0, .ref ob), (1, .int a1), (2, .int a2), (3, .int a3)]) hx hb dX10_owesAlready_50 hl (k := 0) rfl (ev_1270.symm) (by decide) rfl (fun ls hl => ?_)
      refine lv_goto (tgt := 3) hx hb dX10_owesAlready_53 (by decide) ?_
      exact ih_1258 _ (ml_inc (hi := 600) hn_1258 qv_1270 (by decide) ((bw (0) (600) bv_1270 (by decide))).2) _ _ _ _ ⟨v_1270, rfl, (bw (0) (600) bv_1270 (by decide)), rfl, ⟨hP, hD⟩, hS, lv_sub hl [0, 1, 2, 3, 4] rfl⟩
    · skip
      refine lv_icmp_ne (tgt := 50) hx hb dX10_owesAlready_23 (by decide) (fun c_1271 => ?_) (fun c_1271 => ?_)
      · skip
        exact J_50_1269 _ _ _ _ ⟨rfl, ⟨hP, hD⟩, hS, lv_sub hl [0, 1, 2, 3, 4] rfl⟩
      · skip
        have nc_1271 := nb_eq (0) (15) c_1271 bv_1262 (btop a1) (by decide)
        refine lv_aload_n hx hb dX10_owesAlready_26 rfl (lv_at hl 1 rfl) ?_
        refine lv_iload hx hb dX10_owesAlready_27 (lv_at hl 0 rfl) ?_
        refine lv_iconst (v := 1) hx hb dX10_owesAlready_29 (by decide) ?_
        refine cVim (As := [.int v_1239, .int 1]) (rest := []) ⟨hx, hb, hml, hown, hw0⟩ hA hK hP hD hS [true, true] (sofDebt1 l G y _ ob v_1239 ob_thrown ob_world ob_images ob_hasImage ob_tape ob_taped ob_five ob_size ob_at ob_from ob_token ob_value ob_faultKind ob_faultPlace ob_fresh ob_parts ob_houses ob_houseMany ob_worthOf ob_byCall ob_over ob_bestSet ob_bestOver ob_bestWorth ob_row ob_tenDebts ob_tenMany ob_fewestBy ob_covered ob_queue ob_cameBy ob_parent ob_met ob_calls ob_callMany ob_calledOn ob_saved ob_many ob_width ob_numbers ob_moving fob_world p_fob_world p_ob_taped p_ob_size p_ob_at p_ob_from p_ob_token p_ob_value p_ob_faultKind p_ob_houseMany p_ob_bestSet p_ob_bestOver p_ob_tenMany p_ob_callMany (bw (0) (959) nc_1260.1 (by decide))) rfl ⟨(callB_of 2 hw0 (gA m_576) rfl rfl rfl (hw0 _ m_41) (hw0 _ m_402) cb_X10_ofDebt ⟨Nat.le_of_ble_eq_true rfl, Nat.le_of_ble_eq_true rfl⟩), (hw0 _ m_403), (hw0 _ m_404)⟩ (ci := 10) (q := (RX10, TX10, 41)) rfl rfl rfl hl.1 (Nat.le_of_ble_eq_true rfl) dX10_owesAlready_30 ⟨Nat.le_of_ble_eq_true rfl, Nat.le_of_ble_eq_true rfl⟩ (fun r_1272 w_1272 H locs hw_1272 hP hD hS => ?_)
        obtain ⟨v_1273, bv_1273, er_1272, rfl⟩ := hw_1272
        subst r_1272
        obtain ⟨hP, hD⟩ : vPD G A H [(ce_X10 ob ob_thrown ob_world ob_images ob_hasImage ob_tape ob_taped ob_five ob_size ob_at ob_from ob_token ob_value ob_faultKind ob_faultPlace ob_fresh ob_parts ob_houses ob_houseMany ob_worthOf ob_byCall ob_over ob_bestSet ob_bestOver ob_bestWorth ob_row ob_tenDebts ob_tenMany ob_fewestBy ob_covered ob_queue ob_cameBy ob_parent ob_met ob_calls ob_callMany ob_calledOn ob_saved ob_many ob_width ob_numbers ob_moving), (ce_i9080 y ob_world fob_world)] := ⟨hP, hD⟩
        refine lv_iload_n hx hb dX10_owesAlready_33 rfl (lv_at hl 3 rfl) ?_
        refine lv_icmp_ne (tgt := 50) hx hb dX10_owesAlready_34 (by decide) (fun c_1274 => ?_) (fun c_1274 => ?_)
        · skip
          exact J_50_1269 _ _ _ _ ⟨rfl, ⟨hP, hD⟩, hS, lv_sub hl [0, 1, 2, 3, 4] rfl⟩
        · skip
          have nc_1274 := nb_eq (0) (15) c_1274 bv_1273 (btop a2) (by decide)
          refine lv_aload_n hx hb dX10_owesAlready_37 rfl (lv_at hl 1 rfl) ?_
          refine lv_iload hx hb dX10_owesAlready_38 (lv_at hl 0 rfl) ?_
          refine lv_iconst (v := 2) hx hb dX10_owesAlready_40 (by decide) ?_
          refine cVim (As := [.int v_1239, .int 2]) (rest := []) ⟨hx, hb, hml, hown, hw0⟩ hA hK hP hD hS [true, true] (sofDebt2 l G y _ ob v_1239 ob_thrown ob_world ob_images ob_hasImage ob_tape ob_taped ob_five ob_size ob_at ob_from ob_token ob_value ob_faultKind ob_faultPlace ob_fresh ob_parts ob_houses ob_houseMany ob_worthOf ob_byCall ob_over ob_bestSet ob_bestOver ob_bestWorth ob_row ob_tenDebts ob_tenMany ob_fewestBy ob_covered ob_queue ob_cameBy ob_parent ob_met ob_calls ob_callMany ob_calledOn ob_saved ob_many ob_width ob_numbers ob_moving fob_world p_fob_world p_ob_taped p_ob_size p_ob_at p_ob_from p_ob_token p_ob_value p_ob_faultKind p_ob_houseMany p_ob_bestSet p_ob_bestOver p_ob_tenMany p_ob_callMany (bw (0) (959) nc_1260.1 (by decide))) rfl ⟨(callB_of 2 hw0 (gA m_576) rfl rfl rfl (hw0 _ m_41) (hw0 _ m_402) cb_X10_ofDebt ⟨Nat.le_of_ble_eq_true rfl, Nat.le_of_ble_eq_true rfl⟩), (hw0 _ m_403), (hw0 _ m_404)⟩ (ci := 10) (q := (RX10, TX10, 41)) rfl rfl rfl hl.1 (Nat.le_of_ble_eq_true rfl) dX10_owesAlready_41 ⟨Nat.le_of_ble_eq_true rfl, Nat.le_of_ble_eq_true rfl⟩ (fun r_1275 w_1275 H locs hw_1275 hP hD hS => ?_)
          obtain ⟨v_1276, er_1275, rfl⟩ := hw_1275
          subst r_1275
          obtain ⟨hP, hD⟩ : vPD G A H [(ce_X10 ob ob_thrown ob_world ob_images ob_hasImage ob_tape ob_taped ob_five ob_size ob_at ob_from ob_token ob_value ob_faultKind ob_faultPlace ob_fresh ob_parts ob_houses ob_houseMany ob_worthOf ob_byCall ob_over ob_bestSet ob_bestOver ob_bestWorth ob_row ob_tenDebts ob_tenMany ob_fewestBy ob_covered ob_queue ob_cameBy ob_parent ob_met ob_calls ob_callMany ob_calledOn ob_saved ob_many ob_width ob_numbers ob_moving), (ce_i9080 y ob_world fob_world)] := ⟨hP, hD⟩
          refine lv_iload_n hx hb dX10_owesAlready_44 rfl (lv_at hl 4 rfl) ?_
          refine lv_icmp_ne (tgt := 50) hx hb dX10_owesAlready_45 (by decide) (fun c_1277 => ?_) (fun c_1277 => ?_)
          · skip
            exact J_50_1269 _ _ _ _ ⟨rfl, ⟨hP, hD⟩, hS, lv_sub hl [0, 1, 2, 3, 4] rfl⟩
          · skip
            have nc_1277 := nb_eq (-2147483648) (2147483647) c_1277 (btop v_1276) (btop a3) (by decide)
            refine lv_iconst (v := 1) hx hb dX10_owesAlready_48 (by decide) ?_
            exact W.zret (v := 1) hx hb hr rfl (fun t ht hW => ⟨⟨1, _, rfl, Or.inr (⟨nc_1271.2.1, nc_1274.2.1, rfl, rfl⟩), by rw [ht]; exact hP, hD⟩, hS.F ht⟩) hS.2.2 dX10_owesAlready_49

set_option maxHeartbeats 4000000 in
set_option maxRecDepth 100000 in
theorem sX10_meets (l : Launch) (G : va_G) (y : Nat → ClassId) (sz : Nat) (ob : Nat) (a1 : Int32) (a2 : Int32) (ob_thrown : Int32) (ob_world : Nat) (ob_images : Nat) (ob_hasImage : Nat) (ob_tape : Nat) (ob_taped : Int32) (ob_five : Nat) (ob_size : Int32) (ob_at : Int32) (ob_from : Int32) (ob_token : Int32) (ob_value : Int32) (ob_faultKind : Int32) (ob_faultPlace : Int32) (ob_fresh : Nat) (ob_parts : Nat) (ob_houses : Nat) (ob_houseMany : Int32) (ob_worthOf : Nat) (ob_byCall : Nat) (ob_over : Nat) (ob_bestSet : Int32) (ob_bestOver : Int32) (ob_bestWorth : Int32) (ob_row : Nat) (ob_tenDebts : Nat) (ob_tenMany : Int32) (ob_fewestBy : Nat) (ob_covered : Nat) (ob_queue : Nat) (ob_cameBy : Nat) (ob_parent : Nat) (ob_met : Nat) (ob_calls : Nat) (ob_callMany : Int32) (ob_calledOn : Nat) (ob_saved : Nat) (ob_many : Nat) (ob_width : Nat) (ob_numbers : Nat) (ob_moving : Nat) (fob_world : Nat → Int32) (p_fob_world : RWw fob_world) (p_ob_taped : (0 : Int) ≤ ob_taped.toInt ∧ ob_taped.toInt ≤ 1400) (p_ob_size : (0 : Int) ≤ ob_size.toInt ∧ ob_size.toInt ≤ 1400) (p_ob_at : (0 : Int) ≤ ob_at.toInt ∧ ob_at.toInt ≤ 1400) (p_ob_from : (0 : Int) ≤ ob_from.toInt ∧ ob_from.toInt ≤ 1400) (p_ob_token : (0 : Int) ≤ ob_token.toInt ∧ ob_token.toInt ≤ 4) (p_ob_value : (0 : Int) ≤ ob_value.toInt ∧ ob_value.toInt ≤ 9999) (p_ob_faultKind : (0 : Int) ≤ ob_faultKind.toInt ∧ ob_faultKind.toInt ≤ 3) (p_ob_houseMany : (0 : Int) ≤ ob_houseMany.toInt ∧ ob_houseMany.toInt ≤ 10) (p_ob_bestSet : (0 : Int) ≤ ob_bestSet.toInt ∧ ob_bestSet.toInt ≤ 1023) (p_ob_bestOver : (-1 : Int) ≤ ob_bestOver.toInt ∧ ob_bestOver.toInt ≤ 180) (p_ob_tenMany : (0 : Int) ≤ ob_tenMany.toInt ∧ ob_tenMany.toInt ≤ 10) (p_ob_callMany : (0 : Int) ≤ ob_callMany.toInt ∧ ob_callMany.toInt ≤ 16) (p_a1 : (0 : Int) ≤ a1.toInt ∧ a1.toInt ≤ 15) (p_a2 : (0 : Int) ≤ a2.toInt ∧ a2.toInt ≤ 15) : Met l yX10_meets (Cond.code yX10_meets cX10_meets 3 none :: wAll) ({ frames := 0, cells := 0, slots := 0, locals := 0 }) (va_Pc [.ref ob, .int a1, .int a2] (kp G y sz [(ce_X10 ob ob_thrown ob_world ob_images ob_hasImage ob_tape ob_taped ob_five ob_size ob_at ob_from ob_token ob_value ob_faultKind ob_faultPlace ob_fresh ob_parts ob_houses ob_houseMany ob_worthOf ob_byCall ob_over ob_bestSet ob_bestOver ob_bestWorth ob_row ob_tenDebts ob_tenMany ob_fewestBy ob_covered ob_queue ob_cameBy ob_parent ob_met ob_calls ob_callMany ob_calledOn ob_saved ob_many ob_width ob_numbers ob_moving), (ce_i9080 y ob_world fob_world)])) (va_Qv (fun (w : va_W) => (∃ (f_21 : Nat → Int32), (RWw f_21) ∧ ((f_21 7).toInt = (fob_world 7).toInt ∧ (f_21 8).toInt = (fob_world 8).toInt) ∧ w = [(ce_X10 ob ob_thrown ob_world ob_images ob_hasImage ob_tape ob_taped ob_five ob_size ob_at ob_from ob_token ob_value ob_faultKind ob_faultPlace ob_fresh ob_parts ob_houses ob_houseMany ob_worthOf ob_byCall ob_over ob_bestSet ob_bestOver ob_bestWorth ob_row ob_tenDebts ob_tenMany ob_fewestBy ob_covered ob_queue ob_cameBy ob_parent ob_met ob_calls ob_callMany ob_calledOn ob_saved ob_many ob_width ob_numbers ob_moving), (ce_i9080 y ob_world f_21)])) (kq G (va_A [(ce_X10 ob ob_thrown ob_world ob_images ob_hasImage ob_tape ob_taped ob_five ob_size ob_at ob_from ob_token ob_value ob_faultKind ob_faultPlace ob_fresh ob_parts ob_houses ob_houseMany ob_worthOf ob_byCall ob_over ob_bestSet ob_bestOver ob_bestWorth ob_row ob_tenDebts ob_tenMany ob_fewestBy ob_covered ob_queue ob_cameBy ob_parent ob_met ob_calls ob_callMany ob_calledOn ob_saved ob_many ob_width ob_numbers ob_moving), (ce_i9080 y ob_world fob_world)] sz)) (va_A [(ce_X10 ob ob_thrown ob_world ob_images ob_hasImage ob_tape ob_taped ob_five ob_size ob_at ob_from ob_token ob_value ob_faultKind ob_faultPlace ob_fresh ob_parts ob_houses ob_houseMany ob_worthOf ob_byCall ob_over ob_bestSet ob_bestOver ob_bestWorth ob_row ob_tenDebts ob_tenMany ob_fewestBy ob_covered ob_queue ob_cameBy ob_parent ob_met ob_calls ob_callMany ob_calledOn ob_saved ob_many ob_width ob_numbers ob_moving), (ce_i9080 y ob_world fob_world)] sz)) 0 0 (va_A [(ce_X10 ob ob_thrown ob_world ob_images ob_hasImage ob_tape ob_taped ob_five ob_size ob_at ob_from ob_token ob_value ob_faultKind ob_faultPlace ob_fresh ob_parts ob_houses ob_houseMany ob_worthOf ob_byCall ob_over ob_bestSet ob_bestOver ob_bestWorth ob_row ob_tenDebts ob_tenMany ob_fewestBy ob_covered ob_queue ob_cameBy ob_parent ob_met ob_calls ob_callMany ob_calledOn ob_saved ob_many ob_width ob_numbers ob_moving), (ce_i9080 y ob_world fob_world)] sz) := by
  refine Met.ofW (cc := cX10_meets) (maxL := 3) (ret := none) (by decide) rfl ?_
  intro p e s m args below meth c s₁ B hml hv
  obtain ⟨rfl, hsz, hP, hK, hD0⟩ := hv
  have hx := B.exec
  have hb := B.bytes
  have hr := B.returns
  have hw0 : ∀ w ∈ wAll, w.before _ s = true := fun w h => atoms_spec (ws := Cond.code yX10_meets cX10_meets 3 none :: wAll) B.pre w (List.mem_cons_of_mem _ h)
  have hown : s.vm.findClass RX10 = some m.cls := findClass_of_methodNamed B.named
  subst hsz
  have hD := hD0.self (sz := s.heap.size)
  generalize hAe : va_A [(ce_X10 ob ob_thrown ob_world ob_images ob_hasImage ob_tape ob_taped ob_five ob_size ob_at ob_from ob_token ob_value ob_faultKind ob_faultPlace ob_fresh ob_parts ob_houses ob_houseMany ob_worthOf ob_byCall ob_over ob_bestSet ob_bestOver ob_bestWorth ob_row ob_tenDebts ob_tenMany ob_fewestBy ob_covered ob_queue ob_cameBy ob_parent ob_met ob_calls ob_callMany ob_calledOn ob_saved ob_many ob_width ob_numbers ob_moving), (ce_i9080 y ob_world fob_world)] s.heap.size = A at hD ⊢
  have hA : ∀ q : Nat, s.heap.size ≤ q → A q := fun q h => by rw [← hAe]; exact Or.inr h
  have hS : va_S A s.heap s.heap [] := va_S.rf
  have hP : va_P G vwCl [(ce_X10 ob ob_thrown ob_world ob_images ob_hasImage ob_tape ob_taped ob_five ob_size ob_at ob_from ob_token ob_value ob_faultKind ob_faultPlace ob_fresh ob_parts ob_houses ob_houseMany ob_worthOf ob_byCall ob_over ob_bestSet ob_bestOver ob_bestWorth ob_row ob_tenDebts ob_tenMany ob_fewestBy ob_covered ob_queue ob_cameBy ob_parent ob_met ob_calls ob_callMany ob_calledOn ob_saved ob_many ob_width ob_numbers ob_moving), (ce_i9080 y ob_world fob_world)] s.heap := hP
  have hl := lv_entry ([.ref ob, .int a1, .int a2]) (n := 3) (Nat.le_of_ble_eq_true rfl)
  rw [lg_entry_eq]
  generalize (lg_sl ([.ref ob, .int a1, .int a2]) ++ List.replicate (3 - (lg_sl ([.ref ob, .int a1, .int a2])).length) Slot.unset).toArray = ls at hl ⊢
  have hl : lv_has ls 3 [(0, .ref ob), (1, .int a1), (2, .int a2)] := hl
  refine lv_aload_n hx hb dX10_meets_0 rfl (lv_at hl 0 rfl) ?_
  refine va_get (D := G) (ci := 10) (v := .ref ob_world) (C := RX10) (T := TX10) (N := 41) hx hb hw0 inA_wsX100 hown hK.1 hP 0 rfl rfl 1 (by decide) (hw0 _ m_352) (fun _ h9 => h9) rfl dX10_meets_1 ?_
  refine lv_sipush (v := 1864) hx hb dX10_meets_4 (by decide) ?_
  refine lv_iload_n hx hb dX10_meets_7 rfl (lv_at hl 1 rfl) ?_
  refine lv_iadd hx hb dX10_meets_8 ?_
  refine lv_topi (fun v_1001 ev_1001 => ?_)
  have qv_1001 := ba_add ev_1001 (bkc (x := 1864) (c := 1864) (by decide)) p_a1 (by decide)
  have bv_1001 : (1864 : Int) ≤ v_1001.toInt ∧ v_1001.toInt ≤ 1879 := bq_add qv_1001 (bkc (x := 1864) (c := 1864) (by decide)) p_a1 _ _ (by decide)
  have qv_1001 : v_1001.toInt = (1864) + a1.toInt := qv_1001
  refine lv_dup2_11 hx hb dX10_meets_9 rfl rfl ?_
  refine va_iald hx hb hK.1 hP 1 1 rfl rfl (vi bv_1001 (by decide)) dX10_meets_10 ?_
  refine lv_topi (fun v_1002 ev_1002 => ?_)
  have bv_1002 : (0 : Int) ≤ v_1002.toInt ∧ v_1002.toInt ≤ 65535 := rdw ev_1002 (p_fob_world).1.1 pl_8 (by omega) (p_a1)
  refine lv_iconst (v := 1) hx hb dX10_meets_11 (by decide) ?_
  refine lv_iload_n hx hb dX10_meets_12 rfl (lv_at hl 2 rfl) ?_
  refine lv_ishl hx hb dX10_meets_13 ?_
  refine lv_topi (fun v_1003 ev_1003 => ?_)
  have bv_1003 : (1 : Int) ≤ v_1003.toInt ∧ v_1003.toInt ≤ 32768 := ba_shl 0 15 ev_1003 p_a2 (by decide)
  refine lv_ior hx hb dX10_meets_14 ?_
  refine lv_topi (fun v_1004 ev_1004 => ?_)
  have bv_1004 : (0 : Int) ≤ v_1004.toInt ∧ v_1004.toInt ≤ 65535 := ba_or 16 ev_1004 bv_1002 bv_1003 (by decide)
  refine va_iast hx hb hK.1 hP hD hS 1 1 rfl rfl (vi bv_1001 (by decide)) dX10_meets_15 (fun H locs hP hD hS => ?_)
  generalize hf_1005 : (upd fob_world (v_1001 : Int32).toNatClampNeg v_1004) = f_1005 at hP hD
  have zf_1005_7 : (f_1005 7).toInt = (fob_world 7).toInt := hf_1005 ▸ pin_ne (ix_not bv_1001 (by decide))
  have zf_1005_8 : (f_1005 8).toInt = (fob_world 8).toInt := hf_1005 ▸ pin_ne (ix_not bv_1001 (by decide))
  have bf_1005 : RBw f_1005 := hf_1005 ▸ upw (p_fob_world).1.1 pl_9 (by omega) (p_a1) bv_1004
  have cf_1005 : RVw f_1005 := hf_1005 ▸ RV_up (p_fob_world).1 (hf_1005 ▸ bf_1005) (ix_out bv_1001 (by decide))
  have df_1005 : RWw f_1005 := ⟨cf_1005, hf_1005 ▸ WQ_up (p_fob_world).1.1 (p_fob_world).2 (qf_ix bv_1001 (by decide))⟩
  obtain ⟨hP, hD⟩ : vPD G A H [(ce_X10 ob ob_thrown ob_world ob_images ob_hasImage ob_tape ob_taped ob_five ob_size ob_at ob_from ob_token ob_value ob_faultKind ob_faultPlace ob_fresh ob_parts ob_houses ob_houseMany ob_worthOf ob_byCall ob_over ob_bestSet ob_bestOver ob_bestWorth ob_row ob_tenDebts ob_tenMany ob_fewestBy ob_covered ob_queue ob_cameBy ob_parent ob_met ob_calls ob_callMany ob_calledOn ob_saved ob_many ob_width ob_numbers ob_moving), (ce_i9080 y ob_world f_1005)] := ⟨hP, hD⟩
  refine lv_aload_n hx hb dX10_meets_16 rfl (lv_at hl 0 rfl) ?_
  refine va_get (D := G) (ci := 10) (v := .ref ob_world) (C := RX10) (T := TX10) (N := 41) hx hb hw0 inA_wsX100 hown hK.1 hP 0 rfl rfl 1 (by decide) (hw0 _ m_352) (fun _ h9 => h9) rfl dX10_meets_17 ?_
  refine lv_sipush (v := 1864) hx hb dX10_meets_20 (by decide) ?_
  refine lv_iload_n hx hb dX10_meets_23 rfl (lv_at hl 2 rfl) ?_
  refine lv_iadd hx hb dX10_meets_24 ?_
  refine lv_topi (fun v_1006 ev_1006 => ?_)
  have qv_1006 := ba_add ev_1006 (bkc (x := 1864) (c := 1864) (by decide)) p_a2 (by decide)
  have bv_1006 : (1864 : Int) ≤ v_1006.toInt ∧ v_1006.toInt ≤ 1879 := bq_add qv_1006 (bkc (x := 1864) (c := 1864) (by decide)) p_a2 _ _ (by decide)
  have qv_1006 : v_1006.toInt = (1864) + a2.toInt := qv_1006
  refine lv_dup2_11 hx hb dX10_meets_25 rfl rfl ?_
  refine va_iald hx hb hK.1 hP 1 1 rfl rfl (vi bv_1006 (by decide)) dX10_meets_26 ?_
  refine lv_topi (fun v_1007 ev_1007 => ?_)
  have bv_1007 : (0 : Int) ≤ v_1007.toInt ∧ v_1007.toInt ≤ 65535 := rdw ev_1007 (df_1005).1.1 pl_8 (by omega) (p_a2)
  refine lv_iconst (v := 1) hx hb dX10_meets_27 (by decide) ?_
  refine lv_iload_n hx hb dX10_meets_28 rfl (lv_at hl 1 rfl) ?_
  refine lv_ishl hx hb dX10_meets_29 ?_
  refine lv_topi (fun v_1008 ev_1008 => ?_)
  have bv_1008 : (1 : Int) ≤ v_1008.toInt ∧ v_1008.toInt ≤ 32768 := ba_shl 0 15 ev_1008 p_a1 (by decide)
  refine lv_ior hx hb dX10_meets_30 ?_
  refine lv_topi (fun v_1009 ev_1009 => ?_)
  have bv_1009 : (0 : Int) ≤ v_1009.toInt ∧ v_1009.toInt ≤ 65535 := ba_or 16 ev_1009 bv_1007 bv_1008 (by decide)
  refine va_iast hx hb hK.1 hP hD hS 1 1 rfl rfl (vi bv_1006 (by decide)) dX10_meets_31 (fun H locs hP hD hS => ?_)
  generalize hf_1010 : (upd f_1005 (v_1006 : Int32).toNatClampNeg v_1009) = f_1010 at hP hD
  have zf_1010_7 : (f_1010 7).toInt = (f_1005 7).toInt := hf_1010 ▸ pin_ne (ix_not bv_1006 (by decide))
  have zf_1010_8 : (f_1010 8).toInt = (f_1005 8).toInt := hf_1010 ▸ pin_ne (ix_not bv_1006 (by decide))
  have bf_1010 : RBw f_1010 := hf_1010 ▸ upw (df_1005).1.1 pl_9 (by omega) (p_a2) bv_1009
  have cf_1010 : RVw f_1010 := hf_1010 ▸ RV_up (df_1005).1 (hf_1010 ▸ bf_1010) (ix_out bv_1006 (by decide))
  have df_1010 : RWw f_1010 := ⟨cf_1010, hf_1010 ▸ WQ_up (df_1005).1.1 (df_1005).2 (qf_ix bv_1006 (by decide))⟩
  obtain ⟨hP, hD⟩ : vPD G A H [(ce_X10 ob ob_thrown ob_world ob_images ob_hasImage ob_tape ob_taped ob_five ob_size ob_at ob_from ob_token ob_value ob_faultKind ob_faultPlace ob_fresh ob_parts ob_houses ob_houseMany ob_worthOf ob_byCall ob_over ob_bestSet ob_bestOver ob_bestWorth ob_row ob_tenDebts ob_tenMany ob_fewestBy ob_covered ob_queue ob_cameBy ob_parent ob_met ob_calls ob_callMany ob_calledOn ob_saved ob_many ob_width ob_numbers ob_moving), (ce_i9080 y ob_world f_1010)] := ⟨hP, hD⟩
  exact W.vret hx hb hr (fun t ht hW => ⟨⟨_, rfl, ⟨f_1010, df_1010, by omega, rfl⟩, by rw [ht]; exact hP, hD⟩, hS.F ht⟩) hS.2.2 dX10_meets_32

set_option maxHeartbeats 4000000 in
set_option maxRecDepth 100000 in
theorem sX10_drops (l : Launch) (G : va_G) (y : Nat → ClassId) (sz : Nat) (ob : Nat) (a1 : Int32) (ob_thrown : Int32) (ob_world : Nat) (ob_images : Nat) (ob_hasImage : Nat) (ob_tape : Nat) (ob_taped : Int32) (ob_five : Nat) (ob_size : Int32) (ob_at : Int32) (ob_from : Int32) (ob_token : Int32) (ob_value : Int32) (ob_faultKind : Int32) (ob_faultPlace : Int32) (ob_fresh : Nat) (ob_parts : Nat) (ob_houses : Nat) (ob_houseMany : Int32) (ob_worthOf : Nat) (ob_byCall : Nat) (ob_over : Nat) (ob_bestSet : Int32) (ob_bestOver : Int32) (ob_bestWorth : Int32) (ob_row : Nat) (ob_tenDebts : Nat) (ob_tenMany : Int32) (ob_fewestBy : Nat) (ob_covered : Nat) (ob_queue : Nat) (ob_cameBy : Nat) (ob_parent : Nat) (ob_met : Nat) (ob_calls : Nat) (ob_callMany : Int32) (ob_calledOn : Nat) (ob_saved : Nat) (ob_many : Nat) (ob_width : Nat) (ob_numbers : Nat) (ob_moving : Nat) (fob_world : Nat → Int32) (p_fob_world : RWw fob_world) (p_ob_taped : (0 : Int) ≤ ob_taped.toInt ∧ ob_taped.toInt ≤ 1400) (p_ob_size : (0 : Int) ≤ ob_size.toInt ∧ ob_size.toInt ≤ 1400) (p_ob_at : (0 : Int) ≤ ob_at.toInt ∧ ob_at.toInt ≤ 1400) (p_ob_from : (0 : Int) ≤ ob_from.toInt ∧ ob_from.toInt ≤ 1400) (p_ob_token : (0 : Int) ≤ ob_token.toInt ∧ ob_token.toInt ≤ 4) (p_ob_value : (0 : Int) ≤ ob_value.toInt ∧ ob_value.toInt ≤ 9999) (p_ob_faultKind : (0 : Int) ≤ ob_faultKind.toInt ∧ ob_faultKind.toInt ≤ 3) (p_ob_houseMany : (0 : Int) ≤ ob_houseMany.toInt ∧ ob_houseMany.toInt ≤ 10) (p_ob_bestSet : (0 : Int) ≤ ob_bestSet.toInt ∧ ob_bestSet.toInt ≤ 1023) (p_ob_bestOver : (-1 : Int) ≤ ob_bestOver.toInt ∧ ob_bestOver.toInt ≤ 180) (p_ob_tenMany : (0 : Int) ≤ ob_tenMany.toInt ∧ ob_tenMany.toInt ≤ 10) (p_ob_callMany : (0 : Int) ≤ ob_callMany.toInt ∧ ob_callMany.toInt ≤ 16) (p_a1 : (0 : Int) ≤ a1.toInt ∧ a1.toInt ≤ 599) (hq0 : 1 ≤ (fob_world 7).toInt) : Met l yX10_drops (Cond.code yX10_drops cX10_drops 3 none :: wAll) ({ frames := 0, cells := 0, slots := 0, locals := 0 }) (va_Pc [.ref ob, .int a1] (kp G y sz [(ce_X10 ob ob_thrown ob_world ob_images ob_hasImage ob_tape ob_taped ob_five ob_size ob_at ob_from ob_token ob_value ob_faultKind ob_faultPlace ob_fresh ob_parts ob_houses ob_houseMany ob_worthOf ob_byCall ob_over ob_bestSet ob_bestOver ob_bestWorth ob_row ob_tenDebts ob_tenMany ob_fewestBy ob_covered ob_queue ob_cameBy ob_parent ob_met ob_calls ob_callMany ob_calledOn ob_saved ob_many ob_width ob_numbers ob_moving), (ce_i9080 y ob_world fob_world)])) (va_Qv (fun (w : va_W) => (∃ (f_123 : Nat → Int32), (RWw f_123) ∧ ((f_123 7).toInt = (fob_world 7).toInt - 1 ∧ (f_123 8).toInt = (fob_world 8).toInt) ∧ w = [(ce_X10 ob ob_thrown ob_world ob_images ob_hasImage ob_tape ob_taped ob_five ob_size ob_at ob_from ob_token ob_value ob_faultKind ob_faultPlace ob_fresh ob_parts ob_houses ob_houseMany ob_worthOf ob_byCall ob_over ob_bestSet ob_bestOver ob_bestWorth ob_row ob_tenDebts ob_tenMany ob_fewestBy ob_covered ob_queue ob_cameBy ob_parent ob_met ob_calls ob_callMany ob_calledOn ob_saved ob_many ob_width ob_numbers ob_moving), (ce_i9080 y ob_world f_123)])) (kq G (va_A [(ce_X10 ob ob_thrown ob_world ob_images ob_hasImage ob_tape ob_taped ob_five ob_size ob_at ob_from ob_token ob_value ob_faultKind ob_faultPlace ob_fresh ob_parts ob_houses ob_houseMany ob_worthOf ob_byCall ob_over ob_bestSet ob_bestOver ob_bestWorth ob_row ob_tenDebts ob_tenMany ob_fewestBy ob_covered ob_queue ob_cameBy ob_parent ob_met ob_calls ob_callMany ob_calledOn ob_saved ob_many ob_width ob_numbers ob_moving), (ce_i9080 y ob_world fob_world)] sz)) (va_A [(ce_X10 ob ob_thrown ob_world ob_images ob_hasImage ob_tape ob_taped ob_five ob_size ob_at ob_from ob_token ob_value ob_faultKind ob_faultPlace ob_fresh ob_parts ob_houses ob_houseMany ob_worthOf ob_byCall ob_over ob_bestSet ob_bestOver ob_bestWorth ob_row ob_tenDebts ob_tenMany ob_fewestBy ob_covered ob_queue ob_cameBy ob_parent ob_met ob_calls ob_callMany ob_calledOn ob_saved ob_many ob_width ob_numbers ob_moving), (ce_i9080 y ob_world fob_world)] sz)) 0 0 (va_A [(ce_X10 ob ob_thrown ob_world ob_images ob_hasImage ob_tape ob_taped ob_five ob_size ob_at ob_from ob_token ob_value ob_faultKind ob_faultPlace ob_fresh ob_parts ob_houses ob_houseMany ob_worthOf ob_byCall ob_over ob_bestSet ob_bestOver ob_bestWorth ob_row ob_tenDebts ob_tenMany ob_fewestBy ob_covered ob_queue ob_cameBy ob_parent ob_met ob_calls ob_callMany ob_calledOn ob_saved ob_many ob_width ob_numbers ob_moving), (ce_i9080 y ob_world fob_world)] sz) := by
  refine Met.ofW (cc := cX10_drops) (maxL := 3) (ret := none) (by decide) rfl ?_
  intro p e s m args below meth c s₁ B hml hv
  obtain ⟨rfl, hsz, hP, hK, hD0⟩ := hv
  have hx := B.exec
  have hb := B.bytes
  have hr := B.returns
  have hw0 : ∀ w ∈ wAll, w.before _ s = true := fun w h => atoms_spec (ws := Cond.code yX10_drops cX10_drops 3 none :: wAll) B.pre w (List.mem_cons_of_mem _ h)
  have hown : s.vm.findClass RX10 = some m.cls := findClass_of_methodNamed B.named
  subst hsz
  have hD := hD0.self (sz := s.heap.size)
  generalize hAe : va_A [(ce_X10 ob ob_thrown ob_world ob_images ob_hasImage ob_tape ob_taped ob_five ob_size ob_at ob_from ob_token ob_value ob_faultKind ob_faultPlace ob_fresh ob_parts ob_houses ob_houseMany ob_worthOf ob_byCall ob_over ob_bestSet ob_bestOver ob_bestWorth ob_row ob_tenDebts ob_tenMany ob_fewestBy ob_covered ob_queue ob_cameBy ob_parent ob_met ob_calls ob_callMany ob_calledOn ob_saved ob_many ob_width ob_numbers ob_moving), (ce_i9080 y ob_world fob_world)] s.heap.size = A at hD ⊢
  have hA : ∀ q : Nat, s.heap.size ≤ q → A q := fun q h => by rw [← hAe]; exact Or.inr h
  have hS : va_S A s.heap s.heap [] := va_S.rf
  have hP : va_P G vwCl [(ce_X10 ob ob_thrown ob_world ob_images ob_hasImage ob_tape ob_taped ob_five ob_size ob_at ob_from ob_token ob_value ob_faultKind ob_faultPlace ob_fresh ob_parts ob_houses ob_houseMany ob_worthOf ob_byCall ob_over ob_bestSet ob_bestOver ob_bestWorth ob_row ob_tenDebts ob_tenMany ob_fewestBy ob_covered ob_queue ob_cameBy ob_parent ob_met ob_calls ob_callMany ob_calledOn ob_saved ob_many ob_width ob_numbers ob_moving), (ce_i9080 y ob_world fob_world)] s.heap := hP
  have hl := lv_entry ([.ref ob, .int a1]) (n := 3) (Nat.le_of_ble_eq_true rfl)
  rw [lg_entry_eq]
  generalize (lg_sl ([.ref ob, .int a1]) ++ List.replicate (3 - (lg_sl ([.ref ob, .int a1])).length) Slot.unset).toArray = ls at hl ⊢
  have hl : lv_has ls 3 [(0, .ref ob), (1, .int a1)] := hl
  refine lv_iconst (v := 5) hx hb dX10_drops_0 (by decide) ?_
  refine lv_iload_n hx hb dX10_drops_1 rfl (lv_at hl 1 rfl) ?_
  refine lv_imul hx hb dX10_drops_2 ?_
  refine lv_topi (fun v_1001 ev_1001 => ?_)
  have qv_1001 := ba_mul 5 (ev_1001.trans (Int32.mul_comm _ _)) p_a1 (by decide) (by decide) (by decide)
  have bv_1001 : (0 : Int) ≤ v_1001.toInt ∧ v_1001.toInt ≤ 2995 := qv_1001.2
  refine lv_istore_n (lv' := [(2, .int v_1001), (0, .ref ob), (1, .int a1)]) hx hb dX10_drops_3 rfl hl (by decide) rfl (fun ls hl => ?_)
  refine loopX (fun n H locs ls st => ∃ (v_1036 : Int32) (f_1037 : Nat → Int32), (2995 - v_1036.toInt).toNat = n ∧ ((0 : Int) ≤ v_1036.toInt ∧ v_1036.toInt ≤ 2995) ∧ (RWw f_1037) ∧ ((f_1037 7).toInt = (fob_world 7).toInt ∧ (f_1037 8).toInt = (fob_world 8).toInt) ∧ st = [] ∧ vPD G A H [(ce_X10 ob ob_thrown ob_world ob_images ob_hasImage ob_tape ob_taped ob_five ob_size ob_at ob_from ob_token ob_value ob_faultKind ob_faultPlace ob_fresh ob_parts ob_houses ob_houseMany ob_worthOf ob_byCall ob_over ob_bestSet ob_bestOver ob_bestWorth ob_row ob_tenDebts ob_tenMany ob_fewestBy ob_covered ob_queue ob_cameBy ob_parent ob_met ob_calls ob_callMany ob_calledOn ob_saved ob_many ob_width ob_numbers ob_moving), (ce_i9080 y ob_world f_1037)] ∧ va_S A s.heap H locs ∧ lv_has ls 3 [(2, .int v_1036), (0, .ref ob)]) ?_ (n := (2995 - v_1001.toInt).toNat) ⟨v_1001, fob_world, rfl, bv_1001, p_fob_world, (by omega), rfl, ⟨hP, hD⟩, hS, lv_sub hl [0, 1] rfl⟩
  rintro n ih_1047 H locs ls st ⟨v_1036, f_1037, hn_1047, bv_1036, bf_1037, rl1037_0, rfl, ⟨hP, hD⟩, hS, hl⟩
  refine lv_iload_n hx hb dX10_drops_4 rfl (lv_at hl 0 rfl) ?_
  refine lv_iconst (v := 5) hx hb dX10_drops_5 (by decide) ?_
  refine lv_aload_n hx hb dX10_drops_6 rfl (lv_at hl 1 rfl) ?_
  refine va_get (D := G) (ci := 10) (v := .ref ob_world) (C := RX10) (T := TX10) (N := 41) hx hb hw0 inA_wsX100 hown hK.1 hP 0 rfl rfl 1 (by decide) (hw0 _ m_352) (fun _ h9 => h9) rfl dX10_drops_7 ?_
  refine lv_bipush (v := 7) hx hb dX10_drops_10 (by decide) ?_
  refine va_iald hx hb hK.1 hP 1 1 rfl rfl (vi (bkc (x := 7) (c := 7) (by decide)) (by decide)) dX10_drops_12 ?_
  refine lv_topi (fun v_1048 ev_1048 => ?_)
  have bv_1048 : (0 : Int) ≤ v_1048.toInt ∧ v_1048.toInt ≤ 600 := rdk ev_1048 (bf_1037).1.1 (by decide)
  have yv_1048 : v_1048.toInt = (f_1037 7).toInt := congrArg Int32.toInt ev_1048
  refine lv_iconst (v := 1) hx hb dX10_drops_13 (by decide) ?_
  refine lv_isub hx hb dX10_drops_14 ?_
  refine lv_topi (fun v_1049 ev_1049 => ?_)
  have qv_1049 := ba_sub ev_1049 bv_1048 (bkc (x := 1) (c := 1) (by decide)) (by decide)
  have bv_1049 : (-1 : Int) ≤ v_1049.toInt ∧ v_1049.toInt ≤ 599 := bq_sub qv_1049 bv_1048 (bkc (x := 1) (c := 1) (by decide)) _ _ (by decide)
  have qv_1049 : v_1049.toInt = v_1048.toInt - (1) := qv_1049
  refine lv_imul hx hb dX10_drops_15 ?_
  refine lv_topi (fun v_1050 ev_1050 => ?_)
  have qv_1050 := ba_mul 5 (ev_1050.trans (Int32.mul_comm _ _)) bv_1049 (by decide) (by decide) (by decide)
  have bv_1050 : (-5 : Int) ≤ v_1050.toInt ∧ v_1050.toInt ≤ 2995 := qv_1050.2
  refine lv_icmp_ge (tgt := 47) hx hb dX10_drops_16 (by decide) (fun c_1051 => ?_) (fun c_1051 => ?_)
  · skip
    have nc_1051 := nb_le (2995) (0) c_1051 bv_1050 bv_1036 (by decide)
    refine lv_aload_n hx hb dX10_drops_47 rfl (lv_at hl 1 rfl) ?_
    refine va_get (D := G) (ci := 10) (v := .ref ob_world) (C := RX10) (T := TX10) (N := 41) hx hb hw0 inA_wsX100 hown hK.1 hP 0 rfl rfl 1 (by decide) (hw0 _ m_352) (fun _ h9 => h9) rfl dX10_drops_48 ?_
    refine lv_bipush (v := 7) hx hb dX10_drops_51 (by decide) ?_
    refine lv_dup2_11 hx hb dX10_drops_53 rfl rfl ?_
    refine va_iald hx hb hK.1 hP 1 1 rfl rfl (vi (bkc (x := 7) (c := 7) (by decide)) (by decide)) dX10_drops_54 ?_
    refine lv_topi (fun v_1052 ev_1052 => ?_)
    obtain rfl : v_1048 = v_1052 := (ev_1052.trans (ev_1048.symm)).symm
    refine lv_iconst (v := 1) hx hb dX10_drops_55 (by decide) ?_
    refine lv_isub hx hb dX10_drops_56 ?_
    refine lv_topi (fun v_1053 ev_1053 => ?_)
    obtain rfl : v_1049 = v_1053 := (ev_1053.trans (ev_1049.symm)).symm
    have h_1054 : (0 : Int) ≤ v_1049.toInt ∧ v_1049.toInt ≤ 599 := by omega
    refine va_iast hx hb hK.1 hP hD hS 1 1 rfl rfl (vi (bkc (x := 7) (c := 7) (by decide)) (by decide)) dX10_drops_57 (fun H locs hP hD hS => ?_)
    generalize hf_1055 : (upd f_1037 (7 : Int32).toNatClampNeg v_1049) = f_1055 at hP hD
    have zf_1055_7 : (f_1055 7).toInt = (v_1049 : Int32).toInt := hf_1055 ▸ pin_eq (by decide)
    have zf_1055_8 : (f_1055 8).toInt = (f_1037 8).toInt := hf_1055 ▸ pin_ne (ix_not (bkc (x := 7) (c := 7) (by decide)) (by decide))
    have bf_1055 : RBw f_1055 := hf_1055 ▸ upk (bf_1037).1.1 h_1054 (by decide)
    have cf_1055 : RVw f_1055 := ⟨bf_1055, by have h97 : (f_1037 7).toInt ≤ (f_1037 8).toInt := ((bf_1037).1).2; unfold W7; omega⟩
    have df_1055 : RWw f_1055 := ⟨cf_1055, hf_1055 ▸ WQ_up (bf_1037).1.1 (bf_1037).2 (qf_ix (bkc (x := 7) (c := 7) (by decide)) (by decide))⟩
    obtain ⟨hP, hD⟩ : vPD G A H [(ce_X10 ob ob_thrown ob_world ob_images ob_hasImage ob_tape ob_taped ob_five ob_size ob_at ob_from ob_token ob_value ob_faultKind ob_faultPlace ob_fresh ob_parts ob_houses ob_houseMany ob_worthOf ob_byCall ob_over ob_bestSet ob_bestOver ob_bestWorth ob_row ob_tenDebts ob_tenMany ob_fewestBy ob_covered ob_queue ob_cameBy ob_parent ob_met ob_calls ob_callMany ob_calledOn ob_saved ob_many ob_width ob_numbers ob_moving), (ce_i9080 y ob_world f_1055)] := ⟨hP, hD⟩
    exact W.vret hx hb hr (fun t ht hW => ⟨⟨_, rfl, ⟨f_1055, df_1055, by omega, rfl⟩, by rw [ht]; exact hP, hD⟩, hS.F ht⟩) hS.2.2 dX10_drops_58
  · skip
    have nc_1051 := nb_nle (2994) (1) c_1051 bv_1036 bv_1050 (by decide)
    refine lv_aload_n hx hb dX10_drops_19 rfl (lv_at hl 1 rfl) ?_
    refine va_get (D := G) (ci := 10) (v := .ref ob_world) (C := RX10) (T := TX10) (N := 41) hx hb hw0 inA_wsX100 hown hK.1 hP 0 rfl rfl 1 (by decide) (hw0 _ m_352) (fun _ h9 => h9) rfl dX10_drops_20 ?_
    refine lv_sipush (v := 1880) hx hb dX10_drops_23 (by decide) ?_
    refine lv_iload_n hx hb dX10_drops_26 rfl (lv_at hl 0 rfl) ?_
    refine lv_iadd hx hb dX10_drops_27 ?_
    refine lv_topi (fun v_1056 ev_1056 => ?_)
    have qv_1056 := ba_add ev_1056 (bkc (x := 1880) (c := 1880) (by decide)) nc_1051.1 (by decide)
    have bv_1056 : (1880 : Int) ≤ v_1056.toInt ∧ v_1056.toInt ≤ 4874 := bq_add qv_1056 (bkc (x := 1880) (c := 1880) (by decide)) nc_1051.1 _ _ (by decide)
    have qv_1056 : v_1056.toInt = (1880) + v_1036.toInt := qv_1056
    refine lv_aload_n hx hb dX10_drops_28 rfl (lv_at hl 1 rfl) ?_
    refine va_get (D := G) (ci := 10) (v := .ref ob_world) (C := RX10) (T := TX10) (N := 41) hx hb hw0 inA_wsX100 hown hK.1 hP 0 rfl rfl 1 (by decide) (hw0 _ m_352) (fun _ h9 => h9) rfl dX10_drops_29 ?_
    refine lv_sipush (v := 1880) hx hb dX10_drops_32 (by decide) ?_
    refine lv_iload_n hx hb dX10_drops_35 rfl (lv_at hl 0 rfl) ?_
    refine lv_iadd hx hb dX10_drops_36 ?_
    refine lv_topi (fun v_1057 ev_1057 => ?_)
    obtain rfl : v_1056 = v_1057 := (ev_1057.trans (ev_1056.symm)).symm
    refine lv_iconst (v := 5) hx hb dX10_drops_37 (by decide) ?_
    refine lv_iadd hx hb dX10_drops_38 ?_
    refine lv_topi (fun v_1058 ev_1058 => ?_)
    have qv_1058 := ba_add ev_1058 bv_1056 (bkc (x := 5) (c := 5) (by decide)) (by decide)
    have bv_1058 : (1885 : Int) ≤ v_1058.toInt ∧ v_1058.toInt ≤ 4879 := bq_add qv_1058 bv_1056 (bkc (x := 5) (c := 5) (by decide)) _ _ (by decide)
    have qv_1058 : v_1058.toInt = v_1056.toInt + (5) := qv_1058
    refine va_iald hx hb hK.1 hP 1 1 rfl rfl (vi bv_1058 (by decide)) dX10_drops_39 ?_
    refine lv_topi (fun v_1059 ev_1059 => ?_)
    refine va_iast hx hb hK.1 hP hD hS 1 1 rfl rfl (vi bv_1056 (by decide)) dX10_drops_40 (fun H locs hP hD hS => ?_)
    generalize hf_1060 : (upd f_1037 (v_1056 : Int32).toNatClampNeg v_1059) = f_1060 at hP hD
    have zf_1060_7 : (f_1060 7).toInt = (f_1037 7).toInt := hf_1060 ▸ pin_ne (ix_not bv_1056 (by decide))
    have zf_1060_8 : (f_1060 8).toInt = (f_1037 8).toInt := hf_1060 ▸ pin_ne (ix_not bv_1056 (by decide))
    have bf_1060 : RBw f_1060 := hf_1060 ▸ up_5 (bf_1037).1.1 ev_1059 (by omega) bv_1056 (by decide)
    have cf_1060 : RVw f_1060 := hf_1060 ▸ RV_up (bf_1037).1 (hf_1060 ▸ bf_1060) (ix_out bv_1056 (by decide))
    have df_1060 : RWw f_1060 := ⟨cf_1060, hf_1060 ▸ WQ_up (bf_1037).1.1 (bf_1037).2 (qf_ix bv_1056 (by decide))⟩
    obtain ⟨hP, hD⟩ : vPD G A H [(ce_X10 ob ob_thrown ob_world ob_images ob_hasImage ob_tape ob_taped ob_five ob_size ob_at ob_from ob_token ob_value ob_faultKind ob_faultPlace ob_fresh ob_parts ob_houses ob_houseMany ob_worthOf ob_byCall ob_over ob_bestSet ob_bestOver ob_bestWorth ob_row ob_tenDebts ob_tenMany ob_fewestBy ob_covered ob_queue ob_cameBy ob_parent ob_met ob_calls ob_callMany ob_calledOn ob_saved ob_many ob_width ob_numbers ob_moving), (ce_i9080 y ob_world f_1060)] := ⟨hP, hD⟩
    obtain ⟨v_1061, ev_1061⟩ : ∃ z : Int32, z = v_1036 + 1 := ⟨_, rfl⟩
    have qv_1061 := ba_add ev_1061 nc_1051.1 (bkc (x := 1) (c := 1) (by decide)) (by decide)
    have bv_1061 : (1 : Int) ≤ v_1061.toInt ∧ v_1061.toInt ≤ 2995 := bq_add qv_1061 nc_1051.1 (bkc (x := 1) (c := 1) (by decide)) _ _ (by decide)
    have qv_1061 : v_1061.toInt = v_1036.toInt + (1) := qv_1061
    refine lv_iinc (v := v_1061) (lv' := [(2, .int v_1061), (0, .ref ob)]) hx hb dX10_drops_41 hl (k := 0) rfl (ev_1061.symm) (by decide) rfl (fun ls hl => ?_)
    refine lv_goto (tgt := 4) hx hb dX10_drops_44 (by decide) ?_
    exact ih_1047 _ (ml_inc (hi := 2995) hn_1047 qv_1061 (by decide) ((bw (0) (2995) bv_1061 (by decide))).2) _ _ _ _ ⟨v_1061, f_1060, rfl, (bw (0) (2995) bv_1061 (by decide)), df_1060, (by omega), rfl, ⟨hP, hD⟩, hS, lv_sub hl [0, 1] rfl⟩

set_option maxHeartbeats 4000000 in
set_option maxRecDepth 100000 in
theorem sX10_pays (l : Launch) (G : va_G) (y : Nat → ClassId) (sz : Nat) (ob : Nat) (a1 : Int32) (a2 : Int32) (a3 : Int32) (ob_thrown : Int32) (ob_world : Nat) (ob_images : Nat) (ob_hasImage : Nat) (ob_tape : Nat) (ob_taped : Int32) (ob_five : Nat) (ob_size : Int32) (ob_at : Int32) (ob_from : Int32) (ob_token : Int32) (ob_value : Int32) (ob_faultKind : Int32) (ob_faultPlace : Int32) (ob_fresh : Nat) (ob_parts : Nat) (ob_houses : Nat) (ob_houseMany : Int32) (ob_worthOf : Nat) (ob_byCall : Nat) (ob_over : Nat) (ob_bestSet : Int32) (ob_bestOver : Int32) (ob_bestWorth : Int32) (ob_row : Nat) (ob_tenDebts : Nat) (ob_tenMany : Int32) (ob_fewestBy : Nat) (ob_covered : Nat) (ob_queue : Nat) (ob_cameBy : Nat) (ob_parent : Nat) (ob_met : Nat) (ob_calls : Nat) (ob_callMany : Int32) (ob_calledOn : Nat) (ob_saved : Nat) (ob_many : Nat) (ob_width : Nat) (ob_numbers : Nat) (ob_moving : Nat) (fob_world : Nat → Int32) (p_fob_world : RWw fob_world) (p_ob_taped : (0 : Int) ≤ ob_taped.toInt ∧ ob_taped.toInt ≤ 1400) (p_ob_size : (0 : Int) ≤ ob_size.toInt ∧ ob_size.toInt ≤ 1400) (p_ob_at : (0 : Int) ≤ ob_at.toInt ∧ ob_at.toInt ≤ 1400) (p_ob_from : (0 : Int) ≤ ob_from.toInt ∧ ob_from.toInt ≤ 1400) (p_ob_token : (0 : Int) ≤ ob_token.toInt ∧ ob_token.toInt ≤ 4) (p_ob_value : (0 : Int) ≤ ob_value.toInt ∧ ob_value.toInt ≤ 9999) (p_ob_faultKind : (0 : Int) ≤ ob_faultKind.toInt ∧ ob_faultKind.toInt ≤ 3) (p_ob_houseMany : (0 : Int) ≤ ob_houseMany.toInt ∧ ob_houseMany.toInt ≤ 10) (p_ob_bestSet : (0 : Int) ≤ ob_bestSet.toInt ∧ ob_bestSet.toInt ≤ 1023) (p_ob_bestOver : (-1 : Int) ≤ ob_bestOver.toInt ∧ ob_bestOver.toInt ≤ 180) (p_ob_tenMany : (0 : Int) ≤ ob_tenMany.toInt ∧ ob_tenMany.toInt ≤ 10) (p_ob_callMany : (0 : Int) ≤ ob_callMany.toInt ∧ ob_callMany.toInt ≤ 16) : Met l yX10_pays (Cond.code yX10_pays cX10_pays 6 (some .int) :: wAll) ({ frames := 1, cells := 0, slots := 0, locals := 22 }) (va_Pc [.ref ob, .int a1, .int a2, .int a3] (kp G y sz [(ce_X10 ob ob_thrown ob_world ob_images ob_hasImage ob_tape ob_taped ob_five ob_size ob_at ob_from ob_token ob_value ob_faultKind ob_faultPlace ob_fresh ob_parts ob_houses ob_houseMany ob_worthOf ob_byCall ob_over ob_bestSet ob_bestOver ob_bestWorth ob_row ob_tenDebts ob_tenMany ob_fewestBy ob_covered ob_queue ob_cameBy ob_parent ob_met ob_calls ob_callMany ob_calledOn ob_saved ob_many ob_width ob_numbers ob_moving), (ce_i9080 y ob_world fob_world)])) (va_Qi (fun (r : Int32) (w : va_W) => (∃ (v_919 : Int32) (f_920 : Nat → Int32), (RWw f_920) ∧ ((f_920 7).toInt ≤ (fob_world 7).toInt ∧ (f_920 8).toInt = (fob_world 8).toInt) ∧ r = v_919 ∧ w = [(ce_X10 ob ob_thrown ob_world ob_images ob_hasImage ob_tape ob_taped ob_five ob_size ob_at ob_from ob_token ob_value ob_faultKind ob_faultPlace ob_fresh ob_parts ob_houses ob_houseMany ob_worthOf ob_byCall ob_over ob_bestSet ob_bestOver ob_bestWorth ob_row ob_tenDebts ob_tenMany ob_fewestBy ob_covered ob_queue ob_cameBy ob_parent ob_met ob_calls ob_callMany ob_calledOn ob_saved ob_many ob_width ob_numbers ob_moving), (ce_i9080 y ob_world f_920)])) (kq G (va_A [(ce_X10 ob ob_thrown ob_world ob_images ob_hasImage ob_tape ob_taped ob_five ob_size ob_at ob_from ob_token ob_value ob_faultKind ob_faultPlace ob_fresh ob_parts ob_houses ob_houseMany ob_worthOf ob_byCall ob_over ob_bestSet ob_bestOver ob_bestWorth ob_row ob_tenDebts ob_tenMany ob_fewestBy ob_covered ob_queue ob_cameBy ob_parent ob_met ob_calls ob_callMany ob_calledOn ob_saved ob_many ob_width ob_numbers ob_moving), (ce_i9080 y ob_world fob_world)] sz)) (va_A [(ce_X10 ob ob_thrown ob_world ob_images ob_hasImage ob_tape ob_taped ob_five ob_size ob_at ob_from ob_token ob_value ob_faultKind ob_faultPlace ob_fresh ob_parts ob_houses ob_houseMany ob_worthOf ob_byCall ob_over ob_bestSet ob_bestOver ob_bestWorth ob_row ob_tenDebts ob_tenMany ob_fewestBy ob_covered ob_queue ob_cameBy ob_parent ob_met ob_calls ob_callMany ob_calledOn ob_saved ob_many ob_width ob_numbers ob_moving), (ce_i9080 y ob_world fob_world)] sz)) 0 0 (va_A [(ce_X10 ob ob_thrown ob_world ob_images ob_hasImage ob_tape ob_taped ob_five ob_size ob_at ob_from ob_token ob_value ob_faultKind ob_faultPlace ob_fresh ob_parts ob_houses ob_houseMany ob_worthOf ob_byCall ob_over ob_bestSet ob_bestOver ob_bestWorth ob_row ob_tenDebts ob_tenMany ob_fewestBy ob_covered ob_queue ob_cameBy ob_parent ob_met ob_calls ob_callMany ob_calledOn ob_saved ob_many ob_width ob_numbers ob_moving), (ce_i9080 y ob_world fob_world)] sz) := by
  refine Met.ofW (cc := cX10_pays) (maxL := 6) (ret := (some .int)) (by decide) rfl ?_
  intro p e s m args below meth c s₁ B hml hv
  obtain ⟨rfl, hsz, hP, hK, hD0⟩ := hv
  have hx := B.exec
  have hb := B.bytes
  have hr := B.returns
  have hw0 : ∀ w ∈ wAll, w.before _ s = true := fun w h => atoms_spec (ws := Cond.code yX10_pays cX10_pays 6 (some .int) :: wAll) B.pre w (List.mem_cons_of_mem _ h)
  have hown : s.vm.findClass RX10 = some m.cls := findClass_of_methodNamed B.named
  subst hsz
  have hD := hD0.self (sz := s.heap.size)
  generalize hAe : va_A [(ce_X10 ob ob_thrown ob_world ob_images ob_hasImage ob_tape ob_taped ob_five ob_size ob_at ob_from ob_token ob_value ob_faultKind ob_faultPlace ob_fresh ob_parts ob_houses ob_houseMany ob_worthOf ob_byCall ob_over ob_bestSet ob_bestOver ob_bestWorth ob_row ob_tenDebts ob_tenMany ob_fewestBy ob_covered ob_queue ob_cameBy ob_parent ob_met ob_calls ob_callMany ob_calledOn ob_saved ob_many ob_width ob_numbers ob_moving), (ce_i9080 y ob_world fob_world)] s.heap.size = A at hD ⊢
  have hA : ∀ q : Nat, s.heap.size ≤ q → A q := fun q h => by rw [← hAe]; exact Or.inr h
  have hS : va_S A s.heap s.heap [] := va_S.rf
  have hP : va_P G vwCl [(ce_X10 ob ob_thrown ob_world ob_images ob_hasImage ob_tape ob_taped ob_five ob_size ob_at ob_from ob_token ob_value ob_faultKind ob_faultPlace ob_fresh ob_parts ob_houses ob_houseMany ob_worthOf ob_byCall ob_over ob_bestSet ob_bestOver ob_bestWorth ob_row ob_tenDebts ob_tenMany ob_fewestBy ob_covered ob_queue ob_cameBy ob_parent ob_met ob_calls ob_callMany ob_calledOn ob_saved ob_many ob_width ob_numbers ob_moving), (ce_i9080 y ob_world fob_world)] s.heap := hP
  have hl := lv_entry ([.ref ob, .int a1, .int a2, .int a3]) (n := 6) (Nat.le_of_ble_eq_true rfl)
  rw [lg_entry_eq]
  generalize (lg_sl ([.ref ob, .int a1, .int a2, .int a3]) ++ List.replicate (6 - (lg_sl ([.ref ob, .int a1, .int a2, .int a3])).length) Slot.unset).toArray = ls at hl ⊢
  have hl : lv_has ls 6 [(0, .ref ob), (1, .int a1), (2, .int a2), (3, .int a3)] := hl
  refine lv_iconst (v := 0) hx hb dX10_pays_0 (by decide) ?_
  refine lv_istore (lv' := [(4, .int 0), (0, .ref ob), (1, .int a1), (2, .int a2), (3, .int a3)]) hx hb dX10_pays_1 hl (by decide) rfl (fun ls hl => ?_)
  refine lv_aload_n hx hb dX10_pays_3 rfl (lv_at hl 1 rfl) ?_
  refine va_get (D := G) (ci := 10) (v := .ref ob_world) (C := RX10) (T := TX10) (N := 41) hx hb hw0 inA_wsX100 hown hK.1 hP 0 rfl rfl 1 (by decide) (hw0 _ m_352) (fun _ h9 => h9) rfl dX10_pays_4 ?_
  refine lv_bipush (v := 7) hx hb dX10_pays_7 (by decide) ?_
  refine va_iald hx hb hK.1 hP 1 1 rfl rfl (vi (bkc (x := 7) (c := 7) (by decide)) (by decide)) dX10_pays_9 ?_
  refine lv_topi (fun v_1001 ev_1001 => ?_)
  have bv_1001 : (0 : Int) ≤ v_1001.toInt ∧ v_1001.toInt ≤ 600 := rdk ev_1001 (p_fob_world).1.1 (by decide)
  have yv_1001 : v_1001.toInt = (fob_world 7).toInt := congrArg Int32.toInt ev_1001
  refine lv_iconst (v := 1) hx hb dX10_pays_10 (by decide) ?_
  refine lv_isub hx hb dX10_pays_11 ?_
  refine lv_topi (fun v_1002 ev_1002 => ?_)
  have qv_1002 := ba_sub ev_1002 bv_1001 (bkc (x := 1) (c := 1) (by decide)) (by decide)
  have bv_1002 : (-1 : Int) ≤ v_1002.toInt ∧ v_1002.toInt ≤ 599 := bq_sub qv_1002 bv_1001 (bkc (x := 1) (c := 1) (by decide)) _ _ (by decide)
  have qv_1002 : v_1002.toInt = v_1001.toInt - (1) := qv_1002
  refine lv_istore (lv' := [(5, .int v_1002), (4, .int 0), (0, .ref ob), (1, .int a1), (2, .int a2), (3, .int a3)]) hx hb dX10_pays_12 hl (by decide) rfl (fun ls hl => ?_)
  refine loopX (fun n H locs ls st => ∃ (v_1401 : Int32) (v_1402 : Int32) (f_1403 : Nat → Int32), (v_1401.toInt - (-1)).toNat = n ∧ ((-1 : Int) ≤ v_1401.toInt ∧ v_1401.toInt ≤ 599) ∧ (RWw f_1403) ∧ ((f_1403 7).toInt ≤ (fob_world 7).toInt ∧ (f_1403 8).toInt = (fob_world 8).toInt) ∧ (v_1401.toInt < (f_1403 7).toInt) ∧ st = [] ∧ vPD G A H [(ce_X10 ob ob_thrown ob_world ob_images ob_hasImage ob_tape ob_taped ob_five ob_size ob_at ob_from ob_token ob_value ob_faultKind ob_faultPlace ob_fresh ob_parts ob_houses ob_houseMany ob_worthOf ob_byCall ob_over ob_bestSet ob_bestOver ob_bestWorth ob_row ob_tenDebts ob_tenMany ob_fewestBy ob_covered ob_queue ob_cameBy ob_parent ob_met ob_calls ob_callMany ob_calledOn ob_saved ob_many ob_width ob_numbers ob_moving), (ce_i9080 y ob_world f_1403)] ∧ va_S A s.heap H locs ∧ lv_has ls 6 [(5, .int v_1401), (4, .int v_1402), (0, .ref ob), (1, .int a1), (2, .int a2), (3, .int a3)]) ?_ (n := (v_1002.toInt - (-1)).toNat) ⟨v_1002, 0, fob_world, rfl, bv_1002, p_fob_world, (by have h90 : Int32.toInt 0 = 0 := (by decide); omega), (by have h90 : Int32.toInt 0 = 0 := (by decide); omega), rfl, ⟨hP, hD⟩, hS, lv_sub hl [0, 1, 2, 3, 4, 5] rfl⟩
  rintro n ih_1431 H locs ls st ⟨v_1401, v_1402, f_1403, hn_1431, bv_1401, bf_1403, rl1403_0, rl1403_1, rfl, ⟨hP, hD⟩, hS, hl⟩
  refine lv_iload hx hb dX10_pays_14 (lv_at hl 0 rfl) ?_
  refine lv_if_lt (tgt := 70) hx hb dX10_pays_16 (by decide) (fun c_1432 => ?_) (fun c_1432 => ?_)
  · skip
    have nc_1432 := nb_lt (-1) (0) c_1432 bv_1401 (bkc (x := 0) (c := 0) (by decide)) (by decide)
    refine lv_iload hx hb dX10_pays_70 (lv_at hl 1 rfl) ?_
    exact W.iret (v := v_1402) hx hb hr (fun t ht hW => ⟨⟨v_1402, _, rfl, ⟨v_1402, f_1403, bf_1403, by omega, rfl, rfl⟩, by rw [ht]; exact hP, hD⟩, hS.F ht⟩) hS.2.2 dX10_pays_72
  · skip
    have nc_1432 := nb_nlt (0) (0) c_1432 (bkc (x := 0) (c := 0) (by decide)) bv_1401 (by decide)
    refine lv_aload_n hx hb dX10_pays_19 rfl (lv_at hl 2 rfl) ?_
    refine lv_iload hx hb dX10_pays_20 (lv_at hl 0 rfl) ?_
    refine lv_iconst (v := 0) hx hb dX10_pays_22 (by decide) ?_
    refine cVim (As := [.int v_1401, .int 0]) (rest := []) ⟨hx, hb, hml, hown, hw0⟩ hA hK hP hD hS [true, true] (sofDebt0 l G y _ ob v_1401 ob_thrown ob_world ob_images ob_hasImage ob_tape ob_taped ob_five ob_size ob_at ob_from ob_token ob_value ob_faultKind ob_faultPlace ob_fresh ob_parts ob_houses ob_houseMany ob_worthOf ob_byCall ob_over ob_bestSet ob_bestOver ob_bestWorth ob_row ob_tenDebts ob_tenMany ob_fewestBy ob_covered ob_queue ob_cameBy ob_parent ob_met ob_calls ob_callMany ob_calledOn ob_saved ob_many ob_width ob_numbers ob_moving f_1403 bf_1403 p_ob_taped p_ob_size p_ob_at p_ob_from p_ob_token p_ob_value p_ob_faultKind p_ob_houseMany p_ob_bestSet p_ob_bestOver p_ob_tenMany p_ob_callMany (bw (0) (959) nc_1432.2.1 (by decide))) rfl ⟨(callB_of 2 hw0 (gA m_576) rfl rfl rfl (hw0 _ m_41) (hw0 _ m_402) cb_X10_ofDebt ⟨Nat.le_of_ble_eq_true rfl, Nat.le_of_ble_eq_true rfl⟩), (hw0 _ m_403), (hw0 _ m_404)⟩ (ci := 10) (q := (RX10, TX10, 41)) rfl rfl rfl hl.1 (Nat.le_of_ble_eq_true rfl) dX10_pays_23 ⟨Nat.le_of_ble_eq_true rfl, Nat.le_of_ble_eq_true rfl⟩ (fun r_1433 w_1433 H locs hw_1433 hP hD hS => ?_)
    obtain ⟨v_1434, bv_1434, er_1433, rfl⟩ := hw_1433
    subst r_1433
    obtain ⟨hP, hD⟩ : vPD G A H [(ce_X10 ob ob_thrown ob_world ob_images ob_hasImage ob_tape ob_taped ob_five ob_size ob_at ob_from ob_token ob_value ob_faultKind ob_faultPlace ob_fresh ob_parts ob_houses ob_houseMany ob_worthOf ob_byCall ob_over ob_bestSet ob_bestOver ob_bestWorth ob_row ob_tenDebts ob_tenMany ob_fewestBy ob_covered ob_queue ob_cameBy ob_parent ob_met ob_calls ob_callMany ob_calledOn ob_saved ob_many ob_width ob_numbers ob_moving), (ce_i9080 y ob_world f_1403)] := ⟨hP, hD⟩
    refine lv_iload_n hx hb dX10_pays_26 rfl (lv_at hl 3 rfl) ?_
    refine cutW 64 (fun H locs ls st => ∃ (v_1446 : Int32) (f_1447 : Nat → Int32), (RWw f_1447) ∧ ((f_1447 7).toInt ≤ (fob_world 7).toInt ∧ (f_1447 8).toInt = (fob_world 8).toInt) ∧ (v_1401.toInt ≤ (f_1447 7).toInt) ∧ st = [] ∧ vPD G A H [(ce_X10 ob ob_thrown ob_world ob_images ob_hasImage ob_tape ob_taped ob_five ob_size ob_at ob_from ob_token ob_value ob_faultKind ob_faultPlace ob_fresh ob_parts ob_houses ob_houseMany ob_worthOf ob_byCall ob_over ob_bestSet ob_bestOver ob_bestWorth ob_row ob_tenDebts ob_tenMany ob_fewestBy ob_covered ob_queue ob_cameBy ob_parent ob_met ob_calls ob_callMany ob_calledOn ob_saved ob_many ob_width ob_numbers ob_moving), (ce_i9080 y ob_world f_1447)] ∧ va_S A s.heap H locs ∧ lv_has ls 6 [(5, .int v_1401), (4, .int v_1446), (0, .ref ob), (1, .int a1), (2, .int a2), (3, .int a3)]) ?_ (fun J_64_1447 => ?_)
    · rintro H locs ls st ⟨v_1446, f_1447, bf_1447, rl1447_0, rl1447_1, rfl, ⟨hP, hD⟩, hS, hl⟩
      obtain ⟨v_1448, ev_1448⟩ : ∃ z : Int32, z = v_1401 + (-1) := ⟨_, rfl⟩
      have qv_1448 := ba_add ev_1448 nc_1432.2.1 (bkc (x := (-1)) (c := -1) (by decide)) (by decide)
      have bv_1448 : (-1 : Int) ≤ v_1448.toInt ∧ v_1448.toInt ≤ 598 := bq_add qv_1448 nc_1432.2.1 (bkc (x := (-1)) (c := -1) (by decide)) _ _ (by decide)
      have qv_1448 : v_1448.toInt = v_1401.toInt + (-1) := qv_1448
      refine lv_iinc (v := v_1448) (lv' := [(5, .int v_1448), (4, .int v_1446), (0, .ref ob), (1, .int a1), (2, .int a2), (3, .int a3)]) hx hb dX10_pays_64 hl (k := 0) rfl (ev_1448.symm) (by decide) rfl (fun ls hl => ?_)
      refine lv_goto (tgt := 14) hx hb dX10_pays_67 (by decide) ?_
      exact ih_1431 _ (ml_dec (lo := -1) hn_1431 qv_1448 (by decide) ((bw (-1) (599) bv_1448 (by decide))).1) _ _ _ _ ⟨v_1448, v_1446, f_1447, rfl, (bw (-1) (599) bv_1448 (by decide)), bf_1447, (by omega), (by omega), rfl, ⟨hP, hD⟩, hS, lv_sub hl [0, 1, 2, 3, 4, 5] rfl⟩
    · skip
      refine lv_icmp_ne (tgt := 64) hx hb dX10_pays_27 (by decide) (fun c_1449 => ?_) (fun c_1449 => ?_)
      · skip
        exact J_64_1447 _ _ _ _ ⟨v_1402, f_1403, bf_1403, (by omega), (by omega), rfl, ⟨hP, hD⟩, hS, lv_sub hl [0, 1, 2, 3, 4, 5] rfl⟩
      · skip
        have nc_1449 := nb_eq (0) (15) c_1449 bv_1434 (btop a1) (by decide)
        refine lv_aload_n hx hb dX10_pays_30 rfl (lv_at hl 2 rfl) ?_
        refine lv_iload hx hb dX10_pays_31 (lv_at hl 0 rfl) ?_
        refine lv_iconst (v := 1) hx hb dX10_pays_33 (by decide) ?_
        refine cVim (As := [.int v_1401, .int 1]) (rest := []) ⟨hx, hb, hml, hown, hw0⟩ hA hK hP hD hS [true, true] (sofDebt1 l G y _ ob v_1401 ob_thrown ob_world ob_images ob_hasImage ob_tape ob_taped ob_five ob_size ob_at ob_from ob_token ob_value ob_faultKind ob_faultPlace ob_fresh ob_parts ob_houses ob_houseMany ob_worthOf ob_byCall ob_over ob_bestSet ob_bestOver ob_bestWorth ob_row ob_tenDebts ob_tenMany ob_fewestBy ob_covered ob_queue ob_cameBy ob_parent ob_met ob_calls ob_callMany ob_calledOn ob_saved ob_many ob_width ob_numbers ob_moving f_1403 bf_1403 p_ob_taped p_ob_size p_ob_at p_ob_from p_ob_token p_ob_value p_ob_faultKind p_ob_houseMany p_ob_bestSet p_ob_bestOver p_ob_tenMany p_ob_callMany (bw (0) (959) nc_1432.2.1 (by decide))) rfl ⟨(callB_of 2 hw0 (gA m_576) rfl rfl rfl (hw0 _ m_41) (hw0 _ m_402) cb_X10_ofDebt ⟨Nat.le_of_ble_eq_true rfl, Nat.le_of_ble_eq_true rfl⟩), (hw0 _ m_403), (hw0 _ m_404)⟩ (ci := 10) (q := (RX10, TX10, 41)) rfl rfl rfl hl.1 (Nat.le_of_ble_eq_true rfl) dX10_pays_34 ⟨Nat.le_of_ble_eq_true rfl, Nat.le_of_ble_eq_true rfl⟩ (fun r_1450 w_1450 H locs hw_1450 hP hD hS => ?_)
        obtain ⟨v_1451, bv_1451, er_1450, rfl⟩ := hw_1450
        subst r_1450
        obtain ⟨hP, hD⟩ : vPD G A H [(ce_X10 ob ob_thrown ob_world ob_images ob_hasImage ob_tape ob_taped ob_five ob_size ob_at ob_from ob_token ob_value ob_faultKind ob_faultPlace ob_fresh ob_parts ob_houses ob_houseMany ob_worthOf ob_byCall ob_over ob_bestSet ob_bestOver ob_bestWorth ob_row ob_tenDebts ob_tenMany ob_fewestBy ob_covered ob_queue ob_cameBy ob_parent ob_met ob_calls ob_callMany ob_calledOn ob_saved ob_many ob_width ob_numbers ob_moving), (ce_i9080 y ob_world f_1403)] := ⟨hP, hD⟩
        refine lv_iload_n hx hb dX10_pays_37 rfl (lv_at hl 4 rfl) ?_
        refine lv_icmp_ne (tgt := 64) hx hb dX10_pays_38 (by decide) (fun c_1452 => ?_) (fun c_1452 => ?_)
        · skip
          exact J_64_1447 _ _ _ _ ⟨v_1402, f_1403, bf_1403, (by omega), (by omega), rfl, ⟨hP, hD⟩, hS, lv_sub hl [0, 1, 2, 3, 4, 5] rfl⟩
        · skip
          have nc_1452 := nb_eq (0) (15) c_1452 bv_1451 (btop a2) (by decide)
          refine lv_aload_n hx hb dX10_pays_41 rfl (lv_at hl 2 rfl) ?_
          refine lv_iload hx hb dX10_pays_42 (lv_at hl 0 rfl) ?_
          refine lv_iconst (v := 2) hx hb dX10_pays_44 (by decide) ?_
          refine cVim (As := [.int v_1401, .int 2]) (rest := []) ⟨hx, hb, hml, hown, hw0⟩ hA hK hP hD hS [true, true] (sofDebt2 l G y _ ob v_1401 ob_thrown ob_world ob_images ob_hasImage ob_tape ob_taped ob_five ob_size ob_at ob_from ob_token ob_value ob_faultKind ob_faultPlace ob_fresh ob_parts ob_houses ob_houseMany ob_worthOf ob_byCall ob_over ob_bestSet ob_bestOver ob_bestWorth ob_row ob_tenDebts ob_tenMany ob_fewestBy ob_covered ob_queue ob_cameBy ob_parent ob_met ob_calls ob_callMany ob_calledOn ob_saved ob_many ob_width ob_numbers ob_moving f_1403 bf_1403 p_ob_taped p_ob_size p_ob_at p_ob_from p_ob_token p_ob_value p_ob_faultKind p_ob_houseMany p_ob_bestSet p_ob_bestOver p_ob_tenMany p_ob_callMany (bw (0) (959) nc_1432.2.1 (by decide))) rfl ⟨(callB_of 2 hw0 (gA m_576) rfl rfl rfl (hw0 _ m_41) (hw0 _ m_402) cb_X10_ofDebt ⟨Nat.le_of_ble_eq_true rfl, Nat.le_of_ble_eq_true rfl⟩), (hw0 _ m_403), (hw0 _ m_404)⟩ (ci := 10) (q := (RX10, TX10, 41)) rfl rfl rfl hl.1 (Nat.le_of_ble_eq_true rfl) dX10_pays_45 ⟨Nat.le_of_ble_eq_true rfl, Nat.le_of_ble_eq_true rfl⟩ (fun r_1453 w_1453 H locs hw_1453 hP hD hS => ?_)
          obtain ⟨v_1454, er_1453, rfl⟩ := hw_1453
          subst r_1453
          obtain ⟨hP, hD⟩ : vPD G A H [(ce_X10 ob ob_thrown ob_world ob_images ob_hasImage ob_tape ob_taped ob_five ob_size ob_at ob_from ob_token ob_value ob_faultKind ob_faultPlace ob_fresh ob_parts ob_houses ob_houseMany ob_worthOf ob_byCall ob_over ob_bestSet ob_bestOver ob_bestWorth ob_row ob_tenDebts ob_tenMany ob_fewestBy ob_covered ob_queue ob_cameBy ob_parent ob_met ob_calls ob_callMany ob_calledOn ob_saved ob_many ob_width ob_numbers ob_moving), (ce_i9080 y ob_world f_1403)] := ⟨hP, hD⟩
          refine lv_iload_n hx hb dX10_pays_48 rfl (lv_at hl 5 rfl) ?_
          refine lv_icmp_le (tgt := 55) hx hb dX10_pays_49 (by decide) (fun c_1455 => ?_) (fun c_1455 => ?_)
          · skip
            have nc_1455 := nb_le (2147483647) (-2147483648) c_1455 (btop v_1454) (btop a3) (by decide)
            refine lv_aload_n hx hb dX10_pays_55 rfl (lv_at hl 2 rfl) ?_
            refine lv_iload hx hb dX10_pays_56 (lv_at hl 0 rfl) ?_
            refine cVvm (As := [.int v_1401]) (rest := []) ⟨hx, hb, hml, hown, hw0⟩ hA hK hP hD hS [true, true] (sX10_drops l G y _ ob v_1401 ob_thrown ob_world ob_images ob_hasImage ob_tape ob_taped ob_five ob_size ob_at ob_from ob_token ob_value ob_faultKind ob_faultPlace ob_fresh ob_parts ob_houses ob_houseMany ob_worthOf ob_byCall ob_over ob_bestSet ob_bestOver ob_bestWorth ob_row ob_tenDebts ob_tenMany ob_fewestBy ob_covered ob_queue ob_cameBy ob_parent ob_met ob_calls ob_callMany ob_calledOn ob_saved ob_many ob_width ob_numbers ob_moving f_1403 bf_1403 p_ob_taped p_ob_size p_ob_at p_ob_from p_ob_token p_ob_value p_ob_faultKind p_ob_houseMany p_ob_bestSet p_ob_bestOver p_ob_tenMany p_ob_callMany nc_1432.2.1 (by omega)) rfl ⟨(callB_of 1 hw0 (gA m_450) rfl rfl rfl (hw0 _ m_41) (hw0 _ m_596) cb_X10_drops ⟨Nat.le_of_ble_eq_true rfl, Nat.le_of_ble_eq_true rfl⟩), (hw0 _ m_597), (hw0 _ m_598)⟩ (ci := 10) (q := (RX10, TX10, 41)) rfl rfl rfl hl.1 (Nat.le_of_ble_eq_true rfl) dX10_pays_58 ⟨Nat.le_of_ble_eq_true rfl, Nat.le_of_ble_eq_true rfl⟩ (fun w_1456 H locs hw_1456 hP hD hS => ?_)
            obtain ⟨f_1457, bf_1457, h_1458, rfl⟩ := hw_1456
            obtain ⟨hP, hD⟩ : vPD G A H [(ce_X10 ob ob_thrown ob_world ob_images ob_hasImage ob_tape ob_taped ob_five ob_size ob_at ob_from ob_token ob_value ob_faultKind ob_faultPlace ob_fresh ob_parts ob_houses ob_houseMany ob_worthOf ob_byCall ob_over ob_bestSet ob_bestOver ob_bestWorth ob_row ob_tenDebts ob_tenMany ob_fewestBy ob_covered ob_queue ob_cameBy ob_parent ob_met ob_calls ob_callMany ob_calledOn ob_saved ob_many ob_width ob_numbers ob_moving), (ce_i9080 y ob_world f_1457)] := ⟨hP, hD⟩
            obtain ⟨v_1459, ev_1459⟩ : ∃ z : Int32, z = v_1402 + 1 := ⟨_, rfl⟩
            refine lv_iinc (v := v_1459) (lv' := [(4, .int v_1459), (5, .int v_1401), (0, .ref ob), (1, .int a1), (2, .int a2), (3, .int a3)]) hx hb dX10_pays_61 hl (k := 1) rfl (ev_1459.symm) (by decide) rfl (fun ls hl => ?_)
            exact J_64_1447 _ _ _ _ ⟨v_1459, f_1457, bf_1457, (by omega), (by omega), rfl, ⟨hP, hD⟩, hS, lv_sub hl [1, 0, 2, 3, 4, 5] rfl⟩
          · skip
            have nc_1455 := nb_nle (2147483646) (-2147483647) c_1455 (btop a3) (btop v_1454) (by decide)
            refine lv_goto (tgt := 64) hx hb dX10_pays_52 (by decide) ?_
            exact J_64_1447 _ _ _ _ ⟨v_1402, f_1403, bf_1403, (by omega), (by omega), rfl, ⟨hP, hD⟩, hS, lv_sub hl [0, 1, 2, 3, 4, 5] rfl⟩

set_option maxHeartbeats 4000000 in
set_option maxRecDepth 100000 in
theorem sX10_partOf (l : Launch) (G : va_G) (y : Nat → ClassId) (sz : Nat) (ob : Nat) (a1 : Int32) (ob_thrown : Int32) (ob_world : Nat) (ob_images : Nat) (ob_hasImage : Nat) (ob_tape : Nat) (ob_taped : Int32) (ob_five : Nat) (ob_size : Int32) (ob_at : Int32) (ob_from : Int32) (ob_token : Int32) (ob_value : Int32) (ob_faultKind : Int32) (ob_faultPlace : Int32) (ob_fresh : Nat) (ob_parts : Nat) (ob_houses : Nat) (ob_houseMany : Int32) (ob_worthOf : Nat) (ob_byCall : Nat) (ob_over : Nat) (ob_bestSet : Int32) (ob_bestOver : Int32) (ob_bestWorth : Int32) (ob_row : Nat) (ob_tenDebts : Nat) (ob_tenMany : Int32) (ob_fewestBy : Nat) (ob_covered : Nat) (ob_queue : Nat) (ob_cameBy : Nat) (ob_parent : Nat) (ob_met : Nat) (ob_calls : Nat) (ob_callMany : Int32) (ob_calledOn : Nat) (ob_saved : Nat) (ob_many : Nat) (ob_width : Nat) (ob_numbers : Nat) (ob_moving : Nat) (fob_world : Nat → Int32) (fob_parts : Nat → Int32) (p_fob_world : RWw fob_world) (p_ob_taped : (0 : Int) ≤ ob_taped.toInt ∧ ob_taped.toInt ≤ 1400) (p_ob_size : (0 : Int) ≤ ob_size.toInt ∧ ob_size.toInt ≤ 1400) (p_ob_at : (0 : Int) ≤ ob_at.toInt ∧ ob_at.toInt ≤ 1400) (p_ob_from : (0 : Int) ≤ ob_from.toInt ∧ ob_from.toInt ≤ 1400) (p_ob_token : (0 : Int) ≤ ob_token.toInt ∧ ob_token.toInt ≤ 4) (p_ob_value : (0 : Int) ≤ ob_value.toInt ∧ ob_value.toInt ≤ 9999) (p_ob_faultKind : (0 : Int) ≤ ob_faultKind.toInt ∧ ob_faultKind.toInt ≤ 3) (p_ob_houseMany : (0 : Int) ≤ ob_houseMany.toInt ∧ ob_houseMany.toInt ≤ 10) (p_ob_bestSet : (0 : Int) ≤ ob_bestSet.toInt ∧ ob_bestSet.toInt ≤ 1023) (p_ob_bestOver : (-1 : Int) ≤ ob_bestOver.toInt ∧ ob_bestOver.toInt ≤ 180) (p_ob_tenMany : (0 : Int) ≤ ob_tenMany.toInt ∧ ob_tenMany.toInt ≤ 10) (p_ob_callMany : (0 : Int) ≤ ob_callMany.toInt ∧ ob_callMany.toInt ≤ 16) (p_a1 : (0 : Int) ≤ a1.toInt ∧ a1.toInt ≤ 349) : Met l yX10_partOf (Cond.code yX10_partOf cX10_partOf 3 (some .long) :: wAll) ({ frames := 0, cells := 0, slots := 0, locals := 0 }) (va_Pc [.ref ob, .int a1] (kp G y sz [(ce_X10 ob ob_thrown ob_world ob_images ob_hasImage ob_tape ob_taped ob_five ob_size ob_at ob_from ob_token ob_value ob_faultKind ob_faultPlace ob_fresh ob_parts ob_houses ob_houseMany ob_worthOf ob_byCall ob_over ob_bestSet ob_bestOver ob_bestWorth ob_row ob_tenDebts ob_tenMany ob_fewestBy ob_covered ob_queue ob_cameBy ob_parent ob_met ob_calls ob_callMany ob_calledOn ob_saved ob_many ob_width ob_numbers ob_moving), (ce_i9080 y ob_world fob_world), (ce_i6 y ob_parts fob_parts)])) (va_Ql (fun (r : Int64) (w : va_W) => (∃ (v_21 : Int64), r = v_21 ∧ w = [(ce_X10 ob ob_thrown ob_world ob_images ob_hasImage ob_tape ob_taped ob_five ob_size ob_at ob_from ob_token ob_value ob_faultKind ob_faultPlace ob_fresh ob_parts ob_houses ob_houseMany ob_worthOf ob_byCall ob_over ob_bestSet ob_bestOver ob_bestWorth ob_row ob_tenDebts ob_tenMany ob_fewestBy ob_covered ob_queue ob_cameBy ob_parent ob_met ob_calls ob_callMany ob_calledOn ob_saved ob_many ob_width ob_numbers ob_moving), (ce_i9080 y ob_world fob_world), (ce_i6 y ob_parts fob_parts)])) (kq G (va_A [(ce_X10 ob ob_thrown ob_world ob_images ob_hasImage ob_tape ob_taped ob_five ob_size ob_at ob_from ob_token ob_value ob_faultKind ob_faultPlace ob_fresh ob_parts ob_houses ob_houseMany ob_worthOf ob_byCall ob_over ob_bestSet ob_bestOver ob_bestWorth ob_row ob_tenDebts ob_tenMany ob_fewestBy ob_covered ob_queue ob_cameBy ob_parent ob_met ob_calls ob_callMany ob_calledOn ob_saved ob_many ob_width ob_numbers ob_moving), (ce_i9080 y ob_world fob_world), (ce_i6 y ob_parts fob_parts)] sz)) (va_A [(ce_X10 ob ob_thrown ob_world ob_images ob_hasImage ob_tape ob_taped ob_five ob_size ob_at ob_from ob_token ob_value ob_faultKind ob_faultPlace ob_fresh ob_parts ob_houses ob_houseMany ob_worthOf ob_byCall ob_over ob_bestSet ob_bestOver ob_bestWorth ob_row ob_tenDebts ob_tenMany ob_fewestBy ob_covered ob_queue ob_cameBy ob_parent ob_met ob_calls ob_callMany ob_calledOn ob_saved ob_many ob_width ob_numbers ob_moving), (ce_i9080 y ob_world fob_world), (ce_i6 y ob_parts fob_parts)] sz)) 0 0 (va_A [(ce_X10 ob ob_thrown ob_world ob_images ob_hasImage ob_tape ob_taped ob_five ob_size ob_at ob_from ob_token ob_value ob_faultKind ob_faultPlace ob_fresh ob_parts ob_houses ob_houseMany ob_worthOf ob_byCall ob_over ob_bestSet ob_bestOver ob_bestWorth ob_row ob_tenDebts ob_tenMany ob_fewestBy ob_covered ob_queue ob_cameBy ob_parent ob_met ob_calls ob_callMany ob_calledOn ob_saved ob_many ob_width ob_numbers ob_moving), (ce_i9080 y ob_world fob_world), (ce_i6 y ob_parts fob_parts)] sz) := by
  refine Met.ofW (cc := cX10_partOf) (maxL := 3) (ret := (some .long)) (by decide) rfl ?_
  intro p e s m args below meth c s₁ B hml hv
  obtain ⟨rfl, hsz, hP, hK, hD0⟩ := hv
  have hx := B.exec
  have hb := B.bytes
  have hr := B.returns
  have hw0 : ∀ w ∈ wAll, w.before _ s = true := fun w h => atoms_spec (ws := Cond.code yX10_partOf cX10_partOf 3 (some .long) :: wAll) B.pre w (List.mem_cons_of_mem _ h)
  have hown : s.vm.findClass RX10 = some m.cls := findClass_of_methodNamed B.named
  subst hsz
  have hD := hD0.self (sz := s.heap.size)
  generalize hAe : va_A [(ce_X10 ob ob_thrown ob_world ob_images ob_hasImage ob_tape ob_taped ob_five ob_size ob_at ob_from ob_token ob_value ob_faultKind ob_faultPlace ob_fresh ob_parts ob_houses ob_houseMany ob_worthOf ob_byCall ob_over ob_bestSet ob_bestOver ob_bestWorth ob_row ob_tenDebts ob_tenMany ob_fewestBy ob_covered ob_queue ob_cameBy ob_parent ob_met ob_calls ob_callMany ob_calledOn ob_saved ob_many ob_width ob_numbers ob_moving), (ce_i9080 y ob_world fob_world), (ce_i6 y ob_parts fob_parts)] s.heap.size = A at hD ⊢
  have hA : ∀ q : Nat, s.heap.size ≤ q → A q := fun q h => by rw [← hAe]; exact Or.inr h
  have hS : va_S A s.heap s.heap [] := va_S.rf
  have hP : va_P G vwCl [(ce_X10 ob ob_thrown ob_world ob_images ob_hasImage ob_tape ob_taped ob_five ob_size ob_at ob_from ob_token ob_value ob_faultKind ob_faultPlace ob_fresh ob_parts ob_houses ob_houseMany ob_worthOf ob_byCall ob_over ob_bestSet ob_bestOver ob_bestWorth ob_row ob_tenDebts ob_tenMany ob_fewestBy ob_covered ob_queue ob_cameBy ob_parent ob_met ob_calls ob_callMany ob_calledOn ob_saved ob_many ob_width ob_numbers ob_moving), (ce_i9080 y ob_world fob_world), (ce_i6 y ob_parts fob_parts)] s.heap := hP
  have hl := lv_entry ([.ref ob, .int a1]) (n := 3) (Nat.le_of_ble_eq_true rfl)
  rw [lg_entry_eq]
  generalize (lg_sl ([.ref ob, .int a1]) ++ List.replicate (3 - (lg_sl ([.ref ob, .int a1])).length) Slot.unset).toArray = ls at hl ⊢
  have hl : lv_has ls 3 [(0, .ref ob), (1, .int a1)] := hl
  refine lv_aload_n hx hb dX10_partOf_0 rfl (lv_at hl 0 rfl) ?_
  refine va_get (D := G) (ci := 10) (v := .ref ob_world) (C := RX10) (T := TX10) (N := 41) hx hb hw0 inA_wsX100 hown hK.1 hP 0 rfl rfl 1 (by decide) (hw0 _ m_352) (fun _ h9 => h9) rfl dX10_partOf_1 ?_
  refine lv_sipush (v := 814) hx hb dX10_partOf_4 (by decide) ?_
  refine lv_iconst (v := 3) hx hb dX10_partOf_7 (by decide) ?_
  refine lv_iload_n hx hb dX10_partOf_8 rfl (lv_at hl 1 rfl) ?_
  refine lv_imul hx hb dX10_partOf_9 ?_
  refine lv_topi (fun v_1001 ev_1001 => ?_)
  have qv_1001 := ba_mul 3 (ev_1001.trans (Int32.mul_comm _ _)) p_a1 (by decide) (by decide) (by decide)
  have bv_1001 : (0 : Int) ≤ v_1001.toInt ∧ v_1001.toInt ≤ 1047 := qv_1001.2
  refine lv_iadd hx hb dX10_partOf_10 ?_
  refine lv_topi (fun v_1002 ev_1002 => ?_)
  have qv_1002 := ba_add ev_1002 (bkc (x := 814) (c := 814) (by decide)) bv_1001 (by decide)
  have bv_1002 : (814 : Int) ≤ v_1002.toInt ∧ v_1002.toInt ≤ 1861 := bq_add qv_1002 (bkc (x := 814) (c := 814) (by decide)) bv_1001 _ _ (by decide)
  have qv_1002 : v_1002.toInt = (814) + v_1001.toInt := qv_1002
  refine lv_iconst (v := 1) hx hb dX10_partOf_11 (by decide) ?_
  refine lv_iadd hx hb dX10_partOf_12 ?_
  refine lv_topi (fun v_1003 ev_1003 => ?_)
  have qv_1003 := ba_add ev_1003 bv_1002 (bkc (x := 1) (c := 1) (by decide)) (by decide)
  have bv_1003 : (815 : Int) ≤ v_1003.toInt ∧ v_1003.toInt ≤ 1862 := bq_add qv_1003 bv_1002 (bkc (x := 1) (c := 1) (by decide)) _ _ (by decide)
  have qv_1003 : v_1003.toInt = v_1002.toInt + (1) := qv_1003
  refine va_iald hx hb hK.1 hP 1 1 rfl rfl (vi bv_1003 (by decide)) dX10_partOf_13 ?_
  refine lv_topi (fun v_1004 ev_1004 => ?_)
  have bv_1004 : (0 : Int) ≤ v_1004.toInt ∧ v_1004.toInt ≤ 5 := rdw ev_1004 (p_fob_world).1.1 pl_12 (by omega) (p_a1)
  refine lv_istore_n (lv' := [(2, .int v_1004), (0, .ref ob), (1, .int a1)]) hx hb dX10_partOf_14 rfl hl (by decide) rfl (fun ls hl => ?_)
  refine lv_iload_n hx hb dX10_partOf_15 rfl (lv_at hl 0 rfl) ?_
  refine lv_iconst (v := 5) hx hb dX10_partOf_16 (by decide) ?_
  refine lv_icmp_ne (tgt := 38) hx hb dX10_partOf_17 (by decide) (fun c_1005 => ?_) (fun c_1005 => ?_)
  · skip
    have nc_1005 := nb_ne (0) (4) c_1005 bv_1004 (k := 5) (by decide) (by decide)
    refine lv_aload_n hx hb dX10_partOf_38 rfl (lv_at hl 1 rfl) ?_
    refine va_get (D := G) (ci := 10) (v := .ref ob_parts) (C := RX10) (T := TX10) (N := 41) hx hb hw0 inA_wsX100 hown hK.1 hP 0 rfl rfl 15 (by decide) (hw0 _ m_522) (fun _ h9 => h9) rfl dX10_partOf_39 ?_
    refine lv_iload_n hx hb dX10_partOf_42 rfl (lv_at hl 0 rfl) ?_
    refine va_iald hx hb hK.1 hP 2 1 rfl rfl (vi nc_1005.1 (by decide)) dX10_partOf_43 ?_
    refine lv_topi (fun v_1006 ev_1006 => ?_)
    refine lv_i2l hx hb dX10_partOf_44 rfl ?_
    exact W.lret (v := (v_1006).toInt64) hx hb hr (fun t ht hW => ⟨⟨(v_1006).toInt64, _, rfl, ⟨((v_1006).toInt64), rfl, rfl⟩, by rw [ht]; exact hP, hD⟩, hS.F ht⟩) hS.2.2 dX10_partOf_45
  · skip
    have nc_1005 := nb_eq (5) (5) c_1005 bv_1004 (bkc (x := 5) (c := 5) (by decide)) (by decide)
    refine lv_aload_n hx hb dX10_partOf_20 rfl (lv_at hl 1 rfl) ?_
    refine va_get (D := G) (ci := 10) (v := .ref ob_world) (C := RX10) (T := TX10) (N := 41) hx hb hw0 inA_wsX100 hown hK.1 hP 0 rfl rfl 1 (by decide) (hw0 _ m_352) (fun _ h9 => h9) rfl dX10_partOf_21 ?_
    refine lv_sipush (v := 814) hx hb dX10_partOf_24 (by decide) ?_
    refine lv_iconst (v := 3) hx hb dX10_partOf_27 (by decide) ?_
    refine lv_iload_n hx hb dX10_partOf_28 rfl (lv_at hl 2 rfl) ?_
    refine lv_imul hx hb dX10_partOf_29 ?_
    refine lv_topi (fun v_1007 ev_1007 => ?_)
    obtain rfl : v_1001 = v_1007 := (ev_1007.trans (ev_1001.symm)).symm
    refine lv_iadd hx hb dX10_partOf_30 ?_
    refine lv_topi (fun v_1008 ev_1008 => ?_)
    obtain rfl : v_1002 = v_1008 := (ev_1008.trans (ev_1002.symm)).symm
    refine lv_iconst (v := 2) hx hb dX10_partOf_31 (by decide) ?_
    refine lv_iadd hx hb dX10_partOf_32 ?_
    refine lv_topi (fun v_1009 ev_1009 => ?_)
    have qv_1009 := ba_add ev_1009 bv_1002 (bkc (x := 2) (c := 2) (by decide)) (by decide)
    have bv_1009 : (816 : Int) ≤ v_1009.toInt ∧ v_1009.toInt ≤ 1863 := bq_add qv_1009 bv_1002 (bkc (x := 2) (c := 2) (by decide)) _ _ (by decide)
    have qv_1009 : v_1009.toInt = v_1002.toInt + (2) := qv_1009
    refine va_iald hx hb hK.1 hP 1 1 rfl rfl (vi bv_1009 (by decide)) dX10_partOf_33 ?_
    refine lv_topi (fun v_1010 ev_1010 => ?_)
    refine lv_i2l hx hb dX10_partOf_34 rfl ?_
    refine lv_goto (tgt := 45) hx hb dX10_partOf_35 (by decide) ?_
    exact W.lret (v := (v_1010).toInt64) hx hb hr (fun t ht hW => ⟨⟨(v_1010).toInt64, _, rfl, ⟨((v_1010).toInt64), rfl, rfl⟩, by rw [ht]; exact hP, hD⟩, hS.F ht⟩) hS.2.2 dX10_partOf_45

set_option maxHeartbeats 4000000 in
set_option maxRecDepth 100000 in
theorem sX10_testHolds (l : Launch) (G : va_G) (y : Nat → ClassId) (sz : Nat) (ob : Nat) (a1 : Int32) (ob_thrown : Int32) (ob_world : Nat) (ob_images : Nat) (ob_hasImage : Nat) (ob_tape : Nat) (ob_taped : Int32) (ob_five : Nat) (ob_size : Int32) (ob_at : Int32) (ob_from : Int32) (ob_token : Int32) (ob_value : Int32) (ob_faultKind : Int32) (ob_faultPlace : Int32) (ob_fresh : Nat) (ob_parts : Nat) (ob_houses : Nat) (ob_houseMany : Int32) (ob_worthOf : Nat) (ob_byCall : Nat) (ob_over : Nat) (ob_bestSet : Int32) (ob_bestOver : Int32) (ob_bestWorth : Int32) (ob_row : Nat) (ob_tenDebts : Nat) (ob_tenMany : Int32) (ob_fewestBy : Nat) (ob_covered : Nat) (ob_queue : Nat) (ob_cameBy : Nat) (ob_parent : Nat) (ob_met : Nat) (ob_calls : Nat) (ob_callMany : Int32) (ob_calledOn : Nat) (ob_saved : Nat) (ob_many : Nat) (ob_width : Nat) (ob_numbers : Nat) (ob_moving : Nat) (fob_world : Nat → Int32) (fob_parts : Nat → Int32) (p_fob_world : RWw fob_world) (p_ob_taped : (0 : Int) ≤ ob_taped.toInt ∧ ob_taped.toInt ≤ 1400) (p_ob_size : (0 : Int) ≤ ob_size.toInt ∧ ob_size.toInt ≤ 1400) (p_ob_at : (0 : Int) ≤ ob_at.toInt ∧ ob_at.toInt ≤ 1400) (p_ob_from : (0 : Int) ≤ ob_from.toInt ∧ ob_from.toInt ≤ 1400) (p_ob_token : (0 : Int) ≤ ob_token.toInt ∧ ob_token.toInt ≤ 4) (p_ob_value : (0 : Int) ≤ ob_value.toInt ∧ ob_value.toInt ≤ 9999) (p_ob_faultKind : (0 : Int) ≤ ob_faultKind.toInt ∧ ob_faultKind.toInt ≤ 3) (p_ob_houseMany : (0 : Int) ≤ ob_houseMany.toInt ∧ ob_houseMany.toInt ≤ 10) (p_ob_bestSet : (0 : Int) ≤ ob_bestSet.toInt ∧ ob_bestSet.toInt ≤ 1023) (p_ob_bestOver : (-1 : Int) ≤ ob_bestOver.toInt ∧ ob_bestOver.toInt ≤ 180) (p_ob_tenMany : (0 : Int) ≤ ob_tenMany.toInt ∧ ob_tenMany.toInt ≤ 10) (p_ob_callMany : (0 : Int) ≤ ob_callMany.toInt ∧ ob_callMany.toInt ≤ 16) (p_a1 : (0 : Int) ≤ a1.toInt ∧ a1.toInt ≤ 179) (hq0 : a1.toInt < (fob_world 2).toInt) : Met l yX10_testHolds (Cond.code yX10_testHolds cX10_testHolds 11 (some .boolean) :: wAll) ({ frames := 1, cells := 0, slots := 0, locals := 25 }) (va_Pc [.ref ob, .int a1] (kp G y sz [(ce_X10 ob ob_thrown ob_world ob_images ob_hasImage ob_tape ob_taped ob_five ob_size ob_at ob_from ob_token ob_value ob_faultKind ob_faultPlace ob_fresh ob_parts ob_houses ob_houseMany ob_worthOf ob_byCall ob_over ob_bestSet ob_bestOver ob_bestWorth ob_row ob_tenDebts ob_tenMany ob_fewestBy ob_covered ob_queue ob_cameBy ob_parent ob_met ob_calls ob_callMany ob_calledOn ob_saved ob_many ob_width ob_numbers ob_moving), (ce_i9080 y ob_world fob_world), (ce_i6 y ob_parts fob_parts)])) (va_Qi (fun (r : Int32) (w : va_W) => (r = 0 ∧ w = [(ce_X10 ob ob_thrown ob_world ob_images ob_hasImage ob_tape ob_taped ob_five ob_size ob_at ob_from ob_token ob_value ob_faultKind ob_faultPlace ob_fresh ob_parts ob_houses ob_houseMany ob_worthOf ob_byCall ob_over ob_bestSet ob_bestOver ob_bestWorth ob_row ob_tenDebts ob_tenMany ob_fewestBy ob_covered ob_queue ob_cameBy ob_parent ob_met ob_calls ob_callMany ob_calledOn ob_saved ob_many ob_width ob_numbers ob_moving), (ce_i9080 y ob_world fob_world), (ce_i6 y ob_parts fob_parts)]) ∨ (r = 1 ∧ w = [(ce_X10 ob ob_thrown ob_world ob_images ob_hasImage ob_tape ob_taped ob_five ob_size ob_at ob_from ob_token ob_value ob_faultKind ob_faultPlace ob_fresh ob_parts ob_houses ob_houseMany ob_worthOf ob_byCall ob_over ob_bestSet ob_bestOver ob_bestWorth ob_row ob_tenDebts ob_tenMany ob_fewestBy ob_covered ob_queue ob_cameBy ob_parent ob_met ob_calls ob_callMany ob_calledOn ob_saved ob_many ob_width ob_numbers ob_moving), (ce_i9080 y ob_world fob_world), (ce_i6 y ob_parts fob_parts)])) (kq G (va_A [(ce_X10 ob ob_thrown ob_world ob_images ob_hasImage ob_tape ob_taped ob_five ob_size ob_at ob_from ob_token ob_value ob_faultKind ob_faultPlace ob_fresh ob_parts ob_houses ob_houseMany ob_worthOf ob_byCall ob_over ob_bestSet ob_bestOver ob_bestWorth ob_row ob_tenDebts ob_tenMany ob_fewestBy ob_covered ob_queue ob_cameBy ob_parent ob_met ob_calls ob_callMany ob_calledOn ob_saved ob_many ob_width ob_numbers ob_moving), (ce_i9080 y ob_world fob_world), (ce_i6 y ob_parts fob_parts)] sz)) (va_A [(ce_X10 ob ob_thrown ob_world ob_images ob_hasImage ob_tape ob_taped ob_five ob_size ob_at ob_from ob_token ob_value ob_faultKind ob_faultPlace ob_fresh ob_parts ob_houses ob_houseMany ob_worthOf ob_byCall ob_over ob_bestSet ob_bestOver ob_bestWorth ob_row ob_tenDebts ob_tenMany ob_fewestBy ob_covered ob_queue ob_cameBy ob_parent ob_met ob_calls ob_callMany ob_calledOn ob_saved ob_many ob_width ob_numbers ob_moving), (ce_i9080 y ob_world fob_world), (ce_i6 y ob_parts fob_parts)] sz)) 0 0 (va_A [(ce_X10 ob ob_thrown ob_world ob_images ob_hasImage ob_tape ob_taped ob_five ob_size ob_at ob_from ob_token ob_value ob_faultKind ob_faultPlace ob_fresh ob_parts ob_houses ob_houseMany ob_worthOf ob_byCall ob_over ob_bestSet ob_bestOver ob_bestWorth ob_row ob_tenDebts ob_tenMany ob_fewestBy ob_covered ob_queue ob_cameBy ob_parent ob_met ob_calls ob_callMany ob_calledOn ob_saved ob_many ob_width ob_numbers ob_moving), (ce_i9080 y ob_world fob_world), (ce_i6 y ob_parts fob_parts)] sz) := by
  refine Met.ofW (cc := cX10_testHolds) (maxL := 11) (ret := (some .boolean)) (by decide) rfl ?_
  intro p e s m args below meth c s₁ B hml hv
  obtain ⟨rfl, hsz, hP, hK, hD0⟩ := hv
  have hx := B.exec
  have hb := B.bytes
  have hr := B.returns
  have hw0 : ∀ w ∈ wAll, w.before _ s = true := fun w h => atoms_spec (ws := Cond.code yX10_testHolds cX10_testHolds 11 (some .boolean) :: wAll) B.pre w (List.mem_cons_of_mem _ h)
  have hown : s.vm.findClass RX10 = some m.cls := findClass_of_methodNamed B.named
  subst hsz
  have hD := hD0.self (sz := s.heap.size)
  generalize hAe : va_A [(ce_X10 ob ob_thrown ob_world ob_images ob_hasImage ob_tape ob_taped ob_five ob_size ob_at ob_from ob_token ob_value ob_faultKind ob_faultPlace ob_fresh ob_parts ob_houses ob_houseMany ob_worthOf ob_byCall ob_over ob_bestSet ob_bestOver ob_bestWorth ob_row ob_tenDebts ob_tenMany ob_fewestBy ob_covered ob_queue ob_cameBy ob_parent ob_met ob_calls ob_callMany ob_calledOn ob_saved ob_many ob_width ob_numbers ob_moving), (ce_i9080 y ob_world fob_world), (ce_i6 y ob_parts fob_parts)] s.heap.size = A at hD ⊢
  have hA : ∀ q : Nat, s.heap.size ≤ q → A q := fun q h => by rw [← hAe]; exact Or.inr h
  have hS : va_S A s.heap s.heap [] := va_S.rf
  have hP : va_P G vwCl [(ce_X10 ob ob_thrown ob_world ob_images ob_hasImage ob_tape ob_taped ob_five ob_size ob_at ob_from ob_token ob_value ob_faultKind ob_faultPlace ob_fresh ob_parts ob_houses ob_houseMany ob_worthOf ob_byCall ob_over ob_bestSet ob_bestOver ob_bestWorth ob_row ob_tenDebts ob_tenMany ob_fewestBy ob_covered ob_queue ob_cameBy ob_parent ob_met ob_calls ob_callMany ob_calledOn ob_saved ob_many ob_width ob_numbers ob_moving), (ce_i9080 y ob_world fob_world), (ce_i6 y ob_parts fob_parts)] s.heap := hP
  have hl := lv_entry ([.ref ob, .int a1]) (n := 11) (Nat.le_of_ble_eq_true rfl)
  rw [lg_entry_eq]
  generalize (lg_sl ([.ref ob, .int a1]) ++ List.replicate (11 - (lg_sl ([.ref ob, .int a1])).length) Slot.unset).toArray = ls at hl ⊢
  have hl : lv_has ls 11 [(0, .ref ob), (1, .int a1)] := hl
  refine lv_aload_n hx hb dX10_testHolds_0 rfl (lv_at hl 0 rfl) ?_
  refine va_get (D := G) (ci := 10) (v := .ref ob_world) (C := RX10) (T := TX10) (N := 41) hx hb hw0 inA_wsX100 hown hK.1 hP 0 rfl rfl 1 (by decide) (hw0 _ m_352) (fun _ h9 => h9) rfl dX10_testHolds_1 ?_
  refine lv_sipush (v := 274) hx hb dX10_testHolds_4 (by decide) ?_
  refine lv_iconst (v := 3) hx hb dX10_testHolds_7 (by decide) ?_
  refine lv_iload_n hx hb dX10_testHolds_8 rfl (lv_at hl 1 rfl) ?_
  refine lv_imul hx hb dX10_testHolds_9 ?_
  refine lv_topi (fun v_1001 ev_1001 => ?_)
  have qv_1001 := ba_mul 3 (ev_1001.trans (Int32.mul_comm _ _)) p_a1 (by decide) (by decide) (by decide)
  have bv_1001 : (0 : Int) ≤ v_1001.toInt ∧ v_1001.toInt ≤ 537 := qv_1001.2
  refine lv_iadd hx hb dX10_testHolds_10 ?_
  refine lv_topi (fun v_1002 ev_1002 => ?_)
  have qv_1002 := ba_add ev_1002 (bkc (x := 274) (c := 274) (by decide)) bv_1001 (by decide)
  have bv_1002 : (274 : Int) ≤ v_1002.toInt ∧ v_1002.toInt ≤ 811 := bq_add qv_1002 (bkc (x := 274) (c := 274) (by decide)) bv_1001 _ _ (by decide)
  have qv_1002 : v_1002.toInt = (274) + v_1001.toInt := qv_1002
  refine lv_iconst (v := 1) hx hb dX10_testHolds_11 (by decide) ?_
  refine lv_iadd hx hb dX10_testHolds_12 ?_
  refine lv_topi (fun v_1003 ev_1003 => ?_)
  have qv_1003 := ba_add ev_1003 bv_1002 (bkc (x := 1) (c := 1) (by decide)) (by decide)
  have bv_1003 : (275 : Int) ≤ v_1003.toInt ∧ v_1003.toInt ≤ 812 := bq_add qv_1003 bv_1002 (bkc (x := 1) (c := 1) (by decide)) _ _ (by decide)
  have qv_1003 : v_1003.toInt = v_1002.toInt + (1) := qv_1003
  refine va_iald hx hb hK.1 hP 1 1 rfl rfl (vi bv_1003 (by decide)) dX10_testHolds_13 ?_
  refine lv_topi (fun v_1004 ev_1004 => ?_)
  have bv_1004 : (0 : Int) ≤ v_1004.toInt ∧ v_1004.toInt ≤ 350 := rdw ev_1004 (p_fob_world).1.1 pl_13 (by omega) (p_a1)
  have wv_1004 : v_1004.toInt = (fob_world (275 + 3 * a1.toInt.toNat)).toInt := by rw [ev_1004, el_at (c := 275) (a := 3) (x := a1) (by omega) (by omega)]
  refine lv_istore_n (lv' := [(2, .int v_1004), (0, .ref ob), (1, .int a1)]) hx hb dX10_testHolds_14 rfl hl (by decide) rfl (fun ls hl => ?_)
  refine lv_iload_n hx hb dX10_testHolds_15 rfl (lv_at hl 0 rfl) ?_
  refine lv_aload_n hx hb dX10_testHolds_16 rfl (lv_at hl 1 rfl) ?_
  refine va_get (D := G) (ci := 10) (v := .ref ob_world) (C := RX10) (T := TX10) (N := 41) hx hb hw0 inA_wsX100 hown hK.1 hP 0 rfl rfl 1 (by decide) (hw0 _ m_352) (fun _ h9 => h9) rfl dX10_testHolds_17 ?_
  refine lv_sipush (v := 274) hx hb dX10_testHolds_20 (by decide) ?_
  refine lv_iconst (v := 3) hx hb dX10_testHolds_23 (by decide) ?_
  refine lv_iload_n hx hb dX10_testHolds_24 rfl (lv_at hl 2 rfl) ?_
  refine lv_imul hx hb dX10_testHolds_25 ?_
  refine lv_topi (fun v_1005 ev_1005 => ?_)
  obtain rfl : v_1001 = v_1005 := (ev_1005.trans (ev_1001.symm)).symm
  refine lv_iadd hx hb dX10_testHolds_26 ?_
  refine lv_topi (fun v_1006 ev_1006 => ?_)
  obtain rfl : v_1002 = v_1006 := (ev_1006.trans (ev_1002.symm)).symm
  refine lv_iconst (v := 2) hx hb dX10_testHolds_27 (by decide) ?_
  refine lv_iadd hx hb dX10_testHolds_28 ?_
  refine lv_topi (fun v_1007 ev_1007 => ?_)
  have qv_1007 := ba_add ev_1007 bv_1002 (bkc (x := 2) (c := 2) (by decide)) (by decide)
  have bv_1007 : (276 : Int) ≤ v_1007.toInt ∧ v_1007.toInt ≤ 813 := bq_add qv_1007 bv_1002 (bkc (x := 2) (c := 2) (by decide)) _ _ (by decide)
  have qv_1007 : v_1007.toInt = v_1002.toInt + (2) := qv_1007
  refine va_iald hx hb hK.1 hP 1 1 rfl rfl (vi bv_1007 (by decide)) dX10_testHolds_29 ?_
  refine lv_topi (fun v_1008 ev_1008 => ?_)
  have bv_1008 : (0 : Int) ≤ v_1008.toInt ∧ v_1008.toInt ≤ 350 := rdw ev_1008 (p_fob_world).1.1 pl_14 (by omega) (p_a1)
  have wv_1008 : v_1008.toInt = (fob_world (276 + 3 * a1.toInt.toNat)).toInt := by rw [ev_1008, el_at (c := 276) (a := 3) (x := a1) (by omega) (by omega)]
  refine lv_iadd hx hb dX10_testHolds_30 ?_
  refine lv_topi (fun v_1009 ev_1009 => ?_)
  have qv_1009 := ba_add ev_1009 bv_1004 bv_1008 (by decide)
  have bv_1009 : (0 : Int) ≤ v_1009.toInt ∧ v_1009.toInt ≤ 700 := bq_add qv_1009 bv_1004 bv_1008 _ _ (by decide)
  have h_1010 : (0 : Int) ≤ v_1009.toInt ∧ v_1009.toInt ≤ 350 := by have h9 := (p_fob_world).2.2 a1.toInt.toNat (by omega); have h8 := RB_3 (p_fob_world).1.1; omega
  refine lv_istore_n (lv' := [(3, .int v_1009), (2, .int v_1004), (0, .ref ob), (1, .int a1)]) hx hb dX10_testHolds_31 rfl hl (by decide) rfl (fun ls hl => ?_)
  refine lv_lconst (v := 0) hx hb dX10_testHolds_32 (by decide) ?_
  refine lv_lstore (lv' := [(4, .long 0), (3, .int v_1009), (2, .int v_1004), (0, .ref ob), (1, .int a1)]) hx hb dX10_testHolds_33 hl (by decide) rfl (fun ls hl => ?_)
  refine lv_lconst (v := 0) hx hb dX10_testHolds_35 (by decide) ?_
  refine lv_lstore (lv' := [(6, .long 0), (4, .long 0), (3, .int v_1009), (2, .int v_1004), (0, .ref ob), (1, .int a1)]) hx hb dX10_testHolds_36 hl (by decide) rfl (fun ls hl => ?_)
  refine loopX (fun n H locs ls st => ∃ (v_2009 : Int64) (v_2010 : Int64) (v_2011 : Int32), (350 - v_2011.toInt).toNat = n ∧ ((0 : Int) ≤ v_2011.toInt ∧ v_2011.toInt ≤ 350) ∧ st = [] ∧ vPD G A H [(ce_X10 ob ob_thrown ob_world ob_images ob_hasImage ob_tape ob_taped ob_five ob_size ob_at ob_from ob_token ob_value ob_faultKind ob_faultPlace ob_fresh ob_parts ob_houses ob_houseMany ob_worthOf ob_byCall ob_over ob_bestSet ob_bestOver ob_bestWorth ob_row ob_tenDebts ob_tenMany ob_fewestBy ob_covered ob_queue ob_cameBy ob_parent ob_met ob_calls ob_callMany ob_calledOn ob_saved ob_many ob_width ob_numbers ob_moving), (ce_i9080 y ob_world fob_world), (ce_i6 y ob_parts fob_parts)] ∧ va_S A s.heap H locs ∧ lv_has ls 11 [(6, .long v_2009), (4, .long v_2010), (3, .int v_1009), (2, .int v_2011), (0, .ref ob), (1, .int a1)]) ?_ (n := (350 - v_1004.toInt).toNat) ⟨0, 0, v_1004, rfl, bv_1004, rfl, ⟨hP, hD⟩, hS, lv_sub hl [0, 1, 2, 3, 4, 5] rfl⟩
  rintro n ih_2261 H locs ls st ⟨v_2009, v_2010, v_2011, hn_2261, bv_2011, rfl, ⟨hP, hD⟩, hS, hl⟩
  refine lv_iload_n hx hb dX10_testHolds_38 rfl (lv_at hl 3 rfl) ?_
  refine lv_iload_n hx hb dX10_testHolds_39 rfl (lv_at hl 2 rfl) ?_
  refine lv_icmp_ge (tgt := 173) hx hb dX10_testHolds_40 (by decide) (fun c_2262 => ?_) (fun c_2262 => ?_)
  · skip
    have nc_2262 := nb_le (350) (0) c_2262 h_1010 bv_2011 (by decide)
    refine lv_aload_n hx hb dX10_testHolds_173 rfl (lv_at hl 4 rfl) ?_
    refine va_get (D := G) (ci := 10) (v := .ref ob_world) (C := RX10) (T := TX10) (N := 41) hx hb hw0 inA_wsX100 hown hK.1 hP 0 rfl rfl 1 (by decide) (hw0 _ m_352) (fun _ h9 => h9) rfl dX10_testHolds_174 ?_
    refine lv_sipush (v := 274) hx hb dX10_testHolds_177 (by decide) ?_
    refine lv_iconst (v := 3) hx hb dX10_testHolds_180 (by decide) ?_
    refine lv_iload_n hx hb dX10_testHolds_181 rfl (lv_at hl 5 rfl) ?_
    refine lv_imul hx hb dX10_testHolds_182 ?_
    refine lv_topi (fun v_2263 ev_2263 => ?_)
    obtain rfl : v_1001 = v_2263 := (ev_2263.trans (ev_1001.symm)).symm
    refine lv_iadd hx hb dX10_testHolds_183 ?_
    refine lv_topi (fun v_2264 ev_2264 => ?_)
    obtain rfl : v_1002 = v_2264 := (ev_2264.trans (ev_1002.symm)).symm
    refine va_iald hx hb hK.1 hP 1 1 rfl rfl (vi bv_1002 (by decide)) dX10_testHolds_184 ?_
    refine lv_topi (fun v_2265 ev_2265 => ?_)
    refine lv_istore (lv' := [(8, .int v_2265), (6, .long v_2009), (4, .long v_2010), (3, .int v_1009), (2, .int v_2011), (0, .ref ob), (1, .int a1)]) hx hb dX10_testHolds_185 hl (by decide) rfl (fun ls hl => ?_)
    refine lv_iload hx hb dX10_testHolds_187 (lv_at hl 0 rfl) ?_
    refine lv_if_ne (tgt := 208) hx hb dX10_testHolds_189 (by decide) (fun c_2266 => ?_) (fun c_2266 => ?_)
    · skip
      have nc_2266 := nb_ne (-2147483648) (2147483647) c_2266 (btop v_2265) (k := 0) (by decide) (by decide)
      refine lv_iload hx hb dX10_testHolds_208 (lv_at hl 0 rfl) ?_
      refine lv_iconst (v := 1) hx hb dX10_testHolds_210 (by decide) ?_
      refine lv_icmp_ne (tgt := 230) hx hb dX10_testHolds_211 (by decide) (fun c_2267 => ?_) (fun c_2267 => ?_)
      · skip
        have nc_2267 := nb_ne (-2147483648) (2147483647) c_2267 nc_2266.1 (k := 1) (by decide) (by decide)
        refine lv_lload hx hb dX10_testHolds_230 (lv_at hl 2 rfl) ?_
        refine lv_lload hx hb dX10_testHolds_232 (lv_at hl 1 rfl) ?_
        refine W.lcmp hx hb dX10_testHolds_234 ?_
        refine lv_if_ne (tgt := 242) hx hb dX10_testHolds_235 (by decide) (fun c_2268 => ?_) (fun c_2268 => ?_)
        · skip
          refine lv_iconst (v := 0) hx hb dX10_testHolds_242 (by decide) ?_
          exact W.zret (v := 0) hx hb hr rfl (fun t ht hW => ⟨⟨0, _, rfl, Or.inl (⟨rfl, rfl⟩), by rw [ht]; exact hP, hD⟩, hS.F ht⟩) hS.2.2 dX10_testHolds_243
        · skip
          refine lv_iconst (v := 1) hx hb dX10_testHolds_238 (by decide) ?_
          refine lv_goto (tgt := 243) hx hb dX10_testHolds_239 (by decide) ?_
          exact W.zret (v := 1) hx hb hr rfl (fun t ht hW => ⟨⟨1, _, rfl, Or.inr (⟨rfl, rfl⟩), by rw [ht]; exact hP, hD⟩, hS.F ht⟩) hS.2.2 dX10_testHolds_243
      · skip
        have nc_2267 := nb_eq (1) (1) c_2267 nc_2266.1 (bkc (x := 1) (c := 1) (by decide)) (by decide)
        refine lv_lload hx hb dX10_testHolds_214 (lv_at hl 2 rfl) ?_
        refine lv_lload hx hb dX10_testHolds_216 (lv_at hl 1 rfl) ?_
        refine W.lcmp hx hb dX10_testHolds_218 ?_
        refine lv_if_ge (tgt := 226) hx hb dX10_testHolds_219 (by decide) (fun c_2269 => ?_) (fun c_2269 => ?_)
        · skip
          refine lv_iconst (v := 0) hx hb dX10_testHolds_226 (by decide) ?_
          refine lv_goto (tgt := 243) hx hb dX10_testHolds_227 (by decide) ?_
          exact W.zret (v := 0) hx hb hr rfl (fun t ht hW => ⟨⟨0, _, rfl, Or.inl (⟨rfl, rfl⟩), by rw [ht]; exact hP, hD⟩, hS.F ht⟩) hS.2.2 dX10_testHolds_243
        · skip
          refine lv_iconst (v := 1) hx hb dX10_testHolds_222 (by decide) ?_
          refine lv_goto (tgt := 243) hx hb dX10_testHolds_223 (by decide) ?_
          exact W.zret (v := 1) hx hb hr rfl (fun t ht hW => ⟨⟨1, _, rfl, Or.inr (⟨rfl, rfl⟩), by rw [ht]; exact hP, hD⟩, hS.F ht⟩) hS.2.2 dX10_testHolds_243
    · skip
      have nc_2266 := nb_eq (0) (0) c_2266 (btop v_2265) (bkc (x := 0) (c := 0) (by decide)) (by decide)
      refine lv_lload hx hb dX10_testHolds_192 (lv_at hl 2 rfl) ?_
      refine lv_lload hx hb dX10_testHolds_194 (lv_at hl 1 rfl) ?_
      refine W.lcmp hx hb dX10_testHolds_196 ?_
      refine lv_if_le (tgt := 204) hx hb dX10_testHolds_197 (by decide) (fun c_2270 => ?_) (fun c_2270 => ?_)
      · skip
        refine lv_iconst (v := 0) hx hb dX10_testHolds_204 (by decide) ?_
        refine lv_goto (tgt := 243) hx hb dX10_testHolds_205 (by decide) ?_
        exact W.zret (v := 0) hx hb hr rfl (fun t ht hW => ⟨⟨0, _, rfl, Or.inl (⟨rfl, rfl⟩), by rw [ht]; exact hP, hD⟩, hS.F ht⟩) hS.2.2 dX10_testHolds_243
      · skip
        refine lv_iconst (v := 1) hx hb dX10_testHolds_200 (by decide) ?_
        refine lv_goto (tgt := 243) hx hb dX10_testHolds_201 (by decide) ?_
        exact W.zret (v := 1) hx hb hr rfl (fun t ht hW => ⟨⟨1, _, rfl, Or.inr (⟨rfl, rfl⟩), by rw [ht]; exact hP, hD⟩, hS.F ht⟩) hS.2.2 dX10_testHolds_243
  · skip
    have nc_2262 := nb_nle (349) (1) c_2262 bv_2011 h_1010 (by decide)
    refine lv_aload_n hx hb dX10_testHolds_43 rfl (lv_at hl 4 rfl) ?_
    refine va_get (D := G) (ci := 10) (v := .ref ob_world) (C := RX10) (T := TX10) (N := 41) hx hb hw0 inA_wsX100 hown hK.1 hP 0 rfl rfl 1 (by decide) (hw0 _ m_352) (fun _ h9 => h9) rfl dX10_testHolds_44 ?_
    refine lv_sipush (v := 814) hx hb dX10_testHolds_47 (by decide) ?_
    refine lv_iconst (v := 3) hx hb dX10_testHolds_50 (by decide) ?_
    refine lv_iload_n hx hb dX10_testHolds_51 rfl (lv_at hl 3 rfl) ?_
    refine lv_imul hx hb dX10_testHolds_52 ?_
    refine lv_topi (fun v_2271 ev_2271 => ?_)
    have qv_2271 := ba_mul 3 (ev_2271.trans (Int32.mul_comm _ _)) nc_2262.1 (by decide) (by decide) (by decide)
    have bv_2271 : (0 : Int) ≤ v_2271.toInt ∧ v_2271.toInt ≤ 1047 := qv_2271.2
    refine lv_iadd hx hb dX10_testHolds_53 ?_
    refine lv_topi (fun v_2272 ev_2272 => ?_)
    have qv_2272 := ba_add ev_2272 (bkc (x := 814) (c := 814) (by decide)) bv_2271 (by decide)
    have bv_2272 : (814 : Int) ≤ v_2272.toInt ∧ v_2272.toInt ≤ 1861 := bq_add qv_2272 (bkc (x := 814) (c := 814) (by decide)) bv_2271 _ _ (by decide)
    have qv_2272 : v_2272.toInt = (814) + v_2271.toInt := qv_2272
    refine va_iald hx hb hK.1 hP 1 1 rfl rfl (vi bv_2272 (by decide)) dX10_testHolds_54 ?_
    refine lv_topi (fun v_2273 ev_2273 => ?_)
    refine lv_istore (lv' := [(8, .int v_2273), (6, .long v_2009), (4, .long v_2010), (3, .int v_1009), (2, .int v_2011), (0, .ref ob), (1, .int a1)]) hx hb dX10_testHolds_55 hl (by decide) rfl (fun ls hl => ?_)
    refine lv_aload_n hx hb dX10_testHolds_57 rfl (lv_at hl 5 rfl) ?_
    refine lv_iload_n hx hb dX10_testHolds_58 rfl (lv_at hl 4 rfl) ?_
    refine cVlm (As := [.int v_2011]) (rest := []) ⟨hx, hb, hml, hown, hw0⟩ hA hK hP hD hS [true, true, true] (sX10_partOf l G y _ ob v_2011 ob_thrown ob_world ob_images ob_hasImage ob_tape ob_taped ob_five ob_size ob_at ob_from ob_token ob_value ob_faultKind ob_faultPlace ob_fresh ob_parts ob_houses ob_houseMany ob_worthOf ob_byCall ob_over ob_bestSet ob_bestOver ob_bestWorth ob_row ob_tenDebts ob_tenMany ob_fewestBy ob_covered ob_queue ob_cameBy ob_parent ob_met ob_calls ob_callMany ob_calledOn ob_saved ob_many ob_width ob_numbers ob_moving fob_world fob_parts p_fob_world p_ob_taped p_ob_size p_ob_at p_ob_from p_ob_token p_ob_value p_ob_faultKind p_ob_houseMany p_ob_bestSet p_ob_bestOver p_ob_tenMany p_ob_callMany nc_2262.1) rfl ⟨(callB_of 1 hw0 (gA m_587) rfl rfl rfl (hw0 _ m_41) (hw0 _ m_683) cb_X10_partOf ⟨Nat.le_of_ble_eq_true rfl, Nat.le_of_ble_eq_true rfl⟩), (hw0 _ m_684), (hw0 _ m_685)⟩ (ci := 10) (q := (RX10, TX10, 41)) rfl rfl rfl hl.1 (Nat.le_of_ble_eq_true rfl) dX10_testHolds_59 ⟨Nat.le_of_ble_eq_true rfl, Nat.le_of_ble_eq_true rfl⟩ (fun r_2274 w_2274 H locs hw_2274 hP hD hS => ?_)
    obtain ⟨v_2275, er_2274, rfl⟩ := hw_2274
    subst r_2274
    obtain ⟨hP, hD⟩ : vPD G A H [(ce_X10 ob ob_thrown ob_world ob_images ob_hasImage ob_tape ob_taped ob_five ob_size ob_at ob_from ob_token ob_value ob_faultKind ob_faultPlace ob_fresh ob_parts ob_houses ob_houseMany ob_worthOf ob_byCall ob_over ob_bestSet ob_bestOver ob_bestWorth ob_row ob_tenDebts ob_tenMany ob_fewestBy ob_covered ob_queue ob_cameBy ob_parent ob_met ob_calls ob_callMany ob_calledOn ob_saved ob_many ob_width ob_numbers ob_moving), (ce_i9080 y ob_world fob_world), (ce_i6 y ob_parts fob_parts)] := ⟨hP, hD⟩
    refine lv_lstore (lv' := [(9, .long v_2275), (8, .int v_2273), (6, .long v_2009), (4, .long v_2010), (3, .int v_1009), (2, .int v_2011), (0, .ref ob), (1, .int a1)]) hx hb dX10_testHolds_62 hl (by decide) rfl (fun ls hl => ?_)
    obtain ⟨v_2276, ev_2276⟩ : ∃ z : Int32, z = v_2011 + 1 := ⟨_, rfl⟩
    have qv_2276 := ba_add ev_2276 nc_2262.1 (bkc (x := 1) (c := 1) (by decide)) (by decide)
    have bv_2276 : (1 : Int) ≤ v_2276.toInt ∧ v_2276.toInt ≤ 350 := bq_add qv_2276 nc_2262.1 (bkc (x := 1) (c := 1) (by decide)) _ _ (by decide)
    have qv_2276 : v_2276.toInt = v_2011.toInt + (1) := qv_2276
    refine lv_iinc (v := v_2276) (lv' := [(2, .int v_2276), (9, .long v_2275), (8, .int v_2273), (6, .long v_2009), (4, .long v_2010), (3, .int v_1009), (0, .ref ob), (1, .int a1)]) hx hb dX10_testHolds_64 hl (k := 5) rfl (ev_2276.symm) (by decide) rfl (fun ls hl => ?_)
    refine loopX (fun n H locs ls st => ∃ (v_2424 : Int32) (v_2425 : Int64), (350 - v_2424.toInt).toNat = n ∧ ((1 : Int) ≤ v_2424.toInt ∧ v_2424.toInt ≤ 350) ∧ (v_2011.toInt + 1 ≤ v_2424.toInt) ∧ st = [] ∧ vPD G A H [(ce_X10 ob ob_thrown ob_world ob_images ob_hasImage ob_tape ob_taped ob_five ob_size ob_at ob_from ob_token ob_value ob_faultKind ob_faultPlace ob_fresh ob_parts ob_houses ob_houseMany ob_worthOf ob_byCall ob_over ob_bestSet ob_bestOver ob_bestWorth ob_row ob_tenDebts ob_tenMany ob_fewestBy ob_covered ob_queue ob_cameBy ob_parent ob_met ob_calls ob_callMany ob_calledOn ob_saved ob_many ob_width ob_numbers ob_moving), (ce_i9080 y ob_world fob_world), (ce_i6 y ob_parts fob_parts)] ∧ va_S A s.heap H locs ∧ lv_has ls 11 [(2, .int v_2424), (9, .long v_2425), (8, .int v_2273), (6, .long v_2009), (4, .long v_2010), (3, .int v_1009), (0, .ref ob), (1, .int a1)]) ?_ (n := (350 - v_2276.toInt).toNat) ⟨v_2276, v_2275, rfl, bv_2276, (by omega), rfl, ⟨hP, hD⟩, hS, lv_sub hl [0, 1, 2, 3, 4, 5, 6, 7] rfl⟩
    rintro n ih_2472 H locs ls st ⟨v_2424, v_2425, hn_2472, bv_2424, rl2425_0, rfl, ⟨hP, hD⟩, hS, hl⟩
    refine lv_iload_n hx hb dX10_testHolds_67 rfl (lv_at hl 0 rfl) ?_
    refine lv_iload_n hx hb dX10_testHolds_68 rfl (lv_at hl 5 rfl) ?_
    refine cutW 120 (fun H locs ls st => (v_2011.toInt + 1 ≤ v_2424.toInt) ∧ st = [] ∧ vPD G A H [(ce_X10 ob ob_thrown ob_world ob_images ob_hasImage ob_tape ob_taped ob_five ob_size ob_at ob_from ob_token ob_value ob_faultKind ob_faultPlace ob_fresh ob_parts ob_houses ob_houseMany ob_worthOf ob_byCall ob_over ob_bestSet ob_bestOver ob_bestWorth ob_row ob_tenDebts ob_tenMany ob_fewestBy ob_covered ob_queue ob_cameBy ob_parent ob_met ob_calls ob_callMany ob_calledOn ob_saved ob_many ob_width ob_numbers ob_moving), (ce_i9080 y ob_world fob_world), (ce_i6 y ob_parts fob_parts)] ∧ va_S A s.heap H locs ∧ lv_has ls 11 [(2, .int v_2424), (9, .long v_2425), (8, .int v_2273), (6, .long v_2009), (4, .long v_2010), (3, .int v_1009), (0, .ref ob), (1, .int a1)]) ?_ (fun J_120_2487 => ?_)
    · rintro H locs ls st ⟨rl2487_0, rfl, ⟨hP, hD⟩, hS, hl⟩
      refine lv_iload hx hb dX10_testHolds_120 (lv_at hl 2 rfl) ?_
      refine lv_iconst (v := 4) hx hb dX10_testHolds_122 (by decide) ?_
      refine cutW 133 (fun H locs ls st => ∃ (v_2489 : Int64) (v_2490 : Int64), (v_2011.toInt + 1 ≤ v_2424.toInt) ∧ st = [] ∧ vPD G A H [(ce_X10 ob ob_thrown ob_world ob_images ob_hasImage ob_tape ob_taped ob_five ob_size ob_at ob_from ob_token ob_value ob_faultKind ob_faultPlace ob_fresh ob_parts ob_houses ob_houseMany ob_worthOf ob_byCall ob_over ob_bestSet ob_bestOver ob_bestWorth ob_row ob_tenDebts ob_tenMany ob_fewestBy ob_covered ob_queue ob_cameBy ob_parent ob_met ob_calls ob_callMany ob_calledOn ob_saved ob_many ob_width ob_numbers ob_moving), (ce_i9080 y ob_world fob_world), (ce_i6 y ob_parts fob_parts)] ∧ va_S A s.heap H locs ∧ lv_has ls 11 [(2, .int v_2424), (9, .long v_2425), (8, .int v_2273), (6, .long v_2489), (4, .long v_2490), (3, .int v_1009), (0, .ref ob), (1, .int a1)]) ?_ (fun J_133_2490 => ?_)
      · rintro H locs ls st ⟨v_2489, v_2490, rl2490_0, rfl, ⟨hP, hD⟩, hS, hl⟩
        refine lv_iload hx hb dX10_testHolds_133 (lv_at hl 2 rfl) ?_
        refine lv_iconst (v := 2) hx hb dX10_testHolds_135 (by decide) ?_
        refine cutW 152 (fun H locs ls st => ∃ (v_2494 : Int64), (v_2011.toInt + 1 ≤ v_2424.toInt) ∧ st = [.long v_2494] ∧ vPD G A H [(ce_X10 ob ob_thrown ob_world ob_images ob_hasImage ob_tape ob_taped ob_five ob_size ob_at ob_from ob_token ob_value ob_faultKind ob_faultPlace ob_fresh ob_parts ob_houses ob_houseMany ob_worthOf ob_byCall ob_over ob_bestSet ob_bestOver ob_bestWorth ob_row ob_tenDebts ob_tenMany ob_fewestBy ob_covered ob_queue ob_cameBy ob_parent ob_met ob_calls ob_callMany ob_calledOn ob_saved ob_many ob_width ob_numbers ob_moving), (ce_i9080 y ob_world fob_world), (ce_i6 y ob_parts fob_parts)] ∧ va_S A s.heap H locs ∧ lv_has ls 11 [(2, .int v_2424), (4, .long v_2490), (3, .int v_1009), (0, .ref ob), (1, .int a1)]) ?_ (fun J_152_2494 => ?_)
        · rintro H locs ls st ⟨v_2494, rl2494_0, rfl, ⟨hP, hD⟩, hS, hl⟩
          refine lv_lstore (lv' := [(6, .long v_2494), (2, .int v_2424), (4, .long v_2490), (3, .int v_1009), (0, .ref ob), (1, .int a1)]) hx hb dX10_testHolds_152 hl (by decide) rfl (fun ls hl => ?_)
          refine lv_lload hx hb dX10_testHolds_154 (lv_at hl 0 rfl) ?_
          refine lv_ldc2 (own := RX10) (v := (-1000000000)) hx hb hown (hw0 _ m_686) dX10_testHolds_156 ?_
          refine lv_ldc2 (own := RX10) (v := 1000000000) hx hb hown (hw0 _ m_687) dX10_testHolds_159 ?_
          refine cSim (As := [.long v_2494, .long (-1000000000), .long 1000000000]) (rest := []) ⟨hx, hb, hml, hown, hw0⟩ hA hK hP hD hS [] (sX10_in l G y _ v_2494 (-1000000000) 1000000000 ) rfl ⟨(callB_of 3 hw0 (gA m_516) rfl rfl rfl (hw0 _ m_41) (hw0 _ m_345) cb_X10_in ⟨Nat.le_of_ble_eq_true rfl, Nat.le_of_ble_eq_true rfl⟩), (hw0 _ m_346)⟩ rfl hl.1 (Nat.le_of_ble_eq_true rfl) dX10_testHolds_162 ⟨Nat.le_of_ble_eq_true rfl, Nat.le_of_ble_eq_true rfl⟩ (fun r_2495 w_2495 H locs hw_2495 hP hD hS => ?_)
          rcases hw_2495 with ⟨h_2496, rfl, rfl⟩ | ⟨h_2497, rfl, rfl⟩
          · skip
            have h_2498 : v_2494.toInt < (-1000000000 : Int) ∨ (1000000000 : Int) < v_2494.toInt := in_n h_2496 rfl (by decide) (by decide)
            obtain ⟨hP, hD⟩ : vPD G A H [(ce_X10 ob ob_thrown ob_world ob_images ob_hasImage ob_tape ob_taped ob_five ob_size ob_at ob_from ob_token ob_value ob_faultKind ob_faultPlace ob_fresh ob_parts ob_houses ob_houseMany ob_worthOf ob_byCall ob_over ob_bestSet ob_bestOver ob_bestWorth ob_row ob_tenDebts ob_tenMany ob_fewestBy ob_covered ob_queue ob_cameBy ob_parent ob_met ob_calls ob_callMany ob_calledOn ob_saved ob_many ob_width ob_numbers ob_moving), (ce_i9080 y ob_world fob_world), (ce_i6 y ob_parts fob_parts)] := ⟨hP, hD⟩
            refine lv_if_ne (tgt := 170) hx hb dX10_testHolds_165 (by decide) (fun c9 => absurd (by decide) c9) (fun _ => ?_)
            refine lv_iconst (v := 0) hx hb dX10_testHolds_168 (by decide) ?_
            exact W.zret (v := 0) hx hb hr rfl (fun t ht hW => ⟨⟨0, _, rfl, Or.inl (⟨rfl, rfl⟩), by rw [ht]; exact hP, hD⟩, hS.F ht⟩) hS.2.2 dX10_testHolds_169
          · skip
            have h_2499 : (-1000000000 : Int) ≤ v_2494.toInt ∧ v_2494.toInt ≤ (1000000000 : Int) := in_y h_2497 rfl (by decide) (by decide)
            have h_2500_0 := (ltop v_2494)
            have h_2500_1 := True.intro
            have h_2500_2 := True.intro
            have h_2500 : (-1000000000 : Int) ≤ v_2494.toInt ∧ v_2494.toInt ≤ 1000000000 := by omega
            obtain ⟨hP, hD⟩ : vPD G A H [(ce_X10 ob ob_thrown ob_world ob_images ob_hasImage ob_tape ob_taped ob_five ob_size ob_at ob_from ob_token ob_value ob_faultKind ob_faultPlace ob_fresh ob_parts ob_houses ob_houseMany ob_worthOf ob_byCall ob_over ob_bestSet ob_bestOver ob_bestWorth ob_row ob_tenDebts ob_tenMany ob_fewestBy ob_covered ob_queue ob_cameBy ob_parent ob_met ob_calls ob_callMany ob_calledOn ob_saved ob_many ob_width ob_numbers ob_moving), (ce_i9080 y ob_world fob_world), (ce_i6 y ob_parts fob_parts)] := ⟨hP, hD⟩
            refine lv_if_ne (tgt := 170) hx hb dX10_testHolds_165 (by decide) (fun _ => ?_) (fun c9 => absurd c9 (by decide))
            refine lv_goto (tgt := 38) hx hb dX10_testHolds_170 (by decide) ?_
            exact ih_2261 _ (by omega) _ _ _ _ ⟨v_2494, v_2490, v_2424, rfl, (bw (0) (350) bv_2424 (by decide)), rfl, ⟨hP, hD⟩, hS, lv_sub hl [0, 2, 3, 1, 4, 5] rfl⟩
        · skip
          refine lv_icmp_ne (tgt := 147) hx hb dX10_testHolds_136 (by decide) (fun c_2501 => ?_) (fun c_2501 => ?_)
          · skip
            have nc_2501 := nb_ne (-2147483648) (2147483647) c_2501 (btop v_2273) (k := 2) (by decide) (by decide)
            refine lv_lload hx hb dX10_testHolds_147 (lv_at hl 3 rfl) ?_
            refine lv_lload hx hb dX10_testHolds_149 (lv_at hl 1 rfl) ?_
            refine lv_ladd hx hb dX10_testHolds_151 ?_
            refine lv_topl (fun v_2502 ev_2502 => ?_)
            exact J_152_2494 _ _ _ _ ⟨v_2502, (by omega), rfl, ⟨hP, hD⟩, hS, lv_sub hl [0, 4, 5, 6, 7] rfl⟩
          · skip
            have nc_2501 := nb_eq (2) (2) c_2501 (btop v_2273) (bkc (x := 2) (c := 2) (by decide)) (by decide)
            refine lv_lload hx hb dX10_testHolds_139 (lv_at hl 3 rfl) ?_
            refine lv_lload hx hb dX10_testHolds_141 (lv_at hl 1 rfl) ?_
            refine lv_lsub hx hb dX10_testHolds_143 ?_
            refine lv_topl (fun v_2503 ev_2503 => ?_)
            refine lv_goto (tgt := 152) hx hb dX10_testHolds_144 (by decide) ?_
            exact J_152_2494 _ _ _ _ ⟨v_2503, (by omega), rfl, ⟨hP, hD⟩, hS, lv_sub hl [0, 4, 5, 6, 7] rfl⟩
      · skip
        refine lv_icmp_ne (tgt := 133) hx hb dX10_testHolds_123 (by decide) (fun c_2504 => ?_) (fun c_2504 => ?_)
        · skip
          have nc_2504 := nb_ne (-2147483648) (2147483647) c_2504 (btop v_2273) (k := 4) (by decide) (by decide)
          exact J_133_2490 _ _ _ _ ⟨v_2009, v_2010, (by omega), rfl, ⟨hP, hD⟩, hS, lv_sub hl [0, 1, 2, 3, 4, 5, 6, 7] rfl⟩
        · skip
          have nc_2504 := nb_eq (4) (4) c_2504 (btop v_2273) (bkc (x := 4) (c := 4) (by decide)) (by decide)
          refine lv_lload hx hb dX10_testHolds_126 (lv_at hl 3 rfl) ?_
          refine lv_lstore (lv' := [(4, .long v_2009), (2, .int v_2424), (9, .long v_2425), (8, .int v_2273), (6, .long v_2009), (3, .int v_1009), (0, .ref ob), (1, .int a1)]) hx hb dX10_testHolds_128 hl (by decide) rfl (fun ls hl => ?_)
          refine lv_lconst (v := 0) hx hb dX10_testHolds_130 (by decide) ?_
          refine lv_lstore (lv' := [(6, .long 0), (4, .long v_2009), (2, .int v_2424), (9, .long v_2425), (8, .int v_2273), (3, .int v_1009), (0, .ref ob), (1, .int a1)]) hx hb dX10_testHolds_131 hl (by decide) rfl (fun ls hl => ?_)
          exact J_133_2490 _ _ _ _ ⟨0, v_2009, (by omega), rfl, ⟨hP, hD⟩, hS, lv_sub hl [2, 3, 4, 0, 1, 5, 6, 7] rfl⟩
    · skip
      refine lv_icmp_ge (tgt := 120) hx hb dX10_testHolds_69 (by decide) (fun c_2505 => ?_) (fun c_2505 => ?_)
      · skip
        have nc_2505 := nb_le (350) (1) c_2505 nc_2262.2.1 bv_2424 (by decide)
        exact J_120_2487 _ _ _ _ ⟨(by omega), rfl, ⟨hP, hD⟩, hS, lv_sub hl [0, 1, 2, 3, 4, 5, 6, 7] rfl⟩
      · skip
        have nc_2505 := nb_nle (349) (2) c_2505 bv_2424 nc_2262.2.1 (by decide)
        refine lv_aload_n hx hb dX10_testHolds_72 rfl (lv_at hl 6 rfl) ?_
        refine va_get (D := G) (ci := 10) (v := .ref ob_world) (C := RX10) (T := TX10) (N := 41) hx hb hw0 inA_wsX100 hown hK.1 hP 0 rfl rfl 1 (by decide) (hw0 _ m_352) (fun _ h9 => h9) rfl dX10_testHolds_73 ?_
        refine lv_sipush (v := 814) hx hb dX10_testHolds_76 (by decide) ?_
        refine lv_iconst (v := 3) hx hb dX10_testHolds_79 (by decide) ?_
        refine lv_iload_n hx hb dX10_testHolds_80 rfl (lv_at hl 0 rfl) ?_
        refine lv_imul hx hb dX10_testHolds_81 ?_
        refine lv_topi (fun v_2506 ev_2506 => ?_)
        have qv_2506 := ba_mul 3 (ev_2506.trans (Int32.mul_comm _ _)) nc_2505.1 (by decide) (by decide) (by decide)
        have bv_2506 : (3 : Int) ≤ v_2506.toInt ∧ v_2506.toInt ≤ 1047 := qv_2506.2
        refine lv_iadd hx hb dX10_testHolds_82 ?_
        refine lv_topi (fun v_2507 ev_2507 => ?_)
        have qv_2507 := ba_add ev_2507 (bkc (x := 814) (c := 814) (by decide)) bv_2506 (by decide)
        have bv_2507 : (817 : Int) ≤ v_2507.toInt ∧ v_2507.toInt ≤ 1861 := bq_add qv_2507 (bkc (x := 814) (c := 814) (by decide)) bv_2506 _ _ (by decide)
        have qv_2507 : v_2507.toInt = (814) + v_2506.toInt := qv_2507
        refine va_iald hx hb hK.1 hP 1 1 rfl rfl (vi bv_2507 (by decide)) dX10_testHolds_83 ?_
        refine lv_topi (fun v_2508 ev_2508 => ?_)
        refine lv_iconst (v := 3) hx hb dX10_testHolds_84 (by decide) ?_
        refine lv_icmp_ne (tgt := 120) hx hb dX10_testHolds_85 (by decide) (fun c_2509 => ?_) (fun c_2509 => ?_)
        · skip
          have nc_2509 := nb_ne (-2147483648) (2147483647) c_2509 (btop v_2508) (k := 3) (by decide) (by decide)
          exact J_120_2487 _ _ _ _ ⟨(by omega), rfl, ⟨hP, hD⟩, hS, lv_sub hl [0, 1, 2, 3, 4, 5, 6, 7] rfl⟩
        · skip
          have nc_2509 := nb_eq (3) (3) c_2509 (btop v_2508) (bkc (x := 3) (c := 3) (by decide)) (by decide)
          refine lv_lload hx hb dX10_testHolds_88 (lv_at hl 1 rfl) ?_
          refine lv_aload_n hx hb dX10_testHolds_90 rfl (lv_at hl 6 rfl) ?_
          refine lv_iload_n hx hb dX10_testHolds_91 rfl (lv_at hl 0 rfl) ?_
          refine cVlm (As := [.int v_2424]) (rest := [.long v_2425]) ⟨hx, hb, hml, hown, hw0⟩ hA hK hP hD hS [true, true, true] (sX10_partOf l G y _ ob v_2424 ob_thrown ob_world ob_images ob_hasImage ob_tape ob_taped ob_five ob_size ob_at ob_from ob_token ob_value ob_faultKind ob_faultPlace ob_fresh ob_parts ob_houses ob_houseMany ob_worthOf ob_byCall ob_over ob_bestSet ob_bestOver ob_bestWorth ob_row ob_tenDebts ob_tenMany ob_fewestBy ob_covered ob_queue ob_cameBy ob_parent ob_met ob_calls ob_callMany ob_calledOn ob_saved ob_many ob_width ob_numbers ob_moving fob_world fob_parts p_fob_world p_ob_taped p_ob_size p_ob_at p_ob_from p_ob_token p_ob_value p_ob_faultKind p_ob_houseMany p_ob_bestSet p_ob_bestOver p_ob_tenMany p_ob_callMany (bw (0) (349) nc_2505.1 (by decide))) rfl ⟨(callB_of 1 hw0 (gA m_587) rfl rfl rfl (hw0 _ m_41) (hw0 _ m_683) cb_X10_partOf ⟨Nat.le_of_ble_eq_true rfl, Nat.le_of_ble_eq_true rfl⟩), (hw0 _ m_684), (hw0 _ m_685)⟩ (ci := 10) (q := (RX10, TX10, 41)) rfl rfl rfl hl.1 (Nat.le_of_ble_eq_true rfl) dX10_testHolds_92 ⟨Nat.le_of_ble_eq_true rfl, Nat.le_of_ble_eq_true rfl⟩ (fun r_2510 w_2510 H locs hw_2510 hP hD hS => ?_)
          obtain ⟨v_2511, er_2510, rfl⟩ := hw_2510
          subst r_2510
          obtain ⟨hP, hD⟩ : vPD G A H [(ce_X10 ob ob_thrown ob_world ob_images ob_hasImage ob_tape ob_taped ob_five ob_size ob_at ob_from ob_token ob_value ob_faultKind ob_faultPlace ob_fresh ob_parts ob_houses ob_houseMany ob_worthOf ob_byCall ob_over ob_bestSet ob_bestOver ob_bestWorth ob_row ob_tenDebts ob_tenMany ob_fewestBy ob_covered ob_queue ob_cameBy ob_parent ob_met ob_calls ob_callMany ob_calledOn ob_saved ob_many ob_width ob_numbers ob_moving), (ce_i9080 y ob_world fob_world), (ce_i6 y ob_parts fob_parts)] := ⟨hP, hD⟩
          refine lv_lmul hx hb dX10_testHolds_95 ?_
          refine lv_topl (fun v_2512 ev_2512 => ?_)
          refine lv_lstore (lv' := [(9, .long v_2512), (2, .int v_2424), (8, .int v_2273), (6, .long v_2009), (4, .long v_2010), (3, .int v_1009), (0, .ref ob), (1, .int a1)]) hx hb dX10_testHolds_96 hl (by decide) rfl (fun ls hl => ?_)
          refine lv_lload hx hb dX10_testHolds_98 (lv_at hl 0 rfl) ?_
          refine lv_ldc2 (own := RX10) (v := (-1000000000)) hx hb hown (hw0 _ m_686) dX10_testHolds_100 ?_
          refine lv_ldc2 (own := RX10) (v := 1000000000) hx hb hown (hw0 _ m_687) dX10_testHolds_103 ?_
          refine cSim (As := [.long v_2512, .long (-1000000000), .long 1000000000]) (rest := []) ⟨hx, hb, hml, hown, hw0⟩ hA hK hP hD hS [] (sX10_in l G y _ v_2512 (-1000000000) 1000000000 ) rfl ⟨(callB_of 3 hw0 (gA m_516) rfl rfl rfl (hw0 _ m_41) (hw0 _ m_345) cb_X10_in ⟨Nat.le_of_ble_eq_true rfl, Nat.le_of_ble_eq_true rfl⟩), (hw0 _ m_346)⟩ rfl hl.1 (Nat.le_of_ble_eq_true rfl) dX10_testHolds_106 ⟨Nat.le_of_ble_eq_true rfl, Nat.le_of_ble_eq_true rfl⟩ (fun r_2513 w_2513 H locs hw_2513 hP hD hS => ?_)
          rcases hw_2513 with ⟨h_2514, rfl, rfl⟩ | ⟨h_2515, rfl, rfl⟩
          · skip
            have h_2516 : v_2512.toInt < (-1000000000 : Int) ∨ (1000000000 : Int) < v_2512.toInt := in_n h_2514 rfl (by decide) (by decide)
            obtain ⟨hP, hD⟩ : vPD G A H [(ce_X10 ob ob_thrown ob_world ob_images ob_hasImage ob_tape ob_taped ob_five ob_size ob_at ob_from ob_token ob_value ob_faultKind ob_faultPlace ob_fresh ob_parts ob_houses ob_houseMany ob_worthOf ob_byCall ob_over ob_bestSet ob_bestOver ob_bestWorth ob_row ob_tenDebts ob_tenMany ob_fewestBy ob_covered ob_queue ob_cameBy ob_parent ob_met ob_calls ob_callMany ob_calledOn ob_saved ob_many ob_width ob_numbers ob_moving), (ce_i9080 y ob_world fob_world), (ce_i6 y ob_parts fob_parts)] := ⟨hP, hD⟩
            refine lv_if_ne (tgt := 114) hx hb dX10_testHolds_109 (by decide) (fun c9 => absurd (by decide) c9) (fun _ => ?_)
            refine lv_iconst (v := 0) hx hb dX10_testHolds_112 (by decide) ?_
            exact W.zret (v := 0) hx hb hr rfl (fun t ht hW => ⟨⟨0, _, rfl, Or.inl (⟨rfl, rfl⟩), by rw [ht]; exact hP, hD⟩, hS.F ht⟩) hS.2.2 dX10_testHolds_113
          · skip
            have h_2517 : (-1000000000 : Int) ≤ v_2512.toInt ∧ v_2512.toInt ≤ (1000000000 : Int) := in_y h_2515 rfl (by decide) (by decide)
            have h_2518_0 := (ltop v_2512)
            have h_2518_1 := True.intro
            have h_2518_2 := True.intro
            have h_2518 : (-1000000000 : Int) ≤ v_2512.toInt ∧ v_2512.toInt ≤ 1000000000 := by omega
            obtain ⟨hP, hD⟩ : vPD G A H [(ce_X10 ob ob_thrown ob_world ob_images ob_hasImage ob_tape ob_taped ob_five ob_size ob_at ob_from ob_token ob_value ob_faultKind ob_faultPlace ob_fresh ob_parts ob_houses ob_houseMany ob_worthOf ob_byCall ob_over ob_bestSet ob_bestOver ob_bestWorth ob_row ob_tenDebts ob_tenMany ob_fewestBy ob_covered ob_queue ob_cameBy ob_parent ob_met ob_calls ob_callMany ob_calledOn ob_saved ob_many ob_width ob_numbers ob_moving), (ce_i9080 y ob_world fob_world), (ce_i6 y ob_parts fob_parts)] := ⟨hP, hD⟩
            refine lv_if_ne (tgt := 114) hx hb dX10_testHolds_109 (by decide) (fun _ => ?_) (fun c9 => absurd c9 (by decide))
            obtain ⟨v_2519, ev_2519⟩ : ∃ z : Int32, z = v_2424 + 1 := ⟨_, rfl⟩
            have qv_2519 := ba_add ev_2519 nc_2505.1 (bkc (x := 1) (c := 1) (by decide)) (by decide)
            have bv_2519 : (2 : Int) ≤ v_2519.toInt ∧ v_2519.toInt ≤ 350 := bq_add qv_2519 nc_2505.1 (bkc (x := 1) (c := 1) (by decide)) _ _ (by decide)
            have qv_2519 : v_2519.toInt = v_2424.toInt + (1) := qv_2519
            refine lv_iinc (v := v_2519) (lv' := [(2, .int v_2519), (9, .long v_2512), (8, .int v_2273), (6, .long v_2009), (4, .long v_2010), (3, .int v_1009), (0, .ref ob), (1, .int a1)]) hx hb dX10_testHolds_114 hl (k := 1) rfl (ev_2519.symm) (by decide) rfl (fun ls hl => ?_)
            refine lv_goto (tgt := 67) hx hb dX10_testHolds_117 (by decide) ?_
            exact ih_2472 _ (ml_inc (hi := 350) hn_2472 qv_2519 (by decide) ((bw (1) (350) bv_2519 (by decide))).2) _ _ _ _ ⟨v_2519, v_2512, rfl, (bw (1) (350) bv_2519 (by decide)), (by omega), rfl, ⟨hP, hD⟩, hS, lv_sub hl [0, 1, 2, 3, 4, 5, 6, 7] rfl⟩

set_option maxHeartbeats 4000000 in
set_option maxRecDepth 100000 in
theorem sX10_lineFor (l : Launch) (G : va_G) (y : Nat → ClassId) (sz : Nat) (ob : Nat) (a1 : Int32) (a2 : Int32) (a3 : Int32) (a4 : Int32) (a5 : Int32) (ob_thrown : Int32) (ob_world : Nat) (ob_images : Nat) (ob_hasImage : Nat) (ob_tape : Nat) (ob_taped : Int32) (ob_five : Nat) (ob_size : Int32) (ob_at : Int32) (ob_from : Int32) (ob_token : Int32) (ob_value : Int32) (ob_faultKind : Int32) (ob_faultPlace : Int32) (ob_fresh : Nat) (ob_parts : Nat) (ob_houses : Nat) (ob_houseMany : Int32) (ob_worthOf : Nat) (ob_byCall : Nat) (ob_over : Nat) (ob_bestSet : Int32) (ob_bestOver : Int32) (ob_bestWorth : Int32) (ob_row : Nat) (ob_tenDebts : Nat) (ob_tenMany : Int32) (ob_fewestBy : Nat) (ob_covered : Nat) (ob_queue : Nat) (ob_cameBy : Nat) (ob_parent : Nat) (ob_met : Nat) (ob_calls : Nat) (ob_callMany : Int32) (ob_calledOn : Nat) (ob_saved : Nat) (ob_many : Nat) (ob_width : Nat) (ob_numbers : Nat) (ob_moving : Nat) (fob_world : Nat → Int32) (fob_parts : Nat → Int32) (p_fob_world : RWw fob_world) (p_ob_taped : (0 : Int) ≤ ob_taped.toInt ∧ ob_taped.toInt ≤ 1400) (p_ob_size : (0 : Int) ≤ ob_size.toInt ∧ ob_size.toInt ≤ 1400) (p_ob_at : (0 : Int) ≤ ob_at.toInt ∧ ob_at.toInt ≤ 1400) (p_ob_from : (0 : Int) ≤ ob_from.toInt ∧ ob_from.toInt ≤ 1400) (p_ob_token : (0 : Int) ≤ ob_token.toInt ∧ ob_token.toInt ≤ 4) (p_ob_value : (0 : Int) ≤ ob_value.toInt ∧ ob_value.toInt ≤ 9999) (p_ob_faultKind : (0 : Int) ≤ ob_faultKind.toInt ∧ ob_faultKind.toInt ≤ 3) (p_ob_houseMany : (0 : Int) ≤ ob_houseMany.toInt ∧ ob_houseMany.toInt ≤ 10) (p_ob_bestSet : (0 : Int) ≤ ob_bestSet.toInt ∧ ob_bestSet.toInt ≤ 1023) (p_ob_bestOver : (-1 : Int) ≤ ob_bestOver.toInt ∧ ob_bestOver.toInt ≤ 180) (p_ob_tenMany : (0 : Int) ≤ ob_tenMany.toInt ∧ ob_tenMany.toInt ≤ 10) (p_ob_callMany : (0 : Int) ≤ ob_callMany.toInt ∧ ob_callMany.toInt ≤ 16) (p_a1 : (0 : Int) ≤ a1.toInt ∧ a1.toInt ≤ 15) (p_a2 : (0 : Int) ≤ a2.toInt ∧ a2.toInt ≤ 15) (p_a4 : (0 : Int) ≤ a4.toInt ∧ a4.toInt ≤ 1) : Met l yX10_lineFor (Cond.code yX10_lineFor cX10_lineFor 10 (some .int) :: wAll) ({ frames := 2, cells := 0, slots := 0, locals := 55 }) (va_Pc [.ref ob, .int a1, .int a2, .int a3, .int a4, .int a5] (kp G y sz [(ce_X10 ob ob_thrown ob_world ob_images ob_hasImage ob_tape ob_taped ob_five ob_size ob_at ob_from ob_token ob_value ob_faultKind ob_faultPlace ob_fresh ob_parts ob_houses ob_houseMany ob_worthOf ob_byCall ob_over ob_bestSet ob_bestOver ob_bestWorth ob_row ob_tenDebts ob_tenMany ob_fewestBy ob_covered ob_queue ob_cameBy ob_parent ob_met ob_calls ob_callMany ob_calledOn ob_saved ob_many ob_width ob_numbers ob_moving), (ce_i9080 y ob_world fob_world), (ce_i6 y ob_parts fob_parts)])) (va_Qi (fun (r : Int32) (w : va_W) => (∃ (v_6099 : Int32) (f_6100 : Nat → Int32), ((-1 : Int) ≤ v_6099.toInt ∧ v_6099.toInt ≤ 23) ∧ r = v_6099 ∧ w = [(ce_X10 ob ob_thrown ob_world ob_images ob_hasImage ob_tape ob_taped ob_five ob_size ob_at ob_from ob_token ob_value ob_faultKind ob_faultPlace ob_fresh ob_parts ob_houses ob_houseMany ob_worthOf ob_byCall ob_over ob_bestSet ob_bestOver ob_bestWorth ob_row ob_tenDebts ob_tenMany ob_fewestBy ob_covered ob_queue ob_cameBy ob_parent ob_met ob_calls ob_callMany ob_calledOn ob_saved ob_many ob_width ob_numbers ob_moving), (ce_i9080 y ob_world fob_world), (ce_i6 y ob_parts f_6100)])) (kq G (va_A [(ce_X10 ob ob_thrown ob_world ob_images ob_hasImage ob_tape ob_taped ob_five ob_size ob_at ob_from ob_token ob_value ob_faultKind ob_faultPlace ob_fresh ob_parts ob_houses ob_houseMany ob_worthOf ob_byCall ob_over ob_bestSet ob_bestOver ob_bestWorth ob_row ob_tenDebts ob_tenMany ob_fewestBy ob_covered ob_queue ob_cameBy ob_parent ob_met ob_calls ob_callMany ob_calledOn ob_saved ob_many ob_width ob_numbers ob_moving), (ce_i9080 y ob_world fob_world), (ce_i6 y ob_parts fob_parts)] sz)) (va_A [(ce_X10 ob ob_thrown ob_world ob_images ob_hasImage ob_tape ob_taped ob_five ob_size ob_at ob_from ob_token ob_value ob_faultKind ob_faultPlace ob_fresh ob_parts ob_houses ob_houseMany ob_worthOf ob_byCall ob_over ob_bestSet ob_bestOver ob_bestWorth ob_row ob_tenDebts ob_tenMany ob_fewestBy ob_covered ob_queue ob_cameBy ob_parent ob_met ob_calls ob_callMany ob_calledOn ob_saved ob_many ob_width ob_numbers ob_moving), (ce_i9080 y ob_world fob_world), (ce_i6 y ob_parts fob_parts)] sz)) 0 0 (va_A [(ce_X10 ob ob_thrown ob_world ob_images ob_hasImage ob_tape ob_taped ob_five ob_size ob_at ob_from ob_token ob_value ob_faultKind ob_faultPlace ob_fresh ob_parts ob_houses ob_houseMany ob_worthOf ob_byCall ob_over ob_bestSet ob_bestOver ob_bestWorth ob_row ob_tenDebts ob_tenMany ob_fewestBy ob_covered ob_queue ob_cameBy ob_parent ob_met ob_calls ob_callMany ob_calledOn ob_saved ob_many ob_width ob_numbers ob_moving), (ce_i9080 y ob_world fob_world), (ce_i6 y ob_parts fob_parts)] sz) := by
  refine Met.ofW (cc := cX10_lineFor) (maxL := 10) (ret := (some .int)) (by decide) rfl ?_
  intro p e s m args below meth c s₁ B hml hv
  obtain ⟨rfl, hsz, hP, hK, hD0⟩ := hv
  have hx := B.exec
  have hb := B.bytes
  have hr := B.returns
  have hw0 : ∀ w ∈ wAll, w.before _ s = true := fun w h => atoms_spec (ws := Cond.code yX10_lineFor cX10_lineFor 10 (some .int) :: wAll) B.pre w (List.mem_cons_of_mem _ h)
  have hown : s.vm.findClass RX10 = some m.cls := findClass_of_methodNamed B.named
  subst hsz
  have hD := hD0.self (sz := s.heap.size)
  generalize hAe : va_A [(ce_X10 ob ob_thrown ob_world ob_images ob_hasImage ob_tape ob_taped ob_five ob_size ob_at ob_from ob_token ob_value ob_faultKind ob_faultPlace ob_fresh ob_parts ob_houses ob_houseMany ob_worthOf ob_byCall ob_over ob_bestSet ob_bestOver ob_bestWorth ob_row ob_tenDebts ob_tenMany ob_fewestBy ob_covered ob_queue ob_cameBy ob_parent ob_met ob_calls ob_callMany ob_calledOn ob_saved ob_many ob_width ob_numbers ob_moving), (ce_i9080 y ob_world fob_world), (ce_i6 y ob_parts fob_parts)] s.heap.size = A at hD ⊢
  have hA : ∀ q : Nat, s.heap.size ≤ q → A q := fun q h => by rw [← hAe]; exact Or.inr h
  have hS : va_S A s.heap s.heap [] := va_S.rf
  have hP : va_P G vwCl [(ce_X10 ob ob_thrown ob_world ob_images ob_hasImage ob_tape ob_taped ob_five ob_size ob_at ob_from ob_token ob_value ob_faultKind ob_faultPlace ob_fresh ob_parts ob_houses ob_houseMany ob_worthOf ob_byCall ob_over ob_bestSet ob_bestOver ob_bestWorth ob_row ob_tenDebts ob_tenMany ob_fewestBy ob_covered ob_queue ob_cameBy ob_parent ob_met ob_calls ob_callMany ob_calledOn ob_saved ob_many ob_width ob_numbers ob_moving), (ce_i9080 y ob_world fob_world), (ce_i6 y ob_parts fob_parts)] s.heap := hP
  have hl := lv_entry ([.ref ob, .int a1, .int a2, .int a3, .int a4, .int a5]) (n := 10) (Nat.le_of_ble_eq_true rfl)
  rw [lg_entry_eq]
  generalize (lg_sl ([.ref ob, .int a1, .int a2, .int a3, .int a4, .int a5]) ++ List.replicate (10 - (lg_sl ([.ref ob, .int a1, .int a2, .int a3, .int a4, .int a5])).length) Slot.unset).toArray = ls at hl ⊢
  have hl : lv_has ls 10 [(0, .ref ob), (1, .int a1), (2, .int a2), (3, .int a3), (4, .int a4), (5, .int a5)] := hl
  refine lv_aload_n hx hb dX10_lineFor_0 rfl (lv_at hl 0 rfl) ?_
  refine va_get (D := G) (ci := 10) (v := .ref ob_parts) (C := RX10) (T := TX10) (N := 41) hx hb hw0 inA_wsX100 hown hK.1 hP 0 rfl rfl 15 (by decide) (hw0 _ m_522) (fun _ h9 => h9) rfl dX10_lineFor_1 ?_
  refine lv_iconst (v := 0) hx hb dX10_lineFor_4 (by decide) ?_
  refine lv_aload_n hx hb dX10_lineFor_5 rfl (lv_at hl 0 rfl) ?_
  refine lv_iload_n hx hb dX10_lineFor_6 rfl (lv_at hl 1 rfl) ?_
  refine lv_iconst (v := 2) hx hb dX10_lineFor_7 (by decide) ?_
  refine cVim (As := [.int a1, .int 2]) (rest := [.int 0, .ref ob_parts]) ⟨hx, hb, hml, hown, hw0⟩ hA hK hP hD hS [true, true] (sofHouse2 l G y _ ob a1 ob_thrown ob_world ob_images ob_hasImage ob_tape ob_taped ob_five ob_size ob_at ob_from ob_token ob_value ob_faultKind ob_faultPlace ob_fresh ob_parts ob_houses ob_houseMany ob_worthOf ob_byCall ob_over ob_bestSet ob_bestOver ob_bestWorth ob_row ob_tenDebts ob_tenMany ob_fewestBy ob_covered ob_queue ob_cameBy ob_parent ob_met ob_calls ob_callMany ob_calledOn ob_saved ob_many ob_width ob_numbers ob_moving fob_world p_fob_world p_ob_taped p_ob_size p_ob_at p_ob_from p_ob_token p_ob_value p_ob_faultKind p_ob_houseMany p_ob_bestSet p_ob_bestOver p_ob_tenMany p_ob_callMany p_a1) rfl ⟨(callB_of 2 hw0 (gA m_577) rfl rfl rfl (hw0 _ m_41) (hw0 _ m_388) cb_X10_ofHouse ⟨Nat.le_of_ble_eq_true rfl, Nat.le_of_ble_eq_true rfl⟩), (hw0 _ m_389), (hw0 _ m_390)⟩ (ci := 10) (q := (RX10, TX10, 41)) rfl rfl rfl hl.1 (Nat.le_of_ble_eq_true rfl) dX10_lineFor_8 ⟨Nat.le_of_ble_eq_true rfl, Nat.le_of_ble_eq_true rfl⟩ (fun r_1001 w_1001 H locs hw_1001 hP hD hS => ?_)
  obtain ⟨v_1002, er_1001, rfl⟩ := hw_1001
  subst r_1001
  obtain ⟨hP, hD⟩ : vPD G A H [(ce_X10 ob ob_thrown ob_world ob_images ob_hasImage ob_tape ob_taped ob_five ob_size ob_at ob_from ob_token ob_value ob_faultKind ob_faultPlace ob_fresh ob_parts ob_houses ob_houseMany ob_worthOf ob_byCall ob_over ob_bestSet ob_bestOver ob_bestWorth ob_row ob_tenDebts ob_tenMany ob_fewestBy ob_covered ob_queue ob_cameBy ob_parent ob_met ob_calls ob_callMany ob_calledOn ob_saved ob_many ob_width ob_numbers ob_moving), (ce_i9080 y ob_world fob_world), (ce_i6 y ob_parts fob_parts)] := ⟨hP, hD⟩
  refine va_iast hx hb hK.1 hP hD hS 2 1 rfl rfl (vi (bkc (x := 0) (c := 0) (by decide)) (by decide)) dX10_lineFor_11 (fun H locs hP hD hS => ?_)
  generalize hf_1003 : (upd fob_parts (0 : Int32).toNatClampNeg v_1002) = f_1003 at hP hD
  obtain ⟨hP, hD⟩ : vPD G A H [(ce_X10 ob ob_thrown ob_world ob_images ob_hasImage ob_tape ob_taped ob_five ob_size ob_at ob_from ob_token ob_value ob_faultKind ob_faultPlace ob_fresh ob_parts ob_houses ob_houseMany ob_worthOf ob_byCall ob_over ob_bestSet ob_bestOver ob_bestWorth ob_row ob_tenDebts ob_tenMany ob_fewestBy ob_covered ob_queue ob_cameBy ob_parent ob_met ob_calls ob_callMany ob_calledOn ob_saved ob_many ob_width ob_numbers ob_moving), (ce_i9080 y ob_world fob_world), (ce_i6 y ob_parts f_1003)] := ⟨hP, hD⟩
  refine lv_aload_n hx hb dX10_lineFor_12 rfl (lv_at hl 0 rfl) ?_
  refine va_get (D := G) (ci := 10) (v := .ref ob_parts) (C := RX10) (T := TX10) (N := 41) hx hb hw0 inA_wsX100 hown hK.1 hP 0 rfl rfl 15 (by decide) (hw0 _ m_522) (fun _ h9 => h9) rfl dX10_lineFor_13 ?_
  refine lv_iconst (v := 1) hx hb dX10_lineFor_16 (by decide) ?_
  refine lv_aload_n hx hb dX10_lineFor_17 rfl (lv_at hl 0 rfl) ?_
  refine lv_iload_n hx hb dX10_lineFor_18 rfl (lv_at hl 2 rfl) ?_
  refine lv_iconst (v := 2) hx hb dX10_lineFor_19 (by decide) ?_
  refine cVim (As := [.int a2, .int 2]) (rest := [.int 1, .ref ob_parts]) ⟨hx, hb, hml, hown, hw0⟩ hA hK hP hD hS [true, true] (sofHouse2 l G y _ ob a2 ob_thrown ob_world ob_images ob_hasImage ob_tape ob_taped ob_five ob_size ob_at ob_from ob_token ob_value ob_faultKind ob_faultPlace ob_fresh ob_parts ob_houses ob_houseMany ob_worthOf ob_byCall ob_over ob_bestSet ob_bestOver ob_bestWorth ob_row ob_tenDebts ob_tenMany ob_fewestBy ob_covered ob_queue ob_cameBy ob_parent ob_met ob_calls ob_callMany ob_calledOn ob_saved ob_many ob_width ob_numbers ob_moving fob_world p_fob_world p_ob_taped p_ob_size p_ob_at p_ob_from p_ob_token p_ob_value p_ob_faultKind p_ob_houseMany p_ob_bestSet p_ob_bestOver p_ob_tenMany p_ob_callMany p_a2) rfl ⟨(callB_of 2 hw0 (gA m_577) rfl rfl rfl (hw0 _ m_41) (hw0 _ m_388) cb_X10_ofHouse ⟨Nat.le_of_ble_eq_true rfl, Nat.le_of_ble_eq_true rfl⟩), (hw0 _ m_389), (hw0 _ m_390)⟩ (ci := 10) (q := (RX10, TX10, 41)) rfl rfl rfl hl.1 (Nat.le_of_ble_eq_true rfl) dX10_lineFor_20 ⟨Nat.le_of_ble_eq_true rfl, Nat.le_of_ble_eq_true rfl⟩ (fun r_1004 w_1004 H locs hw_1004 hP hD hS => ?_)
  obtain ⟨v_1005, er_1004, rfl⟩ := hw_1004
  subst r_1004
  obtain ⟨hP, hD⟩ : vPD G A H [(ce_X10 ob ob_thrown ob_world ob_images ob_hasImage ob_tape ob_taped ob_five ob_size ob_at ob_from ob_token ob_value ob_faultKind ob_faultPlace ob_fresh ob_parts ob_houses ob_houseMany ob_worthOf ob_byCall ob_over ob_bestSet ob_bestOver ob_bestWorth ob_row ob_tenDebts ob_tenMany ob_fewestBy ob_covered ob_queue ob_cameBy ob_parent ob_met ob_calls ob_callMany ob_calledOn ob_saved ob_many ob_width ob_numbers ob_moving), (ce_i9080 y ob_world fob_world), (ce_i6 y ob_parts f_1003)] := ⟨hP, hD⟩
  refine va_iast hx hb hK.1 hP hD hS 2 1 rfl rfl (vi (bkc (x := 1) (c := 1) (by decide)) (by decide)) dX10_lineFor_23 (fun H locs hP hD hS => ?_)
  generalize hf_1006 : (upd f_1003 (1 : Int32).toNatClampNeg v_1005) = f_1006 at hP hD
  obtain ⟨hP, hD⟩ : vPD G A H [(ce_X10 ob ob_thrown ob_world ob_images ob_hasImage ob_tape ob_taped ob_five ob_size ob_at ob_from ob_token ob_value ob_faultKind ob_faultPlace ob_fresh ob_parts ob_houses ob_houseMany ob_worthOf ob_byCall ob_over ob_bestSet ob_bestOver ob_bestWorth ob_row ob_tenDebts ob_tenMany ob_fewestBy ob_covered ob_queue ob_cameBy ob_parent ob_met ob_calls ob_callMany ob_calledOn ob_saved ob_many ob_width ob_numbers ob_moving), (ce_i9080 y ob_world fob_world), (ce_i6 y ob_parts f_1006)] := ⟨hP, hD⟩
  refine lv_aload_n hx hb dX10_lineFor_24 rfl (lv_at hl 0 rfl) ?_
  refine va_get (D := G) (ci := 10) (v := .ref ob_parts) (C := RX10) (T := TX10) (N := 41) hx hb hw0 inA_wsX100 hown hK.1 hP 0 rfl rfl 15 (by decide) (hw0 _ m_522) (fun _ h9 => h9) rfl dX10_lineFor_25 ?_
  refine lv_iconst (v := 2) hx hb dX10_lineFor_28 (by decide) ?_
  refine lv_aload_n hx hb dX10_lineFor_29 rfl (lv_at hl 0 rfl) ?_
  refine lv_iload_n hx hb dX10_lineFor_30 rfl (lv_at hl 2 rfl) ?_
  refine cVim (As := [.int a2]) (rest := [.int 2, .ref ob_parts]) ⟨hx, hb, hml, hown, hw0⟩ hA hK hP hD hS [true, true] (sX10_debtsOf l G y _ ob a2 ob_thrown ob_world ob_images ob_hasImage ob_tape ob_taped ob_five ob_size ob_at ob_from ob_token ob_value ob_faultKind ob_faultPlace ob_fresh ob_parts ob_houses ob_houseMany ob_worthOf ob_byCall ob_over ob_bestSet ob_bestOver ob_bestWorth ob_row ob_tenDebts ob_tenMany ob_fewestBy ob_covered ob_queue ob_cameBy ob_parent ob_met ob_calls ob_callMany ob_calledOn ob_saved ob_many ob_width ob_numbers ob_moving fob_world p_fob_world p_ob_taped p_ob_size p_ob_at p_ob_from p_ob_token p_ob_value p_ob_faultKind p_ob_houseMany p_ob_bestSet p_ob_bestOver p_ob_tenMany p_ob_callMany) rfl ⟨(callB_of 1 hw0 (gA m_427) rfl rfl rfl (hw0 _ m_41) (hw0 _ m_424) cb_X10_debtsOf ⟨Nat.le_of_ble_eq_true rfl, Nat.le_of_ble_eq_true rfl⟩), (hw0 _ m_425), (hw0 _ m_426)⟩ (ci := 10) (q := (RX10, TX10, 41)) rfl rfl rfl hl.1 (Nat.le_of_ble_eq_true rfl) dX10_lineFor_31 ⟨Nat.le_of_ble_eq_true rfl, Nat.le_of_ble_eq_true rfl⟩ (fun r_1007 w_1007 H locs hw_1007 hP hD hS => ?_)
  obtain ⟨v_1008, er_1007, rfl⟩ := hw_1007
  subst r_1007
  obtain ⟨hP, hD⟩ : vPD G A H [(ce_X10 ob ob_thrown ob_world ob_images ob_hasImage ob_tape ob_taped ob_five ob_size ob_at ob_from ob_token ob_value ob_faultKind ob_faultPlace ob_fresh ob_parts ob_houses ob_houseMany ob_worthOf ob_byCall ob_over ob_bestSet ob_bestOver ob_bestWorth ob_row ob_tenDebts ob_tenMany ob_fewestBy ob_covered ob_queue ob_cameBy ob_parent ob_met ob_calls ob_callMany ob_calledOn ob_saved ob_many ob_width ob_numbers ob_moving), (ce_i9080 y ob_world fob_world), (ce_i6 y ob_parts f_1006)] := ⟨hP, hD⟩
  refine va_iast hx hb hK.1 hP hD hS 2 1 rfl rfl (vi (bkc (x := 2) (c := 2) (by decide)) (by decide)) dX10_lineFor_34 (fun H locs hP hD hS => ?_)
  generalize hf_1009 : (upd f_1006 (2 : Int32).toNatClampNeg v_1008) = f_1009 at hP hD
  obtain ⟨hP, hD⟩ : vPD G A H [(ce_X10 ob ob_thrown ob_world ob_images ob_hasImage ob_tape ob_taped ob_five ob_size ob_at ob_from ob_token ob_value ob_faultKind ob_faultPlace ob_fresh ob_parts ob_houses ob_houseMany ob_worthOf ob_byCall ob_over ob_bestSet ob_bestOver ob_bestWorth ob_row ob_tenDebts ob_tenMany ob_fewestBy ob_covered ob_queue ob_cameBy ob_parent ob_met ob_calls ob_callMany ob_calledOn ob_saved ob_many ob_width ob_numbers ob_moving), (ce_i9080 y ob_world fob_world), (ce_i6 y ob_parts f_1009)] := ⟨hP, hD⟩
  refine lv_aload_n hx hb dX10_lineFor_35 rfl (lv_at hl 0 rfl) ?_
  refine va_get (D := G) (ci := 10) (v := .ref ob_parts) (C := RX10) (T := TX10) (N := 41) hx hb hw0 inA_wsX100 hown hK.1 hP 0 rfl rfl 15 (by decide) (hw0 _ m_522) (fun _ h9 => h9) rfl dX10_lineFor_36 ?_
  refine lv_iconst (v := 3) hx hb dX10_lineFor_39 (by decide) ?_
  refine lv_iload hx hb dX10_lineFor_40 (lv_at hl 5 rfl) ?_
  refine va_iast hx hb hK.1 hP hD hS 2 1 rfl rfl (vi (bkc (x := 3) (c := 3) (by decide)) (by decide)) dX10_lineFor_42 (fun H locs hP hD hS => ?_)
  generalize hf_1010 : (upd f_1009 (3 : Int32).toNatClampNeg a5) = f_1010 at hP hD
  obtain ⟨hP, hD⟩ : vPD G A H [(ce_X10 ob ob_thrown ob_world ob_images ob_hasImage ob_tape ob_taped ob_five ob_size ob_at ob_from ob_token ob_value ob_faultKind ob_faultPlace ob_fresh ob_parts ob_houses ob_houseMany ob_worthOf ob_byCall ob_over ob_bestSet ob_bestOver ob_bestWorth ob_row ob_tenDebts ob_tenMany ob_fewestBy ob_covered ob_queue ob_cameBy ob_parent ob_met ob_calls ob_callMany ob_calledOn ob_saved ob_many ob_width ob_numbers ob_moving), (ce_i9080 y ob_world fob_world), (ce_i6 y ob_parts f_1010)] := ⟨hP, hD⟩
  refine lv_aload_n hx hb dX10_lineFor_43 rfl (lv_at hl 0 rfl) ?_
  refine va_get (D := G) (ci := 10) (v := .ref ob_parts) (C := RX10) (T := TX10) (N := 41) hx hb hw0 inA_wsX100 hown hK.1 hP 0 rfl rfl 15 (by decide) (hw0 _ m_522) (fun _ h9 => h9) rfl dX10_lineFor_44 ?_
  refine lv_iconst (v := 4) hx hb dX10_lineFor_47 (by decide) ?_
  refine lv_iload hx hb dX10_lineFor_48 (lv_at hl 4 rfl) ?_
  refine cutW 58 (fun H locs ls st => ∃ (v_1012 : Int32), ((0 : Int) ≤ v_1012.toInt ∧ v_1012.toInt ≤ 1) ∧ st = [.int v_1012, .int 4, .ref ob_parts] ∧ vPD G A H [(ce_X10 ob ob_thrown ob_world ob_images ob_hasImage ob_tape ob_taped ob_five ob_size ob_at ob_from ob_token ob_value ob_faultKind ob_faultPlace ob_fresh ob_parts ob_houses ob_houseMany ob_worthOf ob_byCall ob_over ob_bestSet ob_bestOver ob_bestWorth ob_row ob_tenDebts ob_tenMany ob_fewestBy ob_covered ob_queue ob_cameBy ob_parent ob_met ob_calls ob_callMany ob_calledOn ob_saved ob_many ob_width ob_numbers ob_moving), (ce_i9080 y ob_world fob_world), (ce_i6 y ob_parts f_1010)] ∧ va_S A s.heap H locs ∧ lv_has ls 10 [(0, .ref ob), (3, .int a3)]) ?_ (fun J_58_1012 => ?_)
  · rintro H locs ls st ⟨v_1012, bv_1012, rfl, ⟨hP, hD⟩, hS, hl⟩
    refine va_iast hx hb hK.1 hP hD hS 2 1 rfl rfl (vi (bkc (x := 4) (c := 4) (by decide)) (by decide)) dX10_lineFor_58 (fun H locs hP hD hS => ?_)
    generalize hf_1013 : (upd f_1010 (4 : Int32).toNatClampNeg v_1012) = f_1013 at hP hD
    obtain ⟨hP, hD⟩ : vPD G A H [(ce_X10 ob ob_thrown ob_world ob_images ob_hasImage ob_tape ob_taped ob_five ob_size ob_at ob_from ob_token ob_value ob_faultKind ob_faultPlace ob_fresh ob_parts ob_houses ob_houseMany ob_worthOf ob_byCall ob_over ob_bestSet ob_bestOver ob_bestWorth ob_row ob_tenDebts ob_tenMany ob_fewestBy ob_covered ob_queue ob_cameBy ob_parent ob_met ob_calls ob_callMany ob_calledOn ob_saved ob_many ob_width ob_numbers ob_moving), (ce_i9080 y ob_world fob_world), (ce_i6 y ob_parts f_1013)] := ⟨hP, hD⟩
    refine lv_iconst (v := 0) hx hb dX10_lineFor_59 (by decide) ?_
    refine lv_istore (lv' := [(6, .int 0), (0, .ref ob), (3, .int a3)]) hx hb dX10_lineFor_60 hl (by decide) rfl (fun ls hl => ?_)
    refine loopX (fun n H locs ls st => ∃ (v_3616 : Int32), (24 - v_3616.toInt).toNat = n ∧ ((0 : Int) ≤ v_3616.toInt ∧ v_3616.toInt ≤ 24) ∧ st = [] ∧ vPD G A H [(ce_X10 ob ob_thrown ob_world ob_images ob_hasImage ob_tape ob_taped ob_five ob_size ob_at ob_from ob_token ob_value ob_faultKind ob_faultPlace ob_fresh ob_parts ob_houses ob_houseMany ob_worthOf ob_byCall ob_over ob_bestSet ob_bestOver ob_bestWorth ob_row ob_tenDebts ob_tenMany ob_fewestBy ob_covered ob_queue ob_cameBy ob_parent ob_met ob_calls ob_callMany ob_calledOn ob_saved ob_many ob_width ob_numbers ob_moving), (ce_i9080 y ob_world fob_world), (ce_i6 y ob_parts f_1013)] ∧ va_S A s.heap H locs ∧ lv_has ls 10 [(6, .int v_3616), (0, .ref ob), (3, .int a3)]) ?_ (n := (24 - (0 : Int32).toInt).toNat) ⟨0, rfl, (bw (0) (24) (bkc (x := 0) (c := 0) (by decide)) (by decide)), rfl, ⟨hP, hD⟩, hS, lv_sub hl [0, 1, 2] rfl⟩
    rintro n ih_3832 H locs ls st ⟨v_3616, hn_3832, bv_3616, rfl, ⟨hP, hD⟩, hS, hl⟩
    refine lv_iload hx hb dX10_lineFor_62 (lv_at hl 0 rfl) ?_
    refine lv_aload_n hx hb dX10_lineFor_64 rfl (lv_at hl 1 rfl) ?_
    refine va_get (D := G) (ci := 10) (v := .ref ob_world) (C := RX10) (T := TX10) (N := 41) hx hb hw0 inA_wsX100 hown hK.1 hP 0 rfl rfl 1 (by decide) (hw0 _ m_352) (fun _ h9 => h9) rfl dX10_lineFor_65 ?_
    refine lv_iconst (v := 1) hx hb dX10_lineFor_68 (by decide) ?_
    refine va_iald hx hb hK.1 hP 1 1 rfl rfl (vi (bkc (x := 1) (c := 1) (by decide)) (by decide)) dX10_lineFor_69 ?_
    refine lv_topi (fun v_3833 ev_3833 => ?_)
    have bv_3833 : (0 : Int) ≤ v_3833.toInt ∧ v_3833.toInt ≤ 24 := rdk ev_3833 (p_fob_world).1.1 (by decide)
    have yv_3833 : v_3833.toInt = (fob_world 1).toInt := congrArg Int32.toInt ev_3833
    refine lv_icmp_ge (tgt := 160) hx hb dX10_lineFor_70 (by decide) (fun c_3834 => ?_) (fun c_3834 => ?_)
    · skip
      have nc_3834 := nb_le (24) (0) c_3834 bv_3833 bv_3616 (by decide)
      refine lv_iconst (v := (-1)) hx hb dX10_lineFor_160 (by decide) ?_
      exact W.iret (v := (-1)) hx hb hr (fun t ht hW => ⟨⟨(-1), _, rfl, ⟨(-1), f_1013, (bw (-1) (23) (bkc (x := (-1)) (c := -1) (by decide)) (by decide)), rfl, rfl⟩, by rw [ht]; exact hP, hD⟩, hS.F ht⟩) hS.2.2 dX10_lineFor_161
    · skip
      have nc_3834 := nb_nle (23) (1) c_3834 bv_3616 bv_3833 (by decide)
      refine lv_sipush (v := 154) hx hb dX10_lineFor_73 (by decide) ?_
      refine lv_iconst (v := 5) hx hb dX10_lineFor_76 (by decide) ?_
      refine lv_iload hx hb dX10_lineFor_77 (lv_at hl 0 rfl) ?_
      refine lv_imul hx hb dX10_lineFor_79 ?_
      refine lv_topi (fun v_3835 ev_3835 => ?_)
      have qv_3835 := ba_mul 5 (ev_3835.trans (Int32.mul_comm _ _)) nc_3834.1 (by decide) (by decide) (by decide)
      have bv_3835 : (0 : Int) ≤ v_3835.toInt ∧ v_3835.toInt ≤ 115 := qv_3835.2
      refine lv_iadd hx hb dX10_lineFor_80 ?_
      refine lv_topi (fun v_3836 ev_3836 => ?_)
      have qv_3836 := ba_add ev_3836 (bkc (x := 154) (c := 154) (by decide)) bv_3835 (by decide)
      have bv_3836 : (154 : Int) ≤ v_3836.toInt ∧ v_3836.toInt ≤ 269 := bq_add qv_3836 (bkc (x := 154) (c := 154) (by decide)) bv_3835 _ _ (by decide)
      have qv_3836 : v_3836.toInt = (154) + v_3835.toInt := qv_3836
      refine lv_istore (lv' := [(7, .int v_3836), (6, .int v_3616), (0, .ref ob), (3, .int a3)]) hx hb dX10_lineFor_81 hl (by decide) rfl (fun ls hl => ?_)
      refine lv_aload_n hx hb dX10_lineFor_83 rfl (lv_at hl 2 rfl) ?_
      refine va_get (D := G) (ci := 10) (v := .ref ob_world) (C := RX10) (T := TX10) (N := 41) hx hb hw0 inA_wsX100 hown hK.1 hP 0 rfl rfl 1 (by decide) (hw0 _ m_352) (fun _ h9 => h9) rfl dX10_lineFor_84 ?_
      refine lv_iload hx hb dX10_lineFor_87 (lv_at hl 0 rfl) ?_
      refine va_iald hx hb hK.1 hP 1 1 rfl rfl (vi bv_3836 (by decide)) dX10_lineFor_89 ?_
      refine lv_topi (fun v_3837 ev_3837 => ?_)
      refine lv_iload_n hx hb dX10_lineFor_90 rfl (lv_at hl 3 rfl) ?_
      refine cutW 154 (fun H locs ls st => st = [] ∧ vPD G A H [(ce_X10 ob ob_thrown ob_world ob_images ob_hasImage ob_tape ob_taped ob_five ob_size ob_at ob_from ob_token ob_value ob_faultKind ob_faultPlace ob_fresh ob_parts ob_houses ob_houseMany ob_worthOf ob_byCall ob_over ob_bestSet ob_bestOver ob_bestWorth ob_row ob_tenDebts ob_tenMany ob_fewestBy ob_covered ob_queue ob_cameBy ob_parent ob_met ob_calls ob_callMany ob_calledOn ob_saved ob_many ob_width ob_numbers ob_moving), (ce_i9080 y ob_world fob_world), (ce_i6 y ob_parts f_1013)] ∧ va_S A s.heap H locs ∧ lv_has ls 10 [(6, .int v_3616), (0, .ref ob), (3, .int a3)]) ?_ (fun J_154_3942 => ?_)
      · rintro H locs ls st ⟨rfl, ⟨hP, hD⟩, hS, hl⟩
        obtain ⟨v_3943, ev_3943⟩ : ∃ z : Int32, z = v_3616 + 1 := ⟨_, rfl⟩
        have qv_3943 := ba_add ev_3943 nc_3834.1 (bkc (x := 1) (c := 1) (by decide)) (by decide)
        have bv_3943 : (1 : Int) ≤ v_3943.toInt ∧ v_3943.toInt ≤ 24 := bq_add qv_3943 nc_3834.1 (bkc (x := 1) (c := 1) (by decide)) _ _ (by decide)
        have qv_3943 : v_3943.toInt = v_3616.toInt + (1) := qv_3943
        refine lv_iinc (v := v_3943) (lv' := [(6, .int v_3943), (0, .ref ob), (3, .int a3)]) hx hb dX10_lineFor_154 hl (k := 0) rfl (ev_3943.symm) (by decide) rfl (fun ls hl => ?_)
        refine lv_goto (tgt := 62) hx hb dX10_lineFor_157 (by decide) ?_
        exact ih_3832 _ (ml_inc (hi := 24) hn_3832 qv_3943 (by decide) ((bw (0) (24) bv_3943 (by decide))).2) _ _ _ _ ⟨v_3943, rfl, (bw (0) (24) bv_3943 (by decide)), rfl, ⟨hP, hD⟩, hS, lv_sub hl [0, 1, 2] rfl⟩
      · skip
        refine lv_icmp_eq (tgt := 97) hx hb dX10_lineFor_91 (by decide) (fun c_3944 => ?_) (fun c_3944 => ?_)
        · skip
          have nc_3944 := nb_eq (-2147483648) (2147483647) c_3944 (btop v_3837) (btop a3) (by decide)
          refine lv_iconst (v := 1) hx hb dX10_lineFor_97 (by decide) ?_
          refine lv_istore (lv' := [(8, .int 1), (7, .int v_3836), (6, .int v_3616), (0, .ref ob), (3, .int a3)]) hx hb dX10_lineFor_98 hl (by decide) rfl (fun ls hl => ?_)
          refine lv_iconst (v := 0) hx hb dX10_lineFor_100 (by decide) ?_
          refine lv_istore (lv' := [(9, .int 0), (8, .int 1), (7, .int v_3836), (6, .int v_3616), (0, .ref ob), (3, .int a3)]) hx hb dX10_lineFor_101 hl (by decide) rfl (fun ls hl => ?_)
          refine loopX (fun n H locs ls st => ∃ (v_4005 : Int32) (v_4006 : Int32), (180 - v_4005.toInt).toNat = n ∧ ((0 : Int) ≤ v_4005.toInt ∧ v_4005.toInt ≤ 180) ∧ ((0 : Int) ≤ v_4006.toInt ∧ v_4006.toInt ≤ 1) ∧ st = [] ∧ vPD G A H [(ce_X10 ob ob_thrown ob_world ob_images ob_hasImage ob_tape ob_taped ob_five ob_size ob_at ob_from ob_token ob_value ob_faultKind ob_faultPlace ob_fresh ob_parts ob_houses ob_houseMany ob_worthOf ob_byCall ob_over ob_bestSet ob_bestOver ob_bestWorth ob_row ob_tenDebts ob_tenMany ob_fewestBy ob_covered ob_queue ob_cameBy ob_parent ob_met ob_calls ob_callMany ob_calledOn ob_saved ob_many ob_width ob_numbers ob_moving), (ce_i9080 y ob_world fob_world), (ce_i6 y ob_parts f_1013)] ∧ va_S A s.heap H locs ∧ lv_has ls 10 [(9, .int v_4005), (8, .int v_4006), (7, .int v_3836), (6, .int v_3616), (0, .ref ob), (3, .int a3)]) ?_ (n := (180 - (0 : Int32).toInt).toNat) ⟨0, 1, rfl, (bw (0) (180) (bkc (x := 0) (c := 0) (by decide)) (by decide)), (bw (0) (1) (bkc (x := 1) (c := 1) (by decide)) (by decide)), rfl, ⟨hP, hD⟩, hS, lv_sub hl [0, 1, 2, 3, 4, 5] rfl⟩
          rintro n ih_4027 H locs ls st ⟨v_4005, v_4006, hn_4027, bv_4005, bv_4006, rfl, ⟨hP, hD⟩, hS, hl⟩
          refine lv_iload hx hb dX10_lineFor_103 (lv_at hl 0 rfl) ?_
          refine lv_aload_n hx hb dX10_lineFor_105 rfl (lv_at hl 4 rfl) ?_
          refine va_get (D := G) (ci := 10) (v := .ref ob_world) (C := RX10) (T := TX10) (N := 41) hx hb hw0 inA_wsX100 hown hK.1 hP 0 rfl rfl 1 (by decide) (hw0 _ m_352) (fun _ h9 => h9) rfl dX10_lineFor_106 ?_
          refine lv_iload hx hb dX10_lineFor_109 (lv_at hl 2 rfl) ?_
          refine lv_iconst (v := 4) hx hb dX10_lineFor_111 (by decide) ?_
          refine lv_iadd hx hb dX10_lineFor_112 ?_
          refine lv_topi (fun v_4028 ev_4028 => ?_)
          have qv_4028 := ba_add ev_4028 bv_3836 (bkc (x := 4) (c := 4) (by decide)) (by decide)
          have bv_4028 : (158 : Int) ≤ v_4028.toInt ∧ v_4028.toInt ≤ 273 := bq_add qv_4028 bv_3836 (bkc (x := 4) (c := 4) (by decide)) _ _ (by decide)
          have qv_4028 : v_4028.toInt = v_3836.toInt + (4) := qv_4028
          refine va_iald hx hb hK.1 hP 1 1 rfl rfl (vi bv_4028 (by decide)) dX10_lineFor_113 ?_
          refine lv_topi (fun v_4029 ev_4029 => ?_)
          have bv_4029 : (0 : Int) ≤ v_4029.toInt ∧ v_4029.toInt ≤ 180 := rdw ev_4029 (p_fob_world).1.1 pl_33 (by omega) (nc_3834.1)
          have wv_4029 : v_4029.toInt = (fob_world (158 + 5 * v_3616.toInt.toNat)).toInt := by rw [ev_4029, el_at (c := 158) (a := 5) (x := v_3616) (by omega) (by omega)]
          refine cutW 146 (fun H locs ls st => st = [] ∧ vPD G A H [(ce_X10 ob ob_thrown ob_world ob_images ob_hasImage ob_tape ob_taped ob_five ob_size ob_at ob_from ob_token ob_value ob_faultKind ob_faultPlace ob_fresh ob_parts ob_houses ob_houseMany ob_worthOf ob_byCall ob_over ob_bestSet ob_bestOver ob_bestWorth ob_row ob_tenDebts ob_tenMany ob_fewestBy ob_covered ob_queue ob_cameBy ob_parent ob_met ob_calls ob_callMany ob_calledOn ob_saved ob_many ob_width ob_numbers ob_moving), (ce_i9080 y ob_world fob_world), (ce_i6 y ob_parts f_1013)] ∧ va_S A s.heap H locs ∧ lv_has ls 10 [(8, .int v_4006), (6, .int v_3616), (0, .ref ob), (3, .int a3)]) ?_ (fun J_146_4038 => ?_)
          · rintro H locs ls st ⟨rfl, ⟨hP, hD⟩, hS, hl⟩
            refine lv_iload hx hb dX10_lineFor_146 (lv_at hl 0 rfl) ?_
            refine lv_if_eq (tgt := 154) hx hb dX10_lineFor_148 (by decide) (fun c_4039 => ?_) (fun c_4039 => ?_)
            · skip
              have nc_4039 := nb_eq (0) (0) c_4039 bv_4006 (bkc (x := 0) (c := 0) (by decide)) (by decide)
              exact J_154_3942 _ _ _ _ ⟨rfl, ⟨hP, hD⟩, hS, lv_sub hl [1, 2, 3] rfl⟩
            · skip
              have nc_4039 := nb_ne (1) (1) c_4039 bv_4006 (k := 0) (by decide) (by decide)
              refine lv_iload hx hb dX10_lineFor_151 (lv_at hl 1 rfl) ?_
              exact W.iret (v := v_3616) hx hb hr (fun t ht hW => ⟨⟨v_3616, _, rfl, ⟨v_3616, f_1013, (bw (-1) (23) nc_3834.1 (by decide)), rfl, rfl⟩, by rw [ht]; exact hP, hD⟩, hS.F ht⟩) hS.2.2 dX10_lineFor_153
          · skip
            refine lv_icmp_ge (tgt := 146) hx hb dX10_lineFor_114 (by decide) (fun c_4040 => ?_) (fun c_4040 => ?_)
            · skip
              have nc_4040 := nb_le (180) (0) c_4040 bv_4029 bv_4005 (by decide)
              exact J_146_4038 _ _ _ _ ⟨rfl, ⟨hP, hD⟩, hS, lv_sub hl [1, 3, 4, 5] rfl⟩
            · skip
              have nc_4040 := nb_nle (179) (1) c_4040 bv_4005 bv_4029 (by decide)
              refine lv_iload hx hb dX10_lineFor_117 (lv_at hl 1 rfl) ?_
              refine lv_if_eq (tgt := 146) hx hb dX10_lineFor_119 (by decide) (fun c_4041 => ?_) (fun c_4041 => ?_)
              · skip
                have nc_4041 := nb_eq (0) (0) c_4041 bv_4006 (bkc (x := 0) (c := 0) (by decide)) (by decide)
                exact J_146_4038 _ _ _ _ ⟨rfl, ⟨hP, hD⟩, hS, lv_sub hl [1, 3, 4, 5] rfl⟩
              · skip
                have nc_4041 := nb_ne (1) (1) c_4041 bv_4006 (k := 0) (by decide) (by decide)
                refine lv_aload_n hx hb dX10_lineFor_122 rfl (lv_at hl 4 rfl) ?_
                refine lv_aload_n hx hb dX10_lineFor_123 rfl (lv_at hl 4 rfl) ?_
                refine va_get (D := G) (ci := 10) (v := .ref ob_world) (C := RX10) (T := TX10) (N := 41) hx hb hw0 inA_wsX100 hown hK.1 hP 0 rfl rfl 1 (by decide) (hw0 _ m_352) (fun _ h9 => h9) rfl dX10_lineFor_124 ?_
                refine lv_iload hx hb dX10_lineFor_127 (lv_at hl 2 rfl) ?_
                refine lv_iconst (v := 3) hx hb dX10_lineFor_129 (by decide) ?_
                refine lv_iadd hx hb dX10_lineFor_130 ?_
                refine lv_topi (fun v_4042 ev_4042 => ?_)
                have qv_4042 := ba_add ev_4042 bv_3836 (bkc (x := 3) (c := 3) (by decide)) (by decide)
                have bv_4042 : (157 : Int) ≤ v_4042.toInt ∧ v_4042.toInt ≤ 272 := bq_add qv_4042 bv_3836 (bkc (x := 3) (c := 3) (by decide)) _ _ (by decide)
                have qv_4042 : v_4042.toInt = v_3836.toInt + (3) := qv_4042
                refine va_iald hx hb hK.1 hP 1 1 rfl rfl (vi bv_4042 (by decide)) dX10_lineFor_131 ?_
                refine lv_topi (fun v_4043 ev_4043 => ?_)
                have bv_4043 : (0 : Int) ≤ v_4043.toInt ∧ v_4043.toInt ≤ 180 := rdw ev_4043 (p_fob_world).1.1 pl_34 (by omega) (nc_3834.1)
                have wv_4043 : v_4043.toInt = (fob_world (157 + 5 * v_3616.toInt.toNat)).toInt := by rw [ev_4043, el_at (c := 157) (a := 5) (x := v_3616) (by omega) (by omega)]
                refine lv_iload hx hb dX10_lineFor_132 (lv_at hl 0 rfl) ?_
                refine lv_iadd hx hb dX10_lineFor_134 ?_
                refine lv_topi (fun v_4044 ev_4044 => ?_)
                have qv_4044 := ba_add ev_4044 bv_4043 nc_4040.1 (by decide)
                have bv_4044 : (0 : Int) ≤ v_4044.toInt ∧ v_4044.toInt ≤ 359 := bq_add qv_4044 bv_4043 nc_4040.1 _ _ (by decide)
                have h9 := (p_fob_world).2.1 v_3616.toInt.toNat (by omega)
                have h_4045 : (0 : Int) ≤ v_4044.toInt ∧ v_4044.toInt ≤ 179 := by have h8 := RB_2 (p_fob_world).1.1; omega
                refine cVim (As := [.int v_4044]) (rest := []) ⟨hx, hb, hml, hown, hw0⟩ hA hK hP hD hS [true, true, true] (sX10_testHolds l G y _ ob v_4044 ob_thrown ob_world ob_images ob_hasImage ob_tape ob_taped ob_five ob_size ob_at ob_from ob_token ob_value ob_faultKind ob_faultPlace ob_fresh ob_parts ob_houses ob_houseMany ob_worthOf ob_byCall ob_over ob_bestSet ob_bestOver ob_bestWorth ob_row ob_tenDebts ob_tenMany ob_fewestBy ob_covered ob_queue ob_cameBy ob_parent ob_met ob_calls ob_callMany ob_calledOn ob_saved ob_many ob_width ob_numbers ob_moving fob_world f_1013 p_fob_world p_ob_taped p_ob_size p_ob_at p_ob_from p_ob_token p_ob_value p_ob_faultKind p_ob_houseMany p_ob_bestSet p_ob_bestOver p_ob_tenMany p_ob_callMany h_4045 (by omega)) rfl ⟨(callB_of 1 hw0 (gA m_682) rfl rfl rfl (hw0 _ m_41) (hw0 _ m_548) cb_X10_testHolds ⟨Nat.le_of_ble_eq_true rfl, Nat.le_of_ble_eq_true rfl⟩), (hw0 _ m_549), (hw0 _ m_550)⟩ (ci := 10) (q := (RX10, TX10, 41)) rfl rfl rfl hl.1 (Nat.le_of_ble_eq_true rfl) dX10_lineFor_135 ⟨Nat.le_of_ble_eq_true rfl, Nat.le_of_ble_eq_true rfl⟩ (fun r_4046 w_4046 H locs hw_4046 hP hD hS => ?_)
                rcases hw_4046 with ⟨rfl, rfl⟩ | ⟨rfl, rfl⟩
                · skip
                  obtain ⟨hP, hD⟩ : vPD G A H [(ce_X10 ob ob_thrown ob_world ob_images ob_hasImage ob_tape ob_taped ob_five ob_size ob_at ob_from ob_token ob_value ob_faultKind ob_faultPlace ob_fresh ob_parts ob_houses ob_houseMany ob_worthOf ob_byCall ob_over ob_bestSet ob_bestOver ob_bestWorth ob_row ob_tenDebts ob_tenMany ob_fewestBy ob_covered ob_queue ob_cameBy ob_parent ob_met ob_calls ob_callMany ob_calledOn ob_saved ob_many ob_width ob_numbers ob_moving), (ce_i9080 y ob_world fob_world), (ce_i6 y ob_parts f_1013)] := ⟨hP, hD⟩
                  refine lv_istore (lv' := [(8, .int 0), (9, .int v_4005), (7, .int v_3836), (6, .int v_3616), (0, .ref ob), (3, .int a3)]) hx hb dX10_lineFor_138 hl (by decide) rfl (fun ls hl => ?_)
                  obtain ⟨v_4047, ev_4047⟩ : ∃ z : Int32, z = v_4005 + 1 := ⟨_, rfl⟩
                  have qv_4047 := ba_add ev_4047 nc_4040.1 (bkc (x := 1) (c := 1) (by decide)) (by decide)
                  have bv_4047 : (1 : Int) ≤ v_4047.toInt ∧ v_4047.toInt ≤ 180 := bq_add qv_4047 nc_4040.1 (bkc (x := 1) (c := 1) (by decide)) _ _ (by decide)
                  have qv_4047 : v_4047.toInt = v_4005.toInt + (1) := qv_4047
                  refine lv_iinc (v := v_4047) (lv' := [(9, .int v_4047), (8, .int 0), (7, .int v_3836), (6, .int v_3616), (0, .ref ob), (3, .int a3)]) hx hb dX10_lineFor_140 hl (k := 1) rfl (ev_4047.symm) (by decide) rfl (fun ls hl => ?_)
                  refine lv_goto (tgt := 103) hx hb dX10_lineFor_143 (by decide) ?_
                  exact ih_4027 _ (ml_inc (hi := 180) hn_4027 qv_4047 (by decide) ((bw (0) (180) bv_4047 (by decide))).2) _ _ _ _ ⟨v_4047, 0, rfl, (bw (0) (180) bv_4047 (by decide)), (bw (0) (1) (bkc (x := 0) (c := 0) (by decide)) (by decide)), rfl, ⟨hP, hD⟩, hS, lv_sub hl [0, 1, 2, 3, 4, 5] rfl⟩
                · skip
                  obtain ⟨hP, hD⟩ : vPD G A H [(ce_X10 ob ob_thrown ob_world ob_images ob_hasImage ob_tape ob_taped ob_five ob_size ob_at ob_from ob_token ob_value ob_faultKind ob_faultPlace ob_fresh ob_parts ob_houses ob_houseMany ob_worthOf ob_byCall ob_over ob_bestSet ob_bestOver ob_bestWorth ob_row ob_tenDebts ob_tenMany ob_fewestBy ob_covered ob_queue ob_cameBy ob_parent ob_met ob_calls ob_callMany ob_calledOn ob_saved ob_many ob_width ob_numbers ob_moving), (ce_i9080 y ob_world fob_world), (ce_i6 y ob_parts f_1013)] := ⟨hP, hD⟩
                  refine lv_istore (lv' := [(8, .int 1), (9, .int v_4005), (7, .int v_3836), (6, .int v_3616), (0, .ref ob), (3, .int a3)]) hx hb dX10_lineFor_138 hl (by decide) rfl (fun ls hl => ?_)
                  obtain ⟨v_4048, ev_4048⟩ : ∃ z : Int32, z = v_4005 + 1 := ⟨_, rfl⟩
                  have qv_4048 := ba_add ev_4048 nc_4040.1 (bkc (x := 1) (c := 1) (by decide)) (by decide)
                  have bv_4048 : (1 : Int) ≤ v_4048.toInt ∧ v_4048.toInt ≤ 180 := bq_add qv_4048 nc_4040.1 (bkc (x := 1) (c := 1) (by decide)) _ _ (by decide)
                  have qv_4048 : v_4048.toInt = v_4005.toInt + (1) := qv_4048
                  refine lv_iinc (v := v_4048) (lv' := [(9, .int v_4048), (8, .int 1), (7, .int v_3836), (6, .int v_3616), (0, .ref ob), (3, .int a3)]) hx hb dX10_lineFor_140 hl (k := 1) rfl (ev_4048.symm) (by decide) rfl (fun ls hl => ?_)
                  refine lv_goto (tgt := 103) hx hb dX10_lineFor_143 (by decide) ?_
                  exact ih_4027 _ (ml_inc (hi := 180) hn_4027 qv_4048 (by decide) ((bw (0) (180) bv_4048 (by decide))).2) _ _ _ _ ⟨v_4048, 1, rfl, (bw (0) (180) bv_4048 (by decide)), (bw (0) (1) (bkc (x := 1) (c := 1) (by decide)) (by decide)), rfl, ⟨hP, hD⟩, hS, lv_sub hl [0, 1, 2, 3, 4, 5] rfl⟩
        · skip
          refine lv_goto (tgt := 154) hx hb dX10_lineFor_94 (by decide) ?_
          exact J_154_3942 _ _ _ _ ⟨rfl, ⟨hP, hD⟩, hS, lv_sub hl [1, 2, 3] rfl⟩
  · skip
    refine lv_if_eq (tgt := 57) hx hb dX10_lineFor_50 (by decide) (fun c_4049 => ?_) (fun c_4049 => ?_)
    · skip
      have nc_4049 := nb_eq (0) (0) c_4049 p_a4 (bkc (x := 0) (c := 0) (by decide)) (by decide)
      refine lv_iconst (v := 0) hx hb dX10_lineFor_57 (by decide) ?_
      exact J_58_1012 _ _ _ _ ⟨0, (bw (0) (1) (bkc (x := 0) (c := 0) (by decide)) (by decide)), rfl, ⟨hP, hD⟩, hS, lv_sub hl [0, 3] rfl⟩
    · skip
      have nc_4049 := nb_ne (1) (1) c_4049 p_a4 (k := 0) (by decide) (by decide)
      refine lv_iconst (v := 1) hx hb dX10_lineFor_53 (by decide) ?_
      refine lv_goto (tgt := 58) hx hb dX10_lineFor_54 (by decide) ?_
      exact J_58_1012 _ _ _ _ ⟨1, (bw (0) (1) (bkc (x := 1) (c := 1) (by decide)) (by decide)), rfl, ⟨hP, hD⟩, hS, lv_sub hl [0, 3] rfl⟩

set_option maxHeartbeats 4000000 in
set_option maxRecDepth 100000 in
theorem sX10_comes (l : Launch) (G : va_G) (y : Nat → ClassId) (sz : Nat) (ob : Nat) (a1 : Int32) (a2 : Int32) (a3 : Int32) (a4 : Int32) (a5 : Int32) (ob_thrown : Int32) (ob_world : Nat) (ob_images : Nat) (ob_hasImage : Nat) (ob_tape : Nat) (ob_taped : Int32) (ob_five : Nat) (ob_size : Int32) (ob_at : Int32) (ob_from : Int32) (ob_token : Int32) (ob_value : Int32) (ob_faultKind : Int32) (ob_faultPlace : Int32) (ob_fresh : Nat) (ob_parts : Nat) (ob_houses : Nat) (ob_houseMany : Int32) (ob_worthOf : Nat) (ob_byCall : Nat) (ob_over : Nat) (ob_bestSet : Int32) (ob_bestOver : Int32) (ob_bestWorth : Int32) (ob_row : Nat) (ob_tenDebts : Nat) (ob_tenMany : Int32) (ob_fewestBy : Nat) (ob_covered : Nat) (ob_queue : Nat) (ob_cameBy : Nat) (ob_parent : Nat) (ob_met : Nat) (ob_calls : Nat) (ob_callMany : Int32) (ob_calledOn : Nat) (ob_saved : Nat) (ob_many : Nat) (ob_width : Nat) (ob_numbers : Nat) (ob_moving : Nat) (fob_world : Nat → Int32) (p_fob_world : RWw fob_world) (p_ob_taped : (0 : Int) ≤ ob_taped.toInt ∧ ob_taped.toInt ≤ 1400) (p_ob_size : (0 : Int) ≤ ob_size.toInt ∧ ob_size.toInt ≤ 1400) (p_ob_at : (0 : Int) ≤ ob_at.toInt ∧ ob_at.toInt ≤ 1400) (p_ob_from : (0 : Int) ≤ ob_from.toInt ∧ ob_from.toInt ≤ 1400) (p_ob_token : (0 : Int) ≤ ob_token.toInt ∧ ob_token.toInt ≤ 4) (p_ob_value : (0 : Int) ≤ ob_value.toInt ∧ ob_value.toInt ≤ 9999) (p_ob_faultKind : (0 : Int) ≤ ob_faultKind.toInt ∧ ob_faultKind.toInt ≤ 3) (p_ob_houseMany : (0 : Int) ≤ ob_houseMany.toInt ∧ ob_houseMany.toInt ≤ 10) (p_ob_bestSet : (0 : Int) ≤ ob_bestSet.toInt ∧ ob_bestSet.toInt ≤ 1023) (p_ob_bestOver : (-1 : Int) ≤ ob_bestOver.toInt ∧ ob_bestOver.toInt ≤ 180) (p_ob_tenMany : (0 : Int) ≤ ob_tenMany.toInt ∧ ob_tenMany.toInt ≤ 10) (p_ob_callMany : (0 : Int) ≤ ob_callMany.toInt ∧ ob_callMany.toInt ≤ 16) (p_a1 : (0 : Int) ≤ a1.toInt ∧ a1.toInt ≤ 15) (p_a2 : (0 : Int) ≤ a2.toInt ∧ a2.toInt ≤ 15) (hq0 : (fob_world 7).toInt < (fob_world 8).toInt) : Met l yX10_comes (Cond.code yX10_comes cX10_comes 7 none :: wAll) ({ frames := 0, cells := 0, slots := 0, locals := 0 }) (va_Pc [.ref ob, .int a1, .int a2, .int a3, .int a4, .int a5] (kp G y sz [(ce_X10 ob ob_thrown ob_world ob_images ob_hasImage ob_tape ob_taped ob_five ob_size ob_at ob_from ob_token ob_value ob_faultKind ob_faultPlace ob_fresh ob_parts ob_houses ob_houseMany ob_worthOf ob_byCall ob_over ob_bestSet ob_bestOver ob_bestWorth ob_row ob_tenDebts ob_tenMany ob_fewestBy ob_covered ob_queue ob_cameBy ob_parent ob_met ob_calls ob_callMany ob_calledOn ob_saved ob_many ob_width ob_numbers ob_moving), (ce_i9080 y ob_world fob_world)])) (va_Qv (fun (w : va_W) => (∃ (f_35 : Nat → Int32), (RWw f_35) ∧ ((f_35 7).toInt = (fob_world 7).toInt + 1 ∧ (f_35 8).toInt = (fob_world 8).toInt) ∧ w = [(ce_X10 ob ob_thrown ob_world ob_images ob_hasImage ob_tape ob_taped ob_five ob_size ob_at ob_from ob_token ob_value ob_faultKind ob_faultPlace ob_fresh ob_parts ob_houses ob_houseMany ob_worthOf ob_byCall ob_over ob_bestSet ob_bestOver ob_bestWorth ob_row ob_tenDebts ob_tenMany ob_fewestBy ob_covered ob_queue ob_cameBy ob_parent ob_met ob_calls ob_callMany ob_calledOn ob_saved ob_many ob_width ob_numbers ob_moving), (ce_i9080 y ob_world f_35)])) (kq G (va_A [(ce_X10 ob ob_thrown ob_world ob_images ob_hasImage ob_tape ob_taped ob_five ob_size ob_at ob_from ob_token ob_value ob_faultKind ob_faultPlace ob_fresh ob_parts ob_houses ob_houseMany ob_worthOf ob_byCall ob_over ob_bestSet ob_bestOver ob_bestWorth ob_row ob_tenDebts ob_tenMany ob_fewestBy ob_covered ob_queue ob_cameBy ob_parent ob_met ob_calls ob_callMany ob_calledOn ob_saved ob_many ob_width ob_numbers ob_moving), (ce_i9080 y ob_world fob_world)] sz)) (va_A [(ce_X10 ob ob_thrown ob_world ob_images ob_hasImage ob_tape ob_taped ob_five ob_size ob_at ob_from ob_token ob_value ob_faultKind ob_faultPlace ob_fresh ob_parts ob_houses ob_houseMany ob_worthOf ob_byCall ob_over ob_bestSet ob_bestOver ob_bestWorth ob_row ob_tenDebts ob_tenMany ob_fewestBy ob_covered ob_queue ob_cameBy ob_parent ob_met ob_calls ob_callMany ob_calledOn ob_saved ob_many ob_width ob_numbers ob_moving), (ce_i9080 y ob_world fob_world)] sz)) 0 0 (va_A [(ce_X10 ob ob_thrown ob_world ob_images ob_hasImage ob_tape ob_taped ob_five ob_size ob_at ob_from ob_token ob_value ob_faultKind ob_faultPlace ob_fresh ob_parts ob_houses ob_houseMany ob_worthOf ob_byCall ob_over ob_bestSet ob_bestOver ob_bestWorth ob_row ob_tenDebts ob_tenMany ob_fewestBy ob_covered ob_queue ob_cameBy ob_parent ob_met ob_calls ob_callMany ob_calledOn ob_saved ob_many ob_width ob_numbers ob_moving), (ce_i9080 y ob_world fob_world)] sz) := by
  refine Met.ofW (cc := cX10_comes) (maxL := 7) (ret := none) (by decide) rfl ?_
  intro p e s m args below meth c s₁ B hml hv
  obtain ⟨rfl, hsz, hP, hK, hD0⟩ := hv
  have hx := B.exec
  have hb := B.bytes
  have hr := B.returns
  have hw0 : ∀ w ∈ wAll, w.before _ s = true := fun w h => atoms_spec (ws := Cond.code yX10_comes cX10_comes 7 none :: wAll) B.pre w (List.mem_cons_of_mem _ h)
  have hown : s.vm.findClass RX10 = some m.cls := findClass_of_methodNamed B.named
  subst hsz
  have hD := hD0.self (sz := s.heap.size)
  generalize hAe : va_A [(ce_X10 ob ob_thrown ob_world ob_images ob_hasImage ob_tape ob_taped ob_five ob_size ob_at ob_from ob_token ob_value ob_faultKind ob_faultPlace ob_fresh ob_parts ob_houses ob_houseMany ob_worthOf ob_byCall ob_over ob_bestSet ob_bestOver ob_bestWorth ob_row ob_tenDebts ob_tenMany ob_fewestBy ob_covered ob_queue ob_cameBy ob_parent ob_met ob_calls ob_callMany ob_calledOn ob_saved ob_many ob_width ob_numbers ob_moving), (ce_i9080 y ob_world fob_world)] s.heap.size = A at hD ⊢
  have hA : ∀ q : Nat, s.heap.size ≤ q → A q := fun q h => by rw [← hAe]; exact Or.inr h
  have hS : va_S A s.heap s.heap [] := va_S.rf
  have hP : va_P G vwCl [(ce_X10 ob ob_thrown ob_world ob_images ob_hasImage ob_tape ob_taped ob_five ob_size ob_at ob_from ob_token ob_value ob_faultKind ob_faultPlace ob_fresh ob_parts ob_houses ob_houseMany ob_worthOf ob_byCall ob_over ob_bestSet ob_bestOver ob_bestWorth ob_row ob_tenDebts ob_tenMany ob_fewestBy ob_covered ob_queue ob_cameBy ob_parent ob_met ob_calls ob_callMany ob_calledOn ob_saved ob_many ob_width ob_numbers ob_moving), (ce_i9080 y ob_world fob_world)] s.heap := hP
  have hl := lv_entry ([.ref ob, .int a1, .int a2, .int a3, .int a4, .int a5]) (n := 7) (Nat.le_of_ble_eq_true rfl)
  rw [lg_entry_eq]
  generalize (lg_sl ([.ref ob, .int a1, .int a2, .int a3, .int a4, .int a5]) ++ List.replicate (7 - (lg_sl ([.ref ob, .int a1, .int a2, .int a3, .int a4, .int a5])).length) Slot.unset).toArray = ls at hl ⊢
  have hl : lv_has ls 7 [(0, .ref ob), (1, .int a1), (2, .int a2), (3, .int a3), (4, .int a4), (5, .int a5)] := hl
  refine lv_sipush (v := 1880) hx hb dX10_comes_0 (by decide) ?_
  refine lv_iconst (v := 5) hx hb dX10_comes_3 (by decide) ?_
  refine lv_aload_n hx hb dX10_comes_4 rfl (lv_at hl 0 rfl) ?_
  refine va_get (D := G) (ci := 10) (v := .ref ob_world) (C := RX10) (T := TX10) (N := 41) hx hb hw0 inA_wsX100 hown hK.1 hP 0 rfl rfl 1 (by decide) (hw0 _ m_352) (fun _ h9 => h9) rfl dX10_comes_5 ?_
  refine lv_bipush (v := 7) hx hb dX10_comes_8 (by decide) ?_
  refine va_iald hx hb hK.1 hP 1 1 rfl rfl (vi (bkc (x := 7) (c := 7) (by decide)) (by decide)) dX10_comes_10 ?_
  refine lv_topi (fun v_1001 ev_1001 => ?_)
  have bv_1001 : (0 : Int) ≤ v_1001.toInt ∧ v_1001.toInt ≤ 600 := rdk ev_1001 (p_fob_world).1.1 (by decide)
  have yv_1001 : v_1001.toInt = (fob_world 7).toInt := congrArg Int32.toInt ev_1001
  have h_1002 : (0 : Int) ≤ v_1001.toInt ∧ v_1001.toInt ≤ 599 := by have h9 := (p_fob_world).1.1 8; have h8 : UBw 8 = 600 := (by decide); omega
  refine lv_imul hx hb dX10_comes_11 ?_
  refine lv_topi (fun v_1003 ev_1003 => ?_)
  have qv_1003 := ba_mul 5 (ev_1003.trans (Int32.mul_comm _ _)) h_1002 (by decide) (by decide) (by decide)
  have bv_1003 : (0 : Int) ≤ v_1003.toInt ∧ v_1003.toInt ≤ 2995 := qv_1003.2
  refine lv_iadd hx hb dX10_comes_12 ?_
  refine lv_topi (fun v_1004 ev_1004 => ?_)
  have qv_1004 := ba_add ev_1004 (bkc (x := 1880) (c := 1880) (by decide)) bv_1003 (by decide)
  have bv_1004 : (1880 : Int) ≤ v_1004.toInt ∧ v_1004.toInt ≤ 4875 := bq_add qv_1004 (bkc (x := 1880) (c := 1880) (by decide)) bv_1003 _ _ (by decide)
  have qv_1004 : v_1004.toInt = (1880) + v_1003.toInt := qv_1004
  refine lv_istore (lv' := [(6, .int v_1004), (0, .ref ob), (1, .int a1), (2, .int a2), (3, .int a3), (4, .int a4), (5, .int a5)]) hx hb dX10_comes_13 hl (by decide) rfl (fun ls hl => ?_)
  refine lv_aload_n hx hb dX10_comes_15 rfl (lv_at hl 1 rfl) ?_
  refine va_get (D := G) (ci := 10) (v := .ref ob_world) (C := RX10) (T := TX10) (N := 41) hx hb hw0 inA_wsX100 hown hK.1 hP 0 rfl rfl 1 (by decide) (hw0 _ m_352) (fun _ h9 => h9) rfl dX10_comes_16 ?_
  refine lv_iload hx hb dX10_comes_19 (lv_at hl 0 rfl) ?_
  refine lv_iload_n hx hb dX10_comes_21 rfl (lv_at hl 2 rfl) ?_
  refine va_iast hx hb hK.1 hP hD hS 1 1 rfl rfl (vi bv_1004 (by decide)) dX10_comes_22 (fun H locs hP hD hS => ?_)
  generalize hf_1005 : (upd fob_world (v_1004 : Int32).toNatClampNeg a1) = f_1005 at hP hD
  have zf_1005_7 : (f_1005 7).toInt = (fob_world 7).toInt := hf_1005 ▸ pin_ne (ix_not bv_1004 (by decide))
  have zf_1005_8 : (f_1005 8).toInt = (fob_world 8).toInt := hf_1005 ▸ pin_ne (ix_not bv_1004 (by decide))
  have bf_1005 : RBw f_1005 := hf_1005 ▸ upw (p_fob_world).1.1 pl_11 (by omega) (h_1002) p_a1
  have cf_1005 : RVw f_1005 := hf_1005 ▸ RV_up (p_fob_world).1 (hf_1005 ▸ bf_1005) (ix_out bv_1004 (by decide))
  have df_1005 : RWw f_1005 := ⟨cf_1005, hf_1005 ▸ WQ_up (p_fob_world).1.1 (p_fob_world).2 (qf_ix bv_1004 (by decide))⟩
  obtain ⟨hP, hD⟩ : vPD G A H [(ce_X10 ob ob_thrown ob_world ob_images ob_hasImage ob_tape ob_taped ob_five ob_size ob_at ob_from ob_token ob_value ob_faultKind ob_faultPlace ob_fresh ob_parts ob_houses ob_houseMany ob_worthOf ob_byCall ob_over ob_bestSet ob_bestOver ob_bestWorth ob_row ob_tenDebts ob_tenMany ob_fewestBy ob_covered ob_queue ob_cameBy ob_parent ob_met ob_calls ob_callMany ob_calledOn ob_saved ob_many ob_width ob_numbers ob_moving), (ce_i9080 y ob_world f_1005)] := ⟨hP, hD⟩
  refine lv_aload_n hx hb dX10_comes_23 rfl (lv_at hl 1 rfl) ?_
  refine va_get (D := G) (ci := 10) (v := .ref ob_world) (C := RX10) (T := TX10) (N := 41) hx hb hw0 inA_wsX100 hown hK.1 hP 0 rfl rfl 1 (by decide) (hw0 _ m_352) (fun _ h9 => h9) rfl dX10_comes_24 ?_
  refine lv_iload hx hb dX10_comes_27 (lv_at hl 0 rfl) ?_
  refine lv_iconst (v := 1) hx hb dX10_comes_29 (by decide) ?_
  refine lv_iadd hx hb dX10_comes_30 ?_
  refine lv_topi (fun v_1006 ev_1006 => ?_)
  have qv_1006 := ba_add ev_1006 bv_1004 (bkc (x := 1) (c := 1) (by decide)) (by decide)
  have bv_1006 : (1881 : Int) ≤ v_1006.toInt ∧ v_1006.toInt ≤ 4876 := bq_add qv_1006 bv_1004 (bkc (x := 1) (c := 1) (by decide)) _ _ (by decide)
  have qv_1006 : v_1006.toInt = v_1004.toInt + (1) := qv_1006
  refine lv_iload_n hx hb dX10_comes_31 rfl (lv_at hl 3 rfl) ?_
  refine va_iast hx hb hK.1 hP hD hS 1 1 rfl rfl (vi bv_1006 (by decide)) dX10_comes_32 (fun H locs hP hD hS => ?_)
  generalize hf_1007 : (upd f_1005 (v_1006 : Int32).toNatClampNeg a2) = f_1007 at hP hD
  have zf_1007_7 : (f_1007 7).toInt = (f_1005 7).toInt := hf_1007 ▸ pin_ne (ix_not bv_1006 (by decide))
  have zf_1007_8 : (f_1007 8).toInt = (f_1005 8).toInt := hf_1007 ▸ pin_ne (ix_not bv_1006 (by decide))
  have bf_1007 : RBw f_1007 := hf_1007 ▸ upw (df_1005).1.1 pl_35 (by omega) (h_1002) p_a2
  have cf_1007 : RVw f_1007 := hf_1007 ▸ RV_up (df_1005).1 (hf_1007 ▸ bf_1007) (ix_out bv_1006 (by decide))
  have df_1007 : RWw f_1007 := ⟨cf_1007, hf_1007 ▸ WQ_up (df_1005).1.1 (df_1005).2 (qf_ix bv_1006 (by decide))⟩
  obtain ⟨hP, hD⟩ : vPD G A H [(ce_X10 ob ob_thrown ob_world ob_images ob_hasImage ob_tape ob_taped ob_five ob_size ob_at ob_from ob_token ob_value ob_faultKind ob_faultPlace ob_fresh ob_parts ob_houses ob_houseMany ob_worthOf ob_byCall ob_over ob_bestSet ob_bestOver ob_bestWorth ob_row ob_tenDebts ob_tenMany ob_fewestBy ob_covered ob_queue ob_cameBy ob_parent ob_met ob_calls ob_callMany ob_calledOn ob_saved ob_many ob_width ob_numbers ob_moving), (ce_i9080 y ob_world f_1007)] := ⟨hP, hD⟩
  refine lv_aload_n hx hb dX10_comes_33 rfl (lv_at hl 1 rfl) ?_
  refine va_get (D := G) (ci := 10) (v := .ref ob_world) (C := RX10) (T := TX10) (N := 41) hx hb hw0 inA_wsX100 hown hK.1 hP 0 rfl rfl 1 (by decide) (hw0 _ m_352) (fun _ h9 => h9) rfl dX10_comes_34 ?_
  refine lv_iload hx hb dX10_comes_37 (lv_at hl 0 rfl) ?_
  refine lv_iconst (v := 2) hx hb dX10_comes_39 (by decide) ?_
  refine lv_iadd hx hb dX10_comes_40 ?_
  refine lv_topi (fun v_1008 ev_1008 => ?_)
  have qv_1008 := ba_add ev_1008 bv_1004 (bkc (x := 2) (c := 2) (by decide)) (by decide)
  have bv_1008 : (1882 : Int) ≤ v_1008.toInt ∧ v_1008.toInt ≤ 4877 := bq_add qv_1008 bv_1004 (bkc (x := 2) (c := 2) (by decide)) _ _ (by decide)
  have qv_1008 : v_1008.toInt = v_1004.toInt + (2) := qv_1008
  refine lv_iload_n hx hb dX10_comes_41 rfl (lv_at hl 4 rfl) ?_
  refine va_iast hx hb hK.1 hP hD hS 1 1 rfl rfl (vi bv_1008 (by decide)) dX10_comes_42 (fun H locs hP hD hS => ?_)
  generalize hf_1009 : (upd f_1007 (v_1008 : Int32).toNatClampNeg a3) = f_1009 at hP hD
  have zf_1009_7 : (f_1009 7).toInt = (f_1007 7).toInt := hf_1009 ▸ pin_ne (ix_not bv_1008 (by decide))
  have zf_1009_8 : (f_1009 8).toInt = (f_1007 8).toInt := hf_1009 ▸ pin_ne (ix_not bv_1008 (by decide))
  have bf_1009 : RBw f_1009 := hf_1009 ▸ upw (df_1007).1.1 pl_36 (by omega) (h_1002) (btop a3)
  have cf_1009 : RVw f_1009 := hf_1009 ▸ RV_up (df_1007).1 (hf_1009 ▸ bf_1009) (ix_out bv_1008 (by decide))
  have df_1009 : RWw f_1009 := ⟨cf_1009, hf_1009 ▸ WQ_up (df_1007).1.1 (df_1007).2 (qf_ix bv_1008 (by decide))⟩
  obtain ⟨hP, hD⟩ : vPD G A H [(ce_X10 ob ob_thrown ob_world ob_images ob_hasImage ob_tape ob_taped ob_five ob_size ob_at ob_from ob_token ob_value ob_faultKind ob_faultPlace ob_fresh ob_parts ob_houses ob_houseMany ob_worthOf ob_byCall ob_over ob_bestSet ob_bestOver ob_bestWorth ob_row ob_tenDebts ob_tenMany ob_fewestBy ob_covered ob_queue ob_cameBy ob_parent ob_met ob_calls ob_callMany ob_calledOn ob_saved ob_many ob_width ob_numbers ob_moving), (ce_i9080 y ob_world f_1009)] := ⟨hP, hD⟩
  refine lv_aload_n hx hb dX10_comes_43 rfl (lv_at hl 1 rfl) ?_
  refine va_get (D := G) (ci := 10) (v := .ref ob_world) (C := RX10) (T := TX10) (N := 41) hx hb hw0 inA_wsX100 hown hK.1 hP 0 rfl rfl 1 (by decide) (hw0 _ m_352) (fun _ h9 => h9) rfl dX10_comes_44 ?_
  refine lv_iload hx hb dX10_comes_47 (lv_at hl 0 rfl) ?_
  refine lv_iconst (v := 3) hx hb dX10_comes_49 (by decide) ?_
  refine lv_iadd hx hb dX10_comes_50 ?_
  refine lv_topi (fun v_1010 ev_1010 => ?_)
  have qv_1010 := ba_add ev_1010 bv_1004 (bkc (x := 3) (c := 3) (by decide)) (by decide)
  have bv_1010 : (1883 : Int) ≤ v_1010.toInt ∧ v_1010.toInt ≤ 4878 := bq_add qv_1010 bv_1004 (bkc (x := 3) (c := 3) (by decide)) _ _ (by decide)
  have qv_1010 : v_1010.toInt = v_1004.toInt + (3) := qv_1010
  refine lv_iload hx hb dX10_comes_51 (lv_at hl 5 rfl) ?_
  refine va_iast hx hb hK.1 hP hD hS 1 1 rfl rfl (vi bv_1010 (by decide)) dX10_comes_53 (fun H locs hP hD hS => ?_)
  generalize hf_1011 : (upd f_1009 (v_1010 : Int32).toNatClampNeg a4) = f_1011 at hP hD
  have zf_1011_7 : (f_1011 7).toInt = (f_1009 7).toInt := hf_1011 ▸ pin_ne (ix_not bv_1010 (by decide))
  have zf_1011_8 : (f_1011 8).toInt = (f_1009 8).toInt := hf_1011 ▸ pin_ne (ix_not bv_1010 (by decide))
  have bf_1011 : RBw f_1011 := hf_1011 ▸ upw (df_1009).1.1 pl_37 (by omega) (h_1002) (btop a4)
  have cf_1011 : RVw f_1011 := hf_1011 ▸ RV_up (df_1009).1 (hf_1011 ▸ bf_1011) (ix_out bv_1010 (by decide))
  have df_1011 : RWw f_1011 := ⟨cf_1011, hf_1011 ▸ WQ_up (df_1009).1.1 (df_1009).2 (qf_ix bv_1010 (by decide))⟩
  obtain ⟨hP, hD⟩ : vPD G A H [(ce_X10 ob ob_thrown ob_world ob_images ob_hasImage ob_tape ob_taped ob_five ob_size ob_at ob_from ob_token ob_value ob_faultKind ob_faultPlace ob_fresh ob_parts ob_houses ob_houseMany ob_worthOf ob_byCall ob_over ob_bestSet ob_bestOver ob_bestWorth ob_row ob_tenDebts ob_tenMany ob_fewestBy ob_covered ob_queue ob_cameBy ob_parent ob_met ob_calls ob_callMany ob_calledOn ob_saved ob_many ob_width ob_numbers ob_moving), (ce_i9080 y ob_world f_1011)] := ⟨hP, hD⟩
  refine lv_aload_n hx hb dX10_comes_54 rfl (lv_at hl 1 rfl) ?_
  refine va_get (D := G) (ci := 10) (v := .ref ob_world) (C := RX10) (T := TX10) (N := 41) hx hb hw0 inA_wsX100 hown hK.1 hP 0 rfl rfl 1 (by decide) (hw0 _ m_352) (fun _ h9 => h9) rfl dX10_comes_55 ?_
  refine lv_iload hx hb dX10_comes_58 (lv_at hl 0 rfl) ?_
  refine lv_iconst (v := 4) hx hb dX10_comes_60 (by decide) ?_
  refine lv_iadd hx hb dX10_comes_61 ?_
  refine lv_topi (fun v_1012 ev_1012 => ?_)
  have qv_1012 := ba_add ev_1012 bv_1004 (bkc (x := 4) (c := 4) (by decide)) (by decide)
  have bv_1012 : (1884 : Int) ≤ v_1012.toInt ∧ v_1012.toInt ≤ 4879 := bq_add qv_1012 bv_1004 (bkc (x := 4) (c := 4) (by decide)) _ _ (by decide)
  have qv_1012 : v_1012.toInt = v_1004.toInt + (4) := qv_1012
  refine lv_iload hx hb dX10_comes_62 (lv_at hl 6 rfl) ?_
  refine va_iast hx hb hK.1 hP hD hS 1 1 rfl rfl (vi bv_1012 (by decide)) dX10_comes_64 (fun H locs hP hD hS => ?_)
  generalize hf_1013 : (upd f_1011 (v_1012 : Int32).toNatClampNeg a5) = f_1013 at hP hD
  have zf_1013_7 : (f_1013 7).toInt = (f_1011 7).toInt := hf_1013 ▸ pin_ne (ix_not bv_1012 (by decide))
  have zf_1013_8 : (f_1013 8).toInt = (f_1011 8).toInt := hf_1013 ▸ pin_ne (ix_not bv_1012 (by decide))
  have bf_1013 : RBw f_1013 := hf_1013 ▸ upw (df_1011).1.1 pl_38 (by omega) (h_1002) (btop a5)
  have cf_1013 : RVw f_1013 := hf_1013 ▸ RV_up (df_1011).1 (hf_1013 ▸ bf_1013) (ix_out bv_1012 (by decide))
  have df_1013 : RWw f_1013 := ⟨cf_1013, hf_1013 ▸ WQ_up (df_1011).1.1 (df_1011).2 (qf_ix bv_1012 (by decide))⟩
  obtain ⟨hP, hD⟩ : vPD G A H [(ce_X10 ob ob_thrown ob_world ob_images ob_hasImage ob_tape ob_taped ob_five ob_size ob_at ob_from ob_token ob_value ob_faultKind ob_faultPlace ob_fresh ob_parts ob_houses ob_houseMany ob_worthOf ob_byCall ob_over ob_bestSet ob_bestOver ob_bestWorth ob_row ob_tenDebts ob_tenMany ob_fewestBy ob_covered ob_queue ob_cameBy ob_parent ob_met ob_calls ob_callMany ob_calledOn ob_saved ob_many ob_width ob_numbers ob_moving), (ce_i9080 y ob_world f_1013)] := ⟨hP, hD⟩
  refine lv_aload_n hx hb dX10_comes_65 rfl (lv_at hl 1 rfl) ?_
  refine va_get (D := G) (ci := 10) (v := .ref ob_world) (C := RX10) (T := TX10) (N := 41) hx hb hw0 inA_wsX100 hown hK.1 hP 0 rfl rfl 1 (by decide) (hw0 _ m_352) (fun _ h9 => h9) rfl dX10_comes_66 ?_
  refine lv_bipush (v := 7) hx hb dX10_comes_69 (by decide) ?_
  refine lv_dup2_11 hx hb dX10_comes_71 rfl rfl ?_
  refine va_iald hx hb hK.1 hP 1 1 rfl rfl (vi (bkc (x := 7) (c := 7) (by decide)) (by decide)) dX10_comes_72 ?_
  refine lv_topi (fun v_1014 ev_1014 => ?_)
  have bv_1014 : (0 : Int) ≤ v_1014.toInt ∧ v_1014.toInt ≤ 600 := rdk ev_1014 (df_1013).1.1 (by decide)
  have yv_1014 : v_1014.toInt = (f_1013 7).toInt := congrArg Int32.toInt ev_1014
  refine lv_iconst (v := 1) hx hb dX10_comes_73 (by decide) ?_
  refine lv_iadd hx hb dX10_comes_74 ?_
  refine lv_topi (fun v_1015 ev_1015 => ?_)
  have qv_1015 := ba_add ev_1015 bv_1014 (bkc (x := 1) (c := 1) (by decide)) (by decide)
  have bv_1015 : (1 : Int) ≤ v_1015.toInt ∧ v_1015.toInt ≤ 601 := bq_add qv_1015 bv_1014 (bkc (x := 1) (c := 1) (by decide)) _ _ (by decide)
  have qv_1015 : v_1015.toInt = v_1014.toInt + (1) := qv_1015
  have h_1016 : (0 : Int) ≤ v_1015.toInt ∧ v_1015.toInt ≤ 600 := by have h9 := (p_fob_world).1.1 8; have h8 : UBw 8 = 600 := (by decide); omega
  refine va_iast hx hb hK.1 hP hD hS 1 1 rfl rfl (vi (bkc (x := 7) (c := 7) (by decide)) (by decide)) dX10_comes_75 (fun H locs hP hD hS => ?_)
  generalize hf_1017 : (upd f_1013 (7 : Int32).toNatClampNeg v_1015) = f_1017 at hP hD
  have zf_1017_7 : (f_1017 7).toInt = (v_1015 : Int32).toInt := hf_1017 ▸ pin_eq (by decide)
  have zf_1017_8 : (f_1017 8).toInt = (f_1013 8).toInt := hf_1017 ▸ pin_ne (ix_not (bkc (x := 7) (c := 7) (by decide)) (by decide))
  have bf_1017 : RBw f_1017 := hf_1017 ▸ upk (df_1013).1.1 h_1016 (by decide)
  have cf_1017 : RVw f_1017 := ⟨bf_1017, by have h97 : (f_1013 7).toInt ≤ (f_1013 8).toInt := ((df_1013).1).2; unfold W7; omega⟩
  have df_1017 : RWw f_1017 := ⟨cf_1017, hf_1017 ▸ WQ_up (df_1013).1.1 (df_1013).2 (qf_ix (bkc (x := 7) (c := 7) (by decide)) (by decide))⟩
  obtain ⟨hP, hD⟩ : vPD G A H [(ce_X10 ob ob_thrown ob_world ob_images ob_hasImage ob_tape ob_taped ob_five ob_size ob_at ob_from ob_token ob_value ob_faultKind ob_faultPlace ob_fresh ob_parts ob_houses ob_houseMany ob_worthOf ob_byCall ob_over ob_bestSet ob_bestOver ob_bestWorth ob_row ob_tenDebts ob_tenMany ob_fewestBy ob_covered ob_queue ob_cameBy ob_parent ob_met ob_calls ob_callMany ob_calledOn ob_saved ob_many ob_width ob_numbers ob_moving), (ce_i9080 y ob_world f_1017)] := ⟨hP, hD⟩
  exact W.vret hx hb hr (fun t ht hW => ⟨⟨_, rfl, ⟨f_1017, df_1017, by omega, rfl⟩, by rw [ht]; exact hP, hD⟩, hS.F ht⟩) hS.2.2 dX10_comes_76

set_option maxHeartbeats 4000000 in
set_option maxRecDepth 100000 in
theorem sX10_goes (l : Launch) (G : va_G) (y : Nat → ClassId) (sz : Nat) (ob : Nat) (a1 : Int32) (a2 : Int32) (a3 : Int32) (a4 : Int32) (ob_thrown : Int32) (ob_world : Nat) (ob_images : Nat) (ob_hasImage : Nat) (ob_tape : Nat) (ob_taped : Int32) (ob_five : Nat) (ob_size : Int32) (ob_at : Int32) (ob_from : Int32) (ob_token : Int32) (ob_value : Int32) (ob_faultKind : Int32) (ob_faultPlace : Int32) (ob_fresh : Nat) (ob_parts : Nat) (ob_houses : Nat) (ob_houseMany : Int32) (ob_worthOf : Nat) (ob_byCall : Nat) (ob_over : Nat) (ob_bestSet : Int32) (ob_bestOver : Int32) (ob_bestWorth : Int32) (ob_row : Nat) (ob_tenDebts : Nat) (ob_tenMany : Int32) (ob_fewestBy : Nat) (ob_covered : Nat) (ob_queue : Nat) (ob_cameBy : Nat) (ob_parent : Nat) (ob_met : Nat) (ob_calls : Nat) (ob_callMany : Int32) (ob_calledOn : Nat) (ob_saved : Nat) (ob_many : Nat) (ob_width : Nat) (ob_numbers : Nat) (ob_moving : Nat) (fob_world : Nat → Int32) (fob_parts : Nat → Int32) (p_fob_world : RWw fob_world) (p_ob_taped : (0 : Int) ≤ ob_taped.toInt ∧ ob_taped.toInt ≤ 1400) (p_ob_size : (0 : Int) ≤ ob_size.toInt ∧ ob_size.toInt ≤ 1400) (p_ob_at : (0 : Int) ≤ ob_at.toInt ∧ ob_at.toInt ≤ 1400) (p_ob_from : (0 : Int) ≤ ob_from.toInt ∧ ob_from.toInt ≤ 1400) (p_ob_token : (0 : Int) ≤ ob_token.toInt ∧ ob_token.toInt ≤ 4) (p_ob_value : (0 : Int) ≤ ob_value.toInt ∧ ob_value.toInt ≤ 9999) (p_ob_faultKind : (0 : Int) ≤ ob_faultKind.toInt ∧ ob_faultKind.toInt ≤ 3) (p_ob_houseMany : (0 : Int) ≤ ob_houseMany.toInt ∧ ob_houseMany.toInt ≤ 10) (p_ob_bestSet : (0 : Int) ≤ ob_bestSet.toInt ∧ ob_bestSet.toInt ≤ 1023) (p_ob_bestOver : (-1 : Int) ≤ ob_bestOver.toInt ∧ ob_bestOver.toInt ≤ 180) (p_ob_tenMany : (0 : Int) ≤ ob_tenMany.toInt ∧ ob_tenMany.toInt ≤ 10) (p_ob_callMany : (0 : Int) ≤ ob_callMany.toInt ∧ ob_callMany.toInt ≤ 16) (p_a1 : (0 : Int) ≤ a1.toInt ∧ a1.toInt ≤ 15) (p_a2 : (0 : Int) ≤ a2.toInt ∧ a2.toInt ≤ 15) (hq0 : (fob_world 7).toInt < (fob_world 8).toInt) : Met l yX10_goes (Cond.code yX10_goes cX10_goes 8 (some .int) :: wAll) ({ frames := 3, cells := 0, slots := 0, locals := 84 }) (va_Pc [.ref ob, .int a1, .int a2, .int a3, .int a4] (kp G y sz [(ce_X10 ob ob_thrown ob_world ob_images ob_hasImage ob_tape ob_taped ob_five ob_size ob_at ob_from ob_token ob_value ob_faultKind ob_faultPlace ob_fresh ob_parts ob_houses ob_houseMany ob_worthOf ob_byCall ob_over ob_bestSet ob_bestOver ob_bestWorth ob_row ob_tenDebts ob_tenMany ob_fewestBy ob_covered ob_queue ob_cameBy ob_parent ob_met ob_calls ob_callMany ob_calledOn ob_saved ob_many ob_width ob_numbers ob_moving), (ce_i9080 y ob_world fob_world), (ce_i6 y ob_parts fob_parts)])) (va_Qi (fun (r : Int32) (w : va_W) => (∃ (v_203 : Int32) (f_204 : Nat → Int32) (f_205 : Nat → Int32), (RWw f_204) ∧ ((f_204 7).toInt ≤ (fob_world 7).toInt + 1 ∧ (f_204 8).toInt = (fob_world 8).toInt) ∧ r = v_203 ∧ w = [(ce_X10 ob ob_thrown ob_world ob_images ob_hasImage ob_tape ob_taped ob_five ob_size ob_at ob_from ob_token ob_value ob_faultKind ob_faultPlace ob_fresh ob_parts ob_houses ob_houseMany ob_worthOf ob_byCall ob_over ob_bestSet ob_bestOver ob_bestWorth ob_row ob_tenDebts ob_tenMany ob_fewestBy ob_covered ob_queue ob_cameBy ob_parent ob_met ob_calls ob_callMany ob_calledOn ob_saved ob_many ob_width ob_numbers ob_moving), (ce_i9080 y ob_world f_204), (ce_i6 y ob_parts f_205)])) (kq G (va_A [(ce_X10 ob ob_thrown ob_world ob_images ob_hasImage ob_tape ob_taped ob_five ob_size ob_at ob_from ob_token ob_value ob_faultKind ob_faultPlace ob_fresh ob_parts ob_houses ob_houseMany ob_worthOf ob_byCall ob_over ob_bestSet ob_bestOver ob_bestWorth ob_row ob_tenDebts ob_tenMany ob_fewestBy ob_covered ob_queue ob_cameBy ob_parent ob_met ob_calls ob_callMany ob_calledOn ob_saved ob_many ob_width ob_numbers ob_moving), (ce_i9080 y ob_world fob_world), (ce_i6 y ob_parts fob_parts)] sz)) (va_A [(ce_X10 ob ob_thrown ob_world ob_images ob_hasImage ob_tape ob_taped ob_five ob_size ob_at ob_from ob_token ob_value ob_faultKind ob_faultPlace ob_fresh ob_parts ob_houses ob_houseMany ob_worthOf ob_byCall ob_over ob_bestSet ob_bestOver ob_bestWorth ob_row ob_tenDebts ob_tenMany ob_fewestBy ob_covered ob_queue ob_cameBy ob_parent ob_met ob_calls ob_callMany ob_calledOn ob_saved ob_many ob_width ob_numbers ob_moving), (ce_i9080 y ob_world fob_world), (ce_i6 y ob_parts fob_parts)] sz)) 0 0 (va_A [(ce_X10 ob ob_thrown ob_world ob_images ob_hasImage ob_tape ob_taped ob_five ob_size ob_at ob_from ob_token ob_value ob_faultKind ob_faultPlace ob_fresh ob_parts ob_houses ob_houseMany ob_worthOf ob_byCall ob_over ob_bestSet ob_bestOver ob_bestWorth ob_row ob_tenDebts ob_tenMany ob_fewestBy ob_covered ob_queue ob_cameBy ob_parent ob_met ob_calls ob_callMany ob_calledOn ob_saved ob_many ob_width ob_numbers ob_moving), (ce_i9080 y ob_world fob_world), (ce_i6 y ob_parts fob_parts)] sz) := by
  refine Met.ofW (cc := cX10_goes) (maxL := 8) (ret := (some .int)) (by decide) rfl ?_
  intro p e s m args below meth c s₁ B hml hv
  obtain ⟨rfl, hsz, hP, hK, hD0⟩ := hv
  have hx := B.exec
  have hb := B.bytes
  have hr := B.returns
  have hw0 : ∀ w ∈ wAll, w.before _ s = true := fun w h => atoms_spec (ws := Cond.code yX10_goes cX10_goes 8 (some .int) :: wAll) B.pre w (List.mem_cons_of_mem _ h)
  have hown : s.vm.findClass RX10 = some m.cls := findClass_of_methodNamed B.named
  subst hsz
  have hD := hD0.self (sz := s.heap.size)
  generalize hAe : va_A [(ce_X10 ob ob_thrown ob_world ob_images ob_hasImage ob_tape ob_taped ob_five ob_size ob_at ob_from ob_token ob_value ob_faultKind ob_faultPlace ob_fresh ob_parts ob_houses ob_houseMany ob_worthOf ob_byCall ob_over ob_bestSet ob_bestOver ob_bestWorth ob_row ob_tenDebts ob_tenMany ob_fewestBy ob_covered ob_queue ob_cameBy ob_parent ob_met ob_calls ob_callMany ob_calledOn ob_saved ob_many ob_width ob_numbers ob_moving), (ce_i9080 y ob_world fob_world), (ce_i6 y ob_parts fob_parts)] s.heap.size = A at hD ⊢
  have hA : ∀ q : Nat, s.heap.size ≤ q → A q := fun q h => by rw [← hAe]; exact Or.inr h
  have hS : va_S A s.heap s.heap [] := va_S.rf
  have hP : va_P G vwCl [(ce_X10 ob ob_thrown ob_world ob_images ob_hasImage ob_tape ob_taped ob_five ob_size ob_at ob_from ob_token ob_value ob_faultKind ob_faultPlace ob_fresh ob_parts ob_houses ob_houseMany ob_worthOf ob_byCall ob_over ob_bestSet ob_bestOver ob_bestWorth ob_row ob_tenDebts ob_tenMany ob_fewestBy ob_covered ob_queue ob_cameBy ob_parent ob_met ob_calls ob_callMany ob_calledOn ob_saved ob_many ob_width ob_numbers ob_moving), (ce_i9080 y ob_world fob_world), (ce_i6 y ob_parts fob_parts)] s.heap := hP
  have hl := lv_entry ([.ref ob, .int a1, .int a2, .int a3, .int a4]) (n := 8) (Nat.le_of_ble_eq_true rfl)
  rw [lg_entry_eq]
  generalize (lg_sl ([.ref ob, .int a1, .int a2, .int a3, .int a4]) ++ List.replicate (8 - (lg_sl ([.ref ob, .int a1, .int a2, .int a3, .int a4])).length) Slot.unset).toArray = ls at hl ⊢
  have hl : lv_has ls 8 [(0, .ref ob), (1, .int a1), (2, .int a2), (3, .int a3), (4, .int a4)] := hl
  refine lv_iload_n hx hb dX10_goes_0 rfl (lv_at hl 3 rfl) ?_
  refine lv_iconst (v := 4) hx hb dX10_goes_1 (by decide) ?_
  refine lv_icmp_ne (tgt := 13) hx hb dX10_goes_2 (by decide) (fun c_1001 => ?_) (fun c_1001 => ?_)
  · skip
    have nc_1001 := nb_ne (-2147483648) (2147483647) c_1001 (btop a3) (k := 4) (by decide) (by decide)
    refine lv_aload_n hx hb dX10_goes_13 rfl (lv_at hl 0 rfl) ?_
    refine lv_iload_n hx hb dX10_goes_14 rfl (lv_at hl 1 rfl) ?_
    refine lv_iload_n hx hb dX10_goes_15 rfl (lv_at hl 2 rfl) ?_
    refine lv_iload_n hx hb dX10_goes_16 rfl (lv_at hl 3 rfl) ?_
    refine cVim (As := [.int a1, .int a2, .int a3]) (rest := []) ⟨hx, hb, hml, hown, hw0⟩ hA hK hP hD hS [true, true] (sX10_pays l G y _ ob a1 a2 a3 ob_thrown ob_world ob_images ob_hasImage ob_tape ob_taped ob_five ob_size ob_at ob_from ob_token ob_value ob_faultKind ob_faultPlace ob_fresh ob_parts ob_houses ob_houseMany ob_worthOf ob_byCall ob_over ob_bestSet ob_bestOver ob_bestWorth ob_row ob_tenDebts ob_tenMany ob_fewestBy ob_covered ob_queue ob_cameBy ob_parent ob_met ob_calls ob_callMany ob_calledOn ob_saved ob_many ob_width ob_numbers ob_moving fob_world p_fob_world p_ob_taped p_ob_size p_ob_at p_ob_from p_ob_token p_ob_value p_ob_faultKind p_ob_houseMany p_ob_bestSet p_ob_bestOver p_ob_tenMany p_ob_callMany) rfl ⟨(callB_of 3 hw0 (gA m_595) rfl rfl rfl (hw0 _ m_41) (hw0 _ m_493) cb_X10_pays ⟨Nat.le_of_ble_eq_true rfl, Nat.le_of_ble_eq_true rfl⟩), (hw0 _ m_494), (hw0 _ m_495)⟩ (ci := 10) (q := (RX10, TX10, 41)) rfl rfl rfl hl.1 (Nat.le_of_ble_eq_true rfl) dX10_goes_17 ⟨Nat.le_of_ble_eq_true rfl, Nat.le_of_ble_eq_true rfl⟩ (fun r_1002 w_1002 H locs hw_1002 hP hD hS => ?_)
    obtain ⟨v_1003, f_1004, bf_1004, h_1005, er_1002, rfl⟩ := hw_1002
    subst r_1002
    obtain ⟨hP, hD⟩ : vPD G A H [(ce_X10 ob ob_thrown ob_world ob_images ob_hasImage ob_tape ob_taped ob_five ob_size ob_at ob_from ob_token ob_value ob_faultKind ob_faultPlace ob_fresh ob_parts ob_houses ob_houseMany ob_worthOf ob_byCall ob_over ob_bestSet ob_bestOver ob_bestWorth ob_row ob_tenDebts ob_tenMany ob_fewestBy ob_covered ob_queue ob_cameBy ob_parent ob_met ob_calls ob_callMany ob_calledOn ob_saved ob_many ob_width ob_numbers ob_moving), (ce_i9080 y ob_world f_1004), (ce_i6 y ob_parts fob_parts)] := ⟨hP, hD⟩
    refine lv_istore (lv' := [(5, .int v_1003), (0, .ref ob), (1, .int a1), (2, .int a2), (3, .int a3), (4, .int a4)]) hx hb dX10_goes_20 hl (by decide) rfl (fun ls hl => ?_)
    refine lv_aload_n hx hb dX10_goes_22 rfl (lv_at hl 1 rfl) ?_
    refine lv_iload_n hx hb dX10_goes_23 rfl (lv_at hl 2 rfl) ?_
    refine lv_iload_n hx hb dX10_goes_24 rfl (lv_at hl 3 rfl) ?_
    refine lv_iload_n hx hb dX10_goes_25 rfl (lv_at hl 4 rfl) ?_
    refine lv_aload_n hx hb dX10_goes_26 rfl (lv_at hl 1 rfl) ?_
    refine lv_iload_n hx hb dX10_goes_27 rfl (lv_at hl 2 rfl) ?_
    refine lv_iload_n hx hb dX10_goes_28 rfl (lv_at hl 3 rfl) ?_
    refine cutW 107 (fun H locs ls st => ∃ (f_1047 : Nat → Int32) (f_1048 : Nat → Int32), (RWw f_1047) ∧ ((f_1047 7).toInt ≤ (fob_world 7).toInt + 1 ∧ (f_1047 8).toInt = (fob_world 8).toInt) ∧ st = [] ∧ vPD G A H [(ce_X10 ob ob_thrown ob_world ob_images ob_hasImage ob_tape ob_taped ob_five ob_size ob_at ob_from ob_token ob_value ob_faultKind ob_faultPlace ob_fresh ob_parts ob_houses ob_houseMany ob_worthOf ob_byCall ob_over ob_bestSet ob_bestOver ob_bestWorth ob_row ob_tenDebts ob_tenMany ob_fewestBy ob_covered ob_queue ob_cameBy ob_parent ob_met ob_calls ob_callMany ob_calledOn ob_saved ob_many ob_width ob_numbers ob_moving), (ce_i9080 y ob_world f_1047), (ce_i6 y ob_parts f_1048)] ∧ va_S A s.heap H locs ∧ lv_has ls 8 [(5, .int v_1003), (0, .ref ob), (1, .int a1), (2, .int a2), (3, .int a3)]) ?_ (fun J_107_1048 => ?_)
    · rintro H locs ls st ⟨f_1047, f_1048, bf_1047, rl1048_0, rfl, ⟨hP, hD⟩, hS, hl⟩
      refine lv_iload_n hx hb dX10_goes_107 rfl (lv_at hl 4 rfl) ?_
      refine lv_iconst (v := 2) hx hb dX10_goes_108 (by decide) ?_
      refine cutW 118 (fun H locs ls st => ∃ (f_1053 : Nat → Int32), (RWw f_1053) ∧ ((f_1053 7).toInt ≤ (fob_world 7).toInt + 1 ∧ (f_1053 8).toInt = (fob_world 8).toInt) ∧ st = [] ∧ vPD G A H [(ce_X10 ob ob_thrown ob_world ob_images ob_hasImage ob_tape ob_taped ob_five ob_size ob_at ob_from ob_token ob_value ob_faultKind ob_faultPlace ob_fresh ob_parts ob_houses ob_houseMany ob_worthOf ob_byCall ob_over ob_bestSet ob_bestOver ob_bestWorth ob_row ob_tenDebts ob_tenMany ob_fewestBy ob_covered ob_queue ob_cameBy ob_parent ob_met ob_calls ob_callMany ob_calledOn ob_saved ob_many ob_width ob_numbers ob_moving), (ce_i9080 y ob_world f_1053), (ce_i6 y ob_parts f_1048)] ∧ va_S A s.heap H locs ∧ lv_has ls 8 [(5, .int v_1003)]) ?_ (fun J_118_1053 => ?_)
      · rintro H locs ls st ⟨f_1053, bf_1053, rl1053_0, rfl, ⟨hP, hD⟩, hS, hl⟩
        refine lv_iload hx hb dX10_goes_118 (lv_at hl 0 rfl) ?_
        exact W.iret (v := v_1003) hx hb hr (fun t ht hW => ⟨⟨v_1003, _, rfl, ⟨v_1003, f_1053, f_1048, bf_1053, by omega, rfl, rfl⟩, by rw [ht]; exact hP, hD⟩, hS.F ht⟩) hS.2.2 dX10_goes_120
      · skip
        refine lv_icmp_lt (tgt := 118) hx hb dX10_goes_109 (by decide) (fun c_1054 => ?_) (fun c_1054 => ?_)
        · skip
          have nc_1054 := nb_lt (1) (2) c_1054 nc_1001.1 (bkc (x := 2) (c := 2) (by decide)) (by decide)
          exact J_118_1053 _ _ _ _ ⟨f_1047, bf_1047, (by omega), rfl, ⟨hP, hD⟩, hS, lv_sub hl [0] rfl⟩
        · skip
          have nc_1054 := nb_nlt (2) (2) c_1054 (bkc (x := 2) (c := 2) (by decide)) nc_1001.1 (by decide)
          refine lv_aload_n hx hb dX10_goes_112 rfl (lv_at hl 1 rfl) ?_
          refine lv_iload_n hx hb dX10_goes_113 rfl (lv_at hl 2 rfl) ?_
          refine lv_iload_n hx hb dX10_goes_114 rfl (lv_at hl 3 rfl) ?_
          refine cVvm (As := [.int a1, .int a2]) (rest := []) ⟨hx, hb, hml, hown, hw0⟩ hA hK hP hD hS [true, true] (sX10_meets l G y _ ob a1 a2 ob_thrown ob_world ob_images ob_hasImage ob_tape ob_taped ob_five ob_size ob_at ob_from ob_token ob_value ob_faultKind ob_faultPlace ob_fresh ob_parts ob_houses ob_houseMany ob_worthOf ob_byCall ob_over ob_bestSet ob_bestOver ob_bestWorth ob_row ob_tenDebts ob_tenMany ob_fewestBy ob_covered ob_queue ob_cameBy ob_parent ob_met ob_calls ob_callMany ob_calledOn ob_saved ob_many ob_width ob_numbers ob_moving f_1047 bf_1047 p_ob_taped p_ob_size p_ob_at p_ob_from p_ob_token p_ob_value p_ob_faultKind p_ob_houseMany p_ob_bestSet p_ob_bestOver p_ob_tenMany p_ob_callMany p_a1 p_a2) rfl ⟨(callB_of 2 hw0 (gA m_559) rfl rfl rfl (hw0 _ m_41) (hw0 _ m_490) cb_X10_meets ⟨Nat.le_of_ble_eq_true rfl, Nat.le_of_ble_eq_true rfl⟩), (hw0 _ m_491), (hw0 _ m_492)⟩ (ci := 10) (q := (RX10, TX10, 41)) rfl rfl rfl hl.1 (Nat.le_of_ble_eq_true rfl) dX10_goes_115 ⟨Nat.le_of_ble_eq_true rfl, Nat.le_of_ble_eq_true rfl⟩ (fun w_1055 H locs hw_1055 hP hD hS => ?_)
          obtain ⟨f_1056, bf_1056, h_1057, rfl⟩ := hw_1055
          obtain ⟨hP, hD⟩ : vPD G A H [(ce_X10 ob ob_thrown ob_world ob_images ob_hasImage ob_tape ob_taped ob_five ob_size ob_at ob_from ob_token ob_value ob_faultKind ob_faultPlace ob_fresh ob_parts ob_houses ob_houseMany ob_worthOf ob_byCall ob_over ob_bestSet ob_bestOver ob_bestWorth ob_row ob_tenDebts ob_tenMany ob_fewestBy ob_covered ob_queue ob_cameBy ob_parent ob_met ob_calls ob_callMany ob_calledOn ob_saved ob_many ob_width ob_numbers ob_moving), (ce_i9080 y ob_world f_1056), (ce_i6 y ob_parts f_1048)] := ⟨hP, hD⟩
          exact J_118_1053 _ _ _ _ ⟨f_1056, bf_1056, (by omega), rfl, ⟨hP, hD⟩, hS, lv_sub hl [0] rfl⟩
    · skip
      refine cVim (As := [.int a1, .int a2]) (rest := [.int a3, .int a2, .int a1, .ref ob]) ⟨hx, hb, hml, hown, hw0⟩ hA hK hP hD hS [true, true] (sX10_areKnown l G y _ ob a1 a2 ob_thrown ob_world ob_images ob_hasImage ob_tape ob_taped ob_five ob_size ob_at ob_from ob_token ob_value ob_faultKind ob_faultPlace ob_fresh ob_parts ob_houses ob_houseMany ob_worthOf ob_byCall ob_over ob_bestSet ob_bestOver ob_bestWorth ob_row ob_tenDebts ob_tenMany ob_fewestBy ob_covered ob_queue ob_cameBy ob_parent ob_met ob_calls ob_callMany ob_calledOn ob_saved ob_many ob_width ob_numbers ob_moving f_1004 bf_1004 p_ob_taped p_ob_size p_ob_at p_ob_from p_ob_token p_ob_value p_ob_faultKind p_ob_houseMany p_ob_bestSet p_ob_bestOver p_ob_tenMany p_ob_callMany p_a1 p_a2) rfl ⟨(callB_of 2 hw0 (gA m_351) rfl rfl rfl (hw0 _ m_41) (hw0 _ m_379) cb_X10_areKnown ⟨Nat.le_of_ble_eq_true rfl, Nat.le_of_ble_eq_true rfl⟩), (hw0 _ m_380), (hw0 _ m_381)⟩ (ci := 10) (q := (RX10, TX10, 41)) rfl rfl rfl hl.1 (Nat.le_of_ble_eq_true rfl) dX10_goes_29 ⟨Nat.le_of_ble_eq_true rfl, Nat.le_of_ble_eq_true rfl⟩ (fun r_1058 w_1058 H locs hw_1058 hP hD hS => ?_)
      rcases hw_1058 with ⟨rfl, rfl⟩ | ⟨rfl, rfl⟩
      · skip
        obtain ⟨hP, hD⟩ : vPD G A H [(ce_X10 ob ob_thrown ob_world ob_images ob_hasImage ob_tape ob_taped ob_five ob_size ob_at ob_from ob_token ob_value ob_faultKind ob_faultPlace ob_fresh ob_parts ob_houses ob_houseMany ob_worthOf ob_byCall ob_over ob_bestSet ob_bestOver ob_bestWorth ob_row ob_tenDebts ob_tenMany ob_fewestBy ob_covered ob_queue ob_cameBy ob_parent ob_met ob_calls ob_callMany ob_calledOn ob_saved ob_many ob_width ob_numbers ob_moving), (ce_i9080 y ob_world f_1004), (ce_i6 y ob_parts fob_parts)] := ⟨hP, hD⟩
        refine lv_iload hx hb dX10_goes_32 (lv_at hl 5 rfl) ?_
        refine cVim (As := [.int a1, .int a2, .int a3, .int 0, .int a4]) (rest := []) ⟨hx, hb, hml, hown, hw0⟩ hA hK hP hD hS [true, true, true] (sX10_lineFor l G y _ ob a1 a2 a3 0 a4 ob_thrown ob_world ob_images ob_hasImage ob_tape ob_taped ob_five ob_size ob_at ob_from ob_token ob_value ob_faultKind ob_faultPlace ob_fresh ob_parts ob_houses ob_houseMany ob_worthOf ob_byCall ob_over ob_bestSet ob_bestOver ob_bestWorth ob_row ob_tenDebts ob_tenMany ob_fewestBy ob_covered ob_queue ob_cameBy ob_parent ob_met ob_calls ob_callMany ob_calledOn ob_saved ob_many ob_width ob_numbers ob_moving f_1004 fob_parts bf_1004 p_ob_taped p_ob_size p_ob_at p_ob_from p_ob_token p_ob_value p_ob_faultKind p_ob_houseMany p_ob_bestSet p_ob_bestOver p_ob_tenMany p_ob_callMany p_a1 p_a2 (bw (0) (1) (bkc (x := 0) (c := 0) (by decide)) (by decide))) rfl ⟨(callB_of 5 hw0 (gA m_547) rfl rfl rfl (hw0 _ m_41) (hw0 _ m_496) cb_X10_lineFor ⟨Nat.le_of_ble_eq_true rfl, Nat.le_of_ble_eq_true rfl⟩), (hw0 _ m_497), (hw0 _ m_498)⟩ (ci := 10) (q := (RX10, TX10, 41)) rfl rfl rfl hl.1 (Nat.le_of_ble_eq_true rfl) dX10_goes_34 ⟨Nat.le_of_ble_eq_true rfl, Nat.le_of_ble_eq_true rfl⟩ (fun r_1059 w_1059 H locs hw_1059 hP hD hS => ?_)
        obtain ⟨v_1060, f_1061, bv_1060, er_1059, rfl⟩ := hw_1059
        subst r_1059
        obtain ⟨hP, hD⟩ : vPD G A H [(ce_X10 ob ob_thrown ob_world ob_images ob_hasImage ob_tape ob_taped ob_five ob_size ob_at ob_from ob_token ob_value ob_faultKind ob_faultPlace ob_fresh ob_parts ob_houses ob_houseMany ob_worthOf ob_byCall ob_over ob_bestSet ob_bestOver ob_bestWorth ob_row ob_tenDebts ob_tenMany ob_fewestBy ob_covered ob_queue ob_cameBy ob_parent ob_met ob_calls ob_callMany ob_calledOn ob_saved ob_many ob_width ob_numbers ob_moving), (ce_i9080 y ob_world f_1004), (ce_i6 y ob_parts f_1061)] := ⟨hP, hD⟩
        refine lv_istore (lv' := [(6, .int v_1060), (5, .int v_1003), (0, .ref ob), (1, .int a1), (2, .int a2), (3, .int a3), (4, .int a4)]) hx hb dX10_goes_37 hl (by decide) rfl (fun ls hl => ?_)
        refine lv_iload hx hb dX10_goes_39 (lv_at hl 0 rfl) ?_
        refine lv_iconst (v := (-1)) hx hb dX10_goes_41 (by decide) ?_
        refine lv_icmp_eq (tgt := 107) hx hb dX10_goes_42 (by decide) (fun c_1062 => ?_) (fun c_1062 => ?_)
        · skip
          have nc_1062 := nb_eq (-1) (-1) c_1062 bv_1060 (bkc (x := (-1)) (c := -1) (by decide)) (by decide)
          exact J_107_1048 _ _ _ _ ⟨f_1004, f_1061, bf_1004, (by omega), rfl, ⟨hP, hD⟩, hS, lv_sub hl [1, 2, 3, 4, 5] rfl⟩
        · skip
          have nc_1062 := nb_ne (0) (23) c_1062 bv_1060 (k := -1) (by decide) (by decide)
          refine lv_aload_n hx hb dX10_goes_45 rfl (lv_at hl 2 rfl) ?_
          refine va_get (D := G) (ci := 10) (v := .ref ob_world) (C := RX10) (T := TX10) (N := 41) hx hb hw0 inA_wsX100 hown hK.1 hP 0 rfl rfl 1 (by decide) (hw0 _ m_352) (fun _ h9 => h9) rfl dX10_goes_46 ?_
          refine lv_sipush (v := 154) hx hb dX10_goes_49 (by decide) ?_
          refine lv_iconst (v := 5) hx hb dX10_goes_52 (by decide) ?_
          refine lv_iload hx hb dX10_goes_53 (lv_at hl 0 rfl) ?_
          refine lv_imul hx hb dX10_goes_55 ?_
          refine lv_topi (fun v_1063 ev_1063 => ?_)
          have qv_1063 := ba_mul 5 (ev_1063.trans (Int32.mul_comm _ _)) nc_1062.1 (by decide) (by decide) (by decide)
          have bv_1063 : (0 : Int) ≤ v_1063.toInt ∧ v_1063.toInt ≤ 115 := qv_1063.2
          refine lv_iadd hx hb dX10_goes_56 ?_
          refine lv_topi (fun v_1064 ev_1064 => ?_)
          have qv_1064 := ba_add ev_1064 (bkc (x := 154) (c := 154) (by decide)) bv_1063 (by decide)
          have bv_1064 : (154 : Int) ≤ v_1064.toInt ∧ v_1064.toInt ≤ 269 := bq_add qv_1064 (bkc (x := 154) (c := 154) (by decide)) bv_1063 _ _ (by decide)
          have qv_1064 : v_1064.toInt = (154) + v_1063.toInt := qv_1064
          refine lv_iconst (v := 1) hx hb dX10_goes_57 (by decide) ?_
          refine lv_iadd hx hb dX10_goes_58 ?_
          refine lv_topi (fun v_1065 ev_1065 => ?_)
          have qv_1065 := ba_add ev_1065 bv_1064 (bkc (x := 1) (c := 1) (by decide)) (by decide)
          have bv_1065 : (155 : Int) ≤ v_1065.toInt ∧ v_1065.toInt ≤ 270 := bq_add qv_1065 bv_1064 (bkc (x := 1) (c := 1) (by decide)) _ _ (by decide)
          have qv_1065 : v_1065.toInt = v_1064.toInt + (1) := qv_1065
          refine va_iald hx hb hK.1 hP 1 1 rfl rfl (vi bv_1065 (by decide)) dX10_goes_59 ?_
          refine lv_topi (fun v_1066 ev_1066 => ?_)
          refine lv_istore (lv' := [(7, .int v_1066), (6, .int v_1060), (5, .int v_1003), (0, .ref ob), (1, .int a1), (2, .int a2), (3, .int a3), (4, .int a4)]) hx hb dX10_goes_60 hl (by decide) rfl (fun ls hl => ?_)
          refine lv_aload_n hx hb dX10_goes_62 rfl (lv_at hl 3 rfl) ?_
          refine lv_iload_n hx hb dX10_goes_63 rfl (lv_at hl 5 rfl) ?_
          refine lv_iload_n hx hb dX10_goes_64 rfl (lv_at hl 4 rfl) ?_
          refine lv_iload hx hb dX10_goes_65 (lv_at hl 0 rfl) ?_
          refine cVim (As := [.int a2, .int a1, .int v_1066]) (rest := []) ⟨hx, hb, hml, hown, hw0⟩ hA hK hP hD hS [true, true] (sX10_owesAlready l G y _ ob a2 a1 v_1066 ob_thrown ob_world ob_images ob_hasImage ob_tape ob_taped ob_five ob_size ob_at ob_from ob_token ob_value ob_faultKind ob_faultPlace ob_fresh ob_parts ob_houses ob_houseMany ob_worthOf ob_byCall ob_over ob_bestSet ob_bestOver ob_bestWorth ob_row ob_tenDebts ob_tenMany ob_fewestBy ob_covered ob_queue ob_cameBy ob_parent ob_met ob_calls ob_callMany ob_calledOn ob_saved ob_many ob_width ob_numbers ob_moving f_1004 bf_1004 p_ob_taped p_ob_size p_ob_at p_ob_from p_ob_token p_ob_value p_ob_faultKind p_ob_houseMany p_ob_bestSet p_ob_bestOver p_ob_tenMany p_ob_callMany) rfl ⟨(callB_of 3 hw0 (gA m_586) rfl rfl rfl (hw0 _ m_41) (hw0 _ m_499) cb_X10_owesAlready ⟨Nat.le_of_ble_eq_true rfl, Nat.le_of_ble_eq_true rfl⟩), (hw0 _ m_500), (hw0 _ m_501)⟩ (ci := 10) (q := (RX10, TX10, 41)) rfl rfl rfl hl.1 (Nat.le_of_ble_eq_true rfl) dX10_goes_67 ⟨Nat.le_of_ble_eq_true rfl, Nat.le_of_ble_eq_true rfl⟩ (fun r_1067 w_1067 H locs hw_1067 hP hD hS => ?_)
          rcases hw_1067 with ⟨rfl, rfl⟩ | ⟨h_1068, h_1069, rfl, rfl⟩
          · skip
            obtain ⟨hP, hD⟩ : vPD G A H [(ce_X10 ob ob_thrown ob_world ob_images ob_hasImage ob_tape ob_taped ob_five ob_size ob_at ob_from ob_token ob_value ob_faultKind ob_faultPlace ob_fresh ob_parts ob_houses ob_houseMany ob_worthOf ob_byCall ob_over ob_bestSet ob_bestOver ob_bestWorth ob_row ob_tenDebts ob_tenMany ob_fewestBy ob_covered ob_queue ob_cameBy ob_parent ob_met ob_calls ob_callMany ob_calledOn ob_saved ob_many ob_width ob_numbers ob_moving), (ce_i9080 y ob_world f_1004), (ce_i6 y ob_parts f_1061)] := ⟨hP, hD⟩
            refine lv_if_ne (tgt := 107) hx hb dX10_goes_70 (by decide) (fun c9 => absurd (by decide) c9) (fun _ => ?_)
            refine lv_aload_n hx hb dX10_goes_73 rfl (lv_at hl 3 rfl) ?_
            refine lv_iload_n hx hb dX10_goes_74 rfl (lv_at hl 5 rfl) ?_
            refine lv_iload_n hx hb dX10_goes_75 rfl (lv_at hl 4 rfl) ?_
            refine lv_iload hx hb dX10_goes_76 (lv_at hl 0 rfl) ?_
            refine lv_sipush (v := 399) hx hb dX10_goes_78 (by decide) ?_
            refine lv_iload hx hb dX10_goes_81 (lv_at hl 7 rfl) ?_
            refine lv_aload_n hx hb dX10_goes_83 rfl (lv_at hl 3 rfl) ?_
            refine va_get (D := G) (ci := 10) (v := .ref ob_world) (C := RX10) (T := TX10) (N := 41) hx hb hw0 inA_wsX100 hown hK.1 hP 0 rfl rfl 1 (by decide) (hw0 _ m_352) (fun _ h9 => h9) rfl dX10_goes_84 ?_
            refine lv_sipush (v := 154) hx hb dX10_goes_87 (by decide) ?_
            refine lv_iconst (v := 5) hx hb dX10_goes_90 (by decide) ?_
            refine lv_iload hx hb dX10_goes_91 (lv_at hl 1 rfl) ?_
            refine lv_imul hx hb dX10_goes_93 ?_
            refine lv_topi (fun v_1070 ev_1070 => ?_)
            obtain rfl : v_1063 = v_1070 := (ev_1070.trans (ev_1063.symm)).symm
            refine lv_iadd hx hb dX10_goes_94 ?_
            refine lv_topi (fun v_1071 ev_1071 => ?_)
            obtain rfl : v_1064 = v_1071 := (ev_1071.trans (ev_1064.symm)).symm
            refine lv_iconst (v := 2) hx hb dX10_goes_95 (by decide) ?_
            refine lv_iadd hx hb dX10_goes_96 ?_
            refine lv_topi (fun v_1072 ev_1072 => ?_)
            have qv_1072 := ba_add ev_1072 bv_1064 (bkc (x := 2) (c := 2) (by decide)) (by decide)
            have bv_1072 : (156 : Int) ≤ v_1072.toInt ∧ v_1072.toInt ≤ 271 := bq_add qv_1072 bv_1064 (bkc (x := 2) (c := 2) (by decide)) _ _ (by decide)
            have qv_1072 : v_1072.toInt = v_1064.toInt + (2) := qv_1072
            refine va_iald hx hb hK.1 hP 1 1 rfl rfl (vi bv_1072 (by decide)) dX10_goes_97 ?_
            refine lv_topi (fun v_1073 ev_1073 => ?_)
            refine lv_iadd hx hb dX10_goes_98 ?_
            refine lv_topi (fun v_1074 ev_1074 => ?_)
            refine va_mmin (own := RX10) hx hb (by rw [hml]; exact hl.1.symm) hown (hw0 _ m_350) (hw0 _ m_282) (hw0 _ m_283) (hw0 _ m_284) (Nat.le_of_ble_eq_true rfl) (Nat.le_of_ble_eq_true rfl) (Nat.zero_le _) (Nat.zero_le _) dX10_goes_99 ?_
            refine lv_topi (fun v_1075 ev_1075 => ?_)
            have bv_1075 : (-2147483648 : Int) ≤ v_1075.toInt ∧ v_1075.toInt ≤ 399 := bm_min ev_1075 (bkc (x := 399) (c := 399) (by decide)) (btop v_1074) _ _ (by decide)
            refine lv_iload hx hb dX10_goes_102 (lv_at hl 7 rfl) ?_
            refine cVvm (As := [.int a2, .int a1, .int v_1066, .int v_1075, .int a4]) (rest := []) ⟨hx, hb, hml, hown, hw0⟩ hA hK hP hD hS [true, true] (sX10_comes l G y _ ob a2 a1 v_1066 v_1075 a4 ob_thrown ob_world ob_images ob_hasImage ob_tape ob_taped ob_five ob_size ob_at ob_from ob_token ob_value ob_faultKind ob_faultPlace ob_fresh ob_parts ob_houses ob_houseMany ob_worthOf ob_byCall ob_over ob_bestSet ob_bestOver ob_bestWorth ob_row ob_tenDebts ob_tenMany ob_fewestBy ob_covered ob_queue ob_cameBy ob_parent ob_met ob_calls ob_callMany ob_calledOn ob_saved ob_many ob_width ob_numbers ob_moving f_1004 bf_1004 p_ob_taped p_ob_size p_ob_at p_ob_from p_ob_token p_ob_value p_ob_faultKind p_ob_houseMany p_ob_bestSet p_ob_bestOver p_ob_tenMany p_ob_callMany p_a2 p_a1 (by omega)) rfl ⟨(callB_of 5 hw0 (gA m_399) rfl rfl rfl (hw0 _ m_41) (hw0 _ m_502) cb_X10_comes ⟨Nat.le_of_ble_eq_true rfl, Nat.le_of_ble_eq_true rfl⟩), (hw0 _ m_503), (hw0 _ m_504)⟩ (ci := 10) (q := (RX10, TX10, 41)) rfl rfl rfl hl.1 (Nat.le_of_ble_eq_true rfl) dX10_goes_104 ⟨Nat.le_of_ble_eq_true rfl, Nat.le_of_ble_eq_true rfl⟩ (fun w_1076 H locs hw_1076 hP hD hS => ?_)
            obtain ⟨f_1077, bf_1077, h_1078, rfl⟩ := hw_1076
            obtain ⟨hP, hD⟩ : vPD G A H [(ce_X10 ob ob_thrown ob_world ob_images ob_hasImage ob_tape ob_taped ob_five ob_size ob_at ob_from ob_token ob_value ob_faultKind ob_faultPlace ob_fresh ob_parts ob_houses ob_houseMany ob_worthOf ob_byCall ob_over ob_bestSet ob_bestOver ob_bestWorth ob_row ob_tenDebts ob_tenMany ob_fewestBy ob_covered ob_queue ob_cameBy ob_parent ob_met ob_calls ob_callMany ob_calledOn ob_saved ob_many ob_width ob_numbers ob_moving), (ce_i9080 y ob_world f_1077), (ce_i6 y ob_parts f_1061)] := ⟨hP, hD⟩
            exact J_107_1048 _ _ _ _ ⟨f_1077, f_1061, bf_1077, (by omega), rfl, ⟨hP, hD⟩, hS, lv_sub hl [2, 3, 4, 5, 6] rfl⟩
          · skip
            obtain ⟨hP, hD⟩ : vPD G A H [(ce_X10 ob ob_thrown ob_world ob_images ob_hasImage ob_tape ob_taped ob_five ob_size ob_at ob_from ob_token ob_value ob_faultKind ob_faultPlace ob_fresh ob_parts ob_houses ob_houseMany ob_worthOf ob_byCall ob_over ob_bestSet ob_bestOver ob_bestWorth ob_row ob_tenDebts ob_tenMany ob_fewestBy ob_covered ob_queue ob_cameBy ob_parent ob_met ob_calls ob_callMany ob_calledOn ob_saved ob_many ob_width ob_numbers ob_moving), (ce_i9080 y ob_world f_1004), (ce_i6 y ob_parts f_1061)] := ⟨hP, hD⟩
            refine lv_if_ne (tgt := 107) hx hb dX10_goes_70 (by decide) (fun _ => ?_) (fun c9 => absurd c9 (by decide))
            exact J_107_1048 _ _ _ _ ⟨f_1004, f_1061, bf_1004, (by omega), rfl, ⟨hP, hD⟩, hS, lv_sub hl [2, 3, 4, 5, 6] rfl⟩
      · skip
        obtain ⟨hP, hD⟩ : vPD G A H [(ce_X10 ob ob_thrown ob_world ob_images ob_hasImage ob_tape ob_taped ob_five ob_size ob_at ob_from ob_token ob_value ob_faultKind ob_faultPlace ob_fresh ob_parts ob_houses ob_houseMany ob_worthOf ob_byCall ob_over ob_bestSet ob_bestOver ob_bestWorth ob_row ob_tenDebts ob_tenMany ob_fewestBy ob_covered ob_queue ob_cameBy ob_parent ob_met ob_calls ob_callMany ob_calledOn ob_saved ob_many ob_width ob_numbers ob_moving), (ce_i9080 y ob_world f_1004), (ce_i6 y ob_parts fob_parts)] := ⟨hP, hD⟩
        refine lv_iload hx hb dX10_goes_32 (lv_at hl 5 rfl) ?_
        refine cVim (As := [.int a1, .int a2, .int a3, .int 1, .int a4]) (rest := []) ⟨hx, hb, hml, hown, hw0⟩ hA hK hP hD hS [true, true, true] (sX10_lineFor l G y _ ob a1 a2 a3 1 a4 ob_thrown ob_world ob_images ob_hasImage ob_tape ob_taped ob_five ob_size ob_at ob_from ob_token ob_value ob_faultKind ob_faultPlace ob_fresh ob_parts ob_houses ob_houseMany ob_worthOf ob_byCall ob_over ob_bestSet ob_bestOver ob_bestWorth ob_row ob_tenDebts ob_tenMany ob_fewestBy ob_covered ob_queue ob_cameBy ob_parent ob_met ob_calls ob_callMany ob_calledOn ob_saved ob_many ob_width ob_numbers ob_moving f_1004 fob_parts bf_1004 p_ob_taped p_ob_size p_ob_at p_ob_from p_ob_token p_ob_value p_ob_faultKind p_ob_houseMany p_ob_bestSet p_ob_bestOver p_ob_tenMany p_ob_callMany p_a1 p_a2 (bw (0) (1) (bkc (x := 1) (c := 1) (by decide)) (by decide))) rfl ⟨(callB_of 5 hw0 (gA m_547) rfl rfl rfl (hw0 _ m_41) (hw0 _ m_496) cb_X10_lineFor ⟨Nat.le_of_ble_eq_true rfl, Nat.le_of_ble_eq_true rfl⟩), (hw0 _ m_497), (hw0 _ m_498)⟩ (ci := 10) (q := (RX10, TX10, 41)) rfl rfl rfl hl.1 (Nat.le_of_ble_eq_true rfl) dX10_goes_34 ⟨Nat.le_of_ble_eq_true rfl, Nat.le_of_ble_eq_true rfl⟩ (fun r_1079 w_1079 H locs hw_1079 hP hD hS => ?_)
        obtain ⟨v_1080, f_1081, bv_1080, er_1079, rfl⟩ := hw_1079
        subst r_1079
        obtain ⟨hP, hD⟩ : vPD G A H [(ce_X10 ob ob_thrown ob_world ob_images ob_hasImage ob_tape ob_taped ob_five ob_size ob_at ob_from ob_token ob_value ob_faultKind ob_faultPlace ob_fresh ob_parts ob_houses ob_houseMany ob_worthOf ob_byCall ob_over ob_bestSet ob_bestOver ob_bestWorth ob_row ob_tenDebts ob_tenMany ob_fewestBy ob_covered ob_queue ob_cameBy ob_parent ob_met ob_calls ob_callMany ob_calledOn ob_saved ob_many ob_width ob_numbers ob_moving), (ce_i9080 y ob_world f_1004), (ce_i6 y ob_parts f_1081)] := ⟨hP, hD⟩
        refine lv_istore (lv' := [(6, .int v_1080), (5, .int v_1003), (0, .ref ob), (1, .int a1), (2, .int a2), (3, .int a3), (4, .int a4)]) hx hb dX10_goes_37 hl (by decide) rfl (fun ls hl => ?_)
        refine lv_iload hx hb dX10_goes_39 (lv_at hl 0 rfl) ?_
        refine lv_iconst (v := (-1)) hx hb dX10_goes_41 (by decide) ?_
        refine lv_icmp_eq (tgt := 107) hx hb dX10_goes_42 (by decide) (fun c_1082 => ?_) (fun c_1082 => ?_)
        · skip
          have nc_1082 := nb_eq (-1) (-1) c_1082 bv_1080 (bkc (x := (-1)) (c := -1) (by decide)) (by decide)
          exact J_107_1048 _ _ _ _ ⟨f_1004, f_1081, bf_1004, (by omega), rfl, ⟨hP, hD⟩, hS, lv_sub hl [1, 2, 3, 4, 5] rfl⟩
        · skip
          have nc_1082 := nb_ne (0) (23) c_1082 bv_1080 (k := -1) (by decide) (by decide)
          refine lv_aload_n hx hb dX10_goes_45 rfl (lv_at hl 2 rfl) ?_
          refine va_get (D := G) (ci := 10) (v := .ref ob_world) (C := RX10) (T := TX10) (N := 41) hx hb hw0 inA_wsX100 hown hK.1 hP 0 rfl rfl 1 (by decide) (hw0 _ m_352) (fun _ h9 => h9) rfl dX10_goes_46 ?_
          refine lv_sipush (v := 154) hx hb dX10_goes_49 (by decide) ?_
          refine lv_iconst (v := 5) hx hb dX10_goes_52 (by decide) ?_
          refine lv_iload hx hb dX10_goes_53 (lv_at hl 0 rfl) ?_
          refine lv_imul hx hb dX10_goes_55 ?_
          refine lv_topi (fun v_1083 ev_1083 => ?_)
          have qv_1083 := ba_mul 5 (ev_1083.trans (Int32.mul_comm _ _)) nc_1082.1 (by decide) (by decide) (by decide)
          have bv_1083 : (0 : Int) ≤ v_1083.toInt ∧ v_1083.toInt ≤ 115 := qv_1083.2
          refine lv_iadd hx hb dX10_goes_56 ?_
          refine lv_topi (fun v_1084 ev_1084 => ?_)
          have qv_1084 := ba_add ev_1084 (bkc (x := 154) (c := 154) (by decide)) bv_1083 (by decide)
          have bv_1084 : (154 : Int) ≤ v_1084.toInt ∧ v_1084.toInt ≤ 269 := bq_add qv_1084 (bkc (x := 154) (c := 154) (by decide)) bv_1083 _ _ (by decide)
          have qv_1084 : v_1084.toInt = (154) + v_1083.toInt := qv_1084
          refine lv_iconst (v := 1) hx hb dX10_goes_57 (by decide) ?_
          refine lv_iadd hx hb dX10_goes_58 ?_
          refine lv_topi (fun v_1085 ev_1085 => ?_)
          have qv_1085 := ba_add ev_1085 bv_1084 (bkc (x := 1) (c := 1) (by decide)) (by decide)
          have bv_1085 : (155 : Int) ≤ v_1085.toInt ∧ v_1085.toInt ≤ 270 := bq_add qv_1085 bv_1084 (bkc (x := 1) (c := 1) (by decide)) _ _ (by decide)
          have qv_1085 : v_1085.toInt = v_1084.toInt + (1) := qv_1085
          refine va_iald hx hb hK.1 hP 1 1 rfl rfl (vi bv_1085 (by decide)) dX10_goes_59 ?_
          refine lv_topi (fun v_1086 ev_1086 => ?_)
          refine lv_istore (lv' := [(7, .int v_1086), (6, .int v_1080), (5, .int v_1003), (0, .ref ob), (1, .int a1), (2, .int a2), (3, .int a3), (4, .int a4)]) hx hb dX10_goes_60 hl (by decide) rfl (fun ls hl => ?_)
          refine lv_aload_n hx hb dX10_goes_62 rfl (lv_at hl 3 rfl) ?_
          refine lv_iload_n hx hb dX10_goes_63 rfl (lv_at hl 5 rfl) ?_
          refine lv_iload_n hx hb dX10_goes_64 rfl (lv_at hl 4 rfl) ?_
          refine lv_iload hx hb dX10_goes_65 (lv_at hl 0 rfl) ?_
          refine cVim (As := [.int a2, .int a1, .int v_1086]) (rest := []) ⟨hx, hb, hml, hown, hw0⟩ hA hK hP hD hS [true, true] (sX10_owesAlready l G y _ ob a2 a1 v_1086 ob_thrown ob_world ob_images ob_hasImage ob_tape ob_taped ob_five ob_size ob_at ob_from ob_token ob_value ob_faultKind ob_faultPlace ob_fresh ob_parts ob_houses ob_houseMany ob_worthOf ob_byCall ob_over ob_bestSet ob_bestOver ob_bestWorth ob_row ob_tenDebts ob_tenMany ob_fewestBy ob_covered ob_queue ob_cameBy ob_parent ob_met ob_calls ob_callMany ob_calledOn ob_saved ob_many ob_width ob_numbers ob_moving f_1004 bf_1004 p_ob_taped p_ob_size p_ob_at p_ob_from p_ob_token p_ob_value p_ob_faultKind p_ob_houseMany p_ob_bestSet p_ob_bestOver p_ob_tenMany p_ob_callMany) rfl ⟨(callB_of 3 hw0 (gA m_586) rfl rfl rfl (hw0 _ m_41) (hw0 _ m_499) cb_X10_owesAlready ⟨Nat.le_of_ble_eq_true rfl, Nat.le_of_ble_eq_true rfl⟩), (hw0 _ m_500), (hw0 _ m_501)⟩ (ci := 10) (q := (RX10, TX10, 41)) rfl rfl rfl hl.1 (Nat.le_of_ble_eq_true rfl) dX10_goes_67 ⟨Nat.le_of_ble_eq_true rfl, Nat.le_of_ble_eq_true rfl⟩ (fun r_1087 w_1087 H locs hw_1087 hP hD hS => ?_)
          rcases hw_1087 with ⟨rfl, rfl⟩ | ⟨h_1088, h_1089, rfl, rfl⟩
          · skip
            obtain ⟨hP, hD⟩ : vPD G A H [(ce_X10 ob ob_thrown ob_world ob_images ob_hasImage ob_tape ob_taped ob_five ob_size ob_at ob_from ob_token ob_value ob_faultKind ob_faultPlace ob_fresh ob_parts ob_houses ob_houseMany ob_worthOf ob_byCall ob_over ob_bestSet ob_bestOver ob_bestWorth ob_row ob_tenDebts ob_tenMany ob_fewestBy ob_covered ob_queue ob_cameBy ob_parent ob_met ob_calls ob_callMany ob_calledOn ob_saved ob_many ob_width ob_numbers ob_moving), (ce_i9080 y ob_world f_1004), (ce_i6 y ob_parts f_1081)] := ⟨hP, hD⟩
            refine lv_if_ne (tgt := 107) hx hb dX10_goes_70 (by decide) (fun c9 => absurd (by decide) c9) (fun _ => ?_)
            refine lv_aload_n hx hb dX10_goes_73 rfl (lv_at hl 3 rfl) ?_
            refine lv_iload_n hx hb dX10_goes_74 rfl (lv_at hl 5 rfl) ?_
            refine lv_iload_n hx hb dX10_goes_75 rfl (lv_at hl 4 rfl) ?_
            refine lv_iload hx hb dX10_goes_76 (lv_at hl 0 rfl) ?_
            refine lv_sipush (v := 399) hx hb dX10_goes_78 (by decide) ?_
            refine lv_iload hx hb dX10_goes_81 (lv_at hl 7 rfl) ?_
            refine lv_aload_n hx hb dX10_goes_83 rfl (lv_at hl 3 rfl) ?_
            refine va_get (D := G) (ci := 10) (v := .ref ob_world) (C := RX10) (T := TX10) (N := 41) hx hb hw0 inA_wsX100 hown hK.1 hP 0 rfl rfl 1 (by decide) (hw0 _ m_352) (fun _ h9 => h9) rfl dX10_goes_84 ?_
            refine lv_sipush (v := 154) hx hb dX10_goes_87 (by decide) ?_
            refine lv_iconst (v := 5) hx hb dX10_goes_90 (by decide) ?_
            refine lv_iload hx hb dX10_goes_91 (lv_at hl 1 rfl) ?_
            refine lv_imul hx hb dX10_goes_93 ?_
            refine lv_topi (fun v_1090 ev_1090 => ?_)
            obtain rfl : v_1083 = v_1090 := (ev_1090.trans (ev_1083.symm)).symm
            refine lv_iadd hx hb dX10_goes_94 ?_
            refine lv_topi (fun v_1091 ev_1091 => ?_)
            obtain rfl : v_1084 = v_1091 := (ev_1091.trans (ev_1084.symm)).symm
            refine lv_iconst (v := 2) hx hb dX10_goes_95 (by decide) ?_
            refine lv_iadd hx hb dX10_goes_96 ?_
            refine lv_topi (fun v_1092 ev_1092 => ?_)
            have qv_1092 := ba_add ev_1092 bv_1084 (bkc (x := 2) (c := 2) (by decide)) (by decide)
            have bv_1092 : (156 : Int) ≤ v_1092.toInt ∧ v_1092.toInt ≤ 271 := bq_add qv_1092 bv_1084 (bkc (x := 2) (c := 2) (by decide)) _ _ (by decide)
            have qv_1092 : v_1092.toInt = v_1084.toInt + (2) := qv_1092
            refine va_iald hx hb hK.1 hP 1 1 rfl rfl (vi bv_1092 (by decide)) dX10_goes_97 ?_
            refine lv_topi (fun v_1093 ev_1093 => ?_)
            refine lv_iadd hx hb dX10_goes_98 ?_
            refine lv_topi (fun v_1094 ev_1094 => ?_)
            refine va_mmin (own := RX10) hx hb (by rw [hml]; exact hl.1.symm) hown (hw0 _ m_350) (hw0 _ m_282) (hw0 _ m_283) (hw0 _ m_284) (Nat.le_of_ble_eq_true rfl) (Nat.le_of_ble_eq_true rfl) (Nat.zero_le _) (Nat.zero_le _) dX10_goes_99 ?_
            refine lv_topi (fun v_1095 ev_1095 => ?_)
            have bv_1095 : (-2147483648 : Int) ≤ v_1095.toInt ∧ v_1095.toInt ≤ 399 := bm_min ev_1095 (bkc (x := 399) (c := 399) (by decide)) (btop v_1094) _ _ (by decide)
            refine lv_iload hx hb dX10_goes_102 (lv_at hl 7 rfl) ?_
            refine cVvm (As := [.int a2, .int a1, .int v_1086, .int v_1095, .int a4]) (rest := []) ⟨hx, hb, hml, hown, hw0⟩ hA hK hP hD hS [true, true] (sX10_comes l G y _ ob a2 a1 v_1086 v_1095 a4 ob_thrown ob_world ob_images ob_hasImage ob_tape ob_taped ob_five ob_size ob_at ob_from ob_token ob_value ob_faultKind ob_faultPlace ob_fresh ob_parts ob_houses ob_houseMany ob_worthOf ob_byCall ob_over ob_bestSet ob_bestOver ob_bestWorth ob_row ob_tenDebts ob_tenMany ob_fewestBy ob_covered ob_queue ob_cameBy ob_parent ob_met ob_calls ob_callMany ob_calledOn ob_saved ob_many ob_width ob_numbers ob_moving f_1004 bf_1004 p_ob_taped p_ob_size p_ob_at p_ob_from p_ob_token p_ob_value p_ob_faultKind p_ob_houseMany p_ob_bestSet p_ob_bestOver p_ob_tenMany p_ob_callMany p_a2 p_a1 (by omega)) rfl ⟨(callB_of 5 hw0 (gA m_399) rfl rfl rfl (hw0 _ m_41) (hw0 _ m_502) cb_X10_comes ⟨Nat.le_of_ble_eq_true rfl, Nat.le_of_ble_eq_true rfl⟩), (hw0 _ m_503), (hw0 _ m_504)⟩ (ci := 10) (q := (RX10, TX10, 41)) rfl rfl rfl hl.1 (Nat.le_of_ble_eq_true rfl) dX10_goes_104 ⟨Nat.le_of_ble_eq_true rfl, Nat.le_of_ble_eq_true rfl⟩ (fun w_1096 H locs hw_1096 hP hD hS => ?_)
            obtain ⟨f_1097, bf_1097, h_1098, rfl⟩ := hw_1096
            obtain ⟨hP, hD⟩ : vPD G A H [(ce_X10 ob ob_thrown ob_world ob_images ob_hasImage ob_tape ob_taped ob_five ob_size ob_at ob_from ob_token ob_value ob_faultKind ob_faultPlace ob_fresh ob_parts ob_houses ob_houseMany ob_worthOf ob_byCall ob_over ob_bestSet ob_bestOver ob_bestWorth ob_row ob_tenDebts ob_tenMany ob_fewestBy ob_covered ob_queue ob_cameBy ob_parent ob_met ob_calls ob_callMany ob_calledOn ob_saved ob_many ob_width ob_numbers ob_moving), (ce_i9080 y ob_world f_1097), (ce_i6 y ob_parts f_1081)] := ⟨hP, hD⟩
            exact J_107_1048 _ _ _ _ ⟨f_1097, f_1081, bf_1097, (by omega), rfl, ⟨hP, hD⟩, hS, lv_sub hl [2, 3, 4, 5, 6] rfl⟩
          · skip
            obtain ⟨hP, hD⟩ : vPD G A H [(ce_X10 ob ob_thrown ob_world ob_images ob_hasImage ob_tape ob_taped ob_five ob_size ob_at ob_from ob_token ob_value ob_faultKind ob_faultPlace ob_fresh ob_parts ob_houses ob_houseMany ob_worthOf ob_byCall ob_over ob_bestSet ob_bestOver ob_bestWorth ob_row ob_tenDebts ob_tenMany ob_fewestBy ob_covered ob_queue ob_cameBy ob_parent ob_met ob_calls ob_callMany ob_calledOn ob_saved ob_many ob_width ob_numbers ob_moving), (ce_i9080 y ob_world f_1004), (ce_i6 y ob_parts f_1081)] := ⟨hP, hD⟩
            refine lv_if_ne (tgt := 107) hx hb dX10_goes_70 (by decide) (fun _ => ?_) (fun c9 => absurd c9 (by decide))
            exact J_107_1048 _ _ _ _ ⟨f_1004, f_1081, bf_1004, (by omega), rfl, ⟨hP, hD⟩, hS, lv_sub hl [2, 3, 4, 5, 6] rfl⟩
  · skip
    have nc_1001 := nb_eq (4) (4) c_1001 (btop a3) (bkc (x := 4) (c := 4) (by decide)) (by decide)
    refine lv_aload_n hx hb dX10_goes_5 rfl (lv_at hl 0 rfl) ?_
    refine lv_iload_n hx hb dX10_goes_6 rfl (lv_at hl 1 rfl) ?_
    refine lv_iload_n hx hb dX10_goes_7 rfl (lv_at hl 2 rfl) ?_
    refine cVvm (As := [.int a1, .int a2]) (rest := []) ⟨hx, hb, hml, hown, hw0⟩ hA hK hP hD hS [true, true] (sX10_meets l G y _ ob a1 a2 ob_thrown ob_world ob_images ob_hasImage ob_tape ob_taped ob_five ob_size ob_at ob_from ob_token ob_value ob_faultKind ob_faultPlace ob_fresh ob_parts ob_houses ob_houseMany ob_worthOf ob_byCall ob_over ob_bestSet ob_bestOver ob_bestWorth ob_row ob_tenDebts ob_tenMany ob_fewestBy ob_covered ob_queue ob_cameBy ob_parent ob_met ob_calls ob_callMany ob_calledOn ob_saved ob_many ob_width ob_numbers ob_moving fob_world p_fob_world p_ob_taped p_ob_size p_ob_at p_ob_from p_ob_token p_ob_value p_ob_faultKind p_ob_houseMany p_ob_bestSet p_ob_bestOver p_ob_tenMany p_ob_callMany p_a1 p_a2) rfl ⟨(callB_of 2 hw0 (gA m_559) rfl rfl rfl (hw0 _ m_41) (hw0 _ m_490) cb_X10_meets ⟨Nat.le_of_ble_eq_true rfl, Nat.le_of_ble_eq_true rfl⟩), (hw0 _ m_491), (hw0 _ m_492)⟩ (ci := 10) (q := (RX10, TX10, 41)) rfl rfl rfl hl.1 (Nat.le_of_ble_eq_true rfl) dX10_goes_8 ⟨Nat.le_of_ble_eq_true rfl, Nat.le_of_ble_eq_true rfl⟩ (fun w_1099 H locs hw_1099 hP hD hS => ?_)
    obtain ⟨f_1100, bf_1100, h_1101, rfl⟩ := hw_1099
    obtain ⟨hP, hD⟩ : vPD G A H [(ce_X10 ob ob_thrown ob_world ob_images ob_hasImage ob_tape ob_taped ob_five ob_size ob_at ob_from ob_token ob_value ob_faultKind ob_faultPlace ob_fresh ob_parts ob_houses ob_houseMany ob_worthOf ob_byCall ob_over ob_bestSet ob_bestOver ob_bestWorth ob_row ob_tenDebts ob_tenMany ob_fewestBy ob_covered ob_queue ob_cameBy ob_parent ob_met ob_calls ob_callMany ob_calledOn ob_saved ob_many ob_width ob_numbers ob_moving), (ce_i9080 y ob_world f_1100), (ce_i6 y ob_parts fob_parts)] := ⟨hP, hD⟩
    refine lv_iconst (v := 0) hx hb dX10_goes_11 (by decide) ?_
    exact W.iret (v := 0) hx hb hr (fun t ht hW => ⟨⟨0, _, rfl, ⟨0, f_1100, fob_parts, bf_1100, by have h90 : Int32.toInt 0 = 0 := (by decide); omega, rfl, rfl⟩, by rw [ht]; exact hP, hD⟩, hS.F ht⟩) hS.2.2 dX10_goes_12

set_option maxHeartbeats 4000000 in
set_option maxRecDepth 100000 in
theorem sX10_notes (l : Launch) (G : va_G) (y : Nat → ClassId) (sz : Nat) (ob : Nat) (a1 : Int32) (a2 : Int32) (a3 : Int32) (ob_thrown : Int32) (ob_world : Nat) (ob_images : Nat) (ob_hasImage : Nat) (ob_tape : Nat) (ob_taped : Int32) (ob_five : Nat) (ob_size : Int32) (ob_at : Int32) (ob_from : Int32) (ob_token : Int32) (ob_value : Int32) (ob_faultKind : Int32) (ob_faultPlace : Int32) (ob_fresh : Nat) (ob_parts : Nat) (ob_houses : Nat) (ob_houseMany : Int32) (ob_worthOf : Nat) (ob_byCall : Nat) (ob_over : Nat) (ob_bestSet : Int32) (ob_bestOver : Int32) (ob_bestWorth : Int32) (ob_row : Nat) (ob_tenDebts : Nat) (ob_tenMany : Int32) (ob_fewestBy : Nat) (ob_covered : Nat) (ob_queue : Nat) (ob_cameBy : Nat) (ob_parent : Nat) (ob_met : Nat) (ob_calls : Nat) (ob_callMany : Int32) (ob_calledOn : Nat) (ob_saved : Nat) (ob_many : Nat) (ob_width : Nat) (ob_numbers : Nat) (ob_moving : Nat) (fob_world : Nat → Int32) (fob_parts : Nat → Int32) (p_fob_world : RWw fob_world) (p_ob_taped : (0 : Int) ≤ ob_taped.toInt ∧ ob_taped.toInt ≤ 1400) (p_ob_size : (0 : Int) ≤ ob_size.toInt ∧ ob_size.toInt ≤ 1400) (p_ob_at : (0 : Int) ≤ ob_at.toInt ∧ ob_at.toInt ≤ 1400) (p_ob_from : (0 : Int) ≤ ob_from.toInt ∧ ob_from.toInt ≤ 1400) (p_ob_token : (0 : Int) ≤ ob_token.toInt ∧ ob_token.toInt ≤ 4) (p_ob_value : (0 : Int) ≤ ob_value.toInt ∧ ob_value.toInt ≤ 9999) (p_ob_faultKind : (0 : Int) ≤ ob_faultKind.toInt ∧ ob_faultKind.toInt ≤ 3) (p_ob_houseMany : (0 : Int) ≤ ob_houseMany.toInt ∧ ob_houseMany.toInt ≤ 10) (p_ob_bestSet : (0 : Int) ≤ ob_bestSet.toInt ∧ ob_bestSet.toInt ≤ 1023) (p_ob_bestOver : (-1 : Int) ≤ ob_bestOver.toInt ∧ ob_bestOver.toInt ≤ 180) (p_ob_tenMany : (0 : Int) ≤ ob_tenMany.toInt ∧ ob_tenMany.toInt ≤ 10) (p_ob_callMany : (0 : Int) ≤ ob_callMany.toInt ∧ ob_callMany.toInt ≤ 16) (p_a1 : (0 : Int) ≤ a1.toInt ∧ a1.toInt ≤ 15) (p_a2 : (0 : Int) ≤ a2.toInt ∧ a2.toInt ≤ 15) (hq0 : (fob_world 8).toInt ≤ 599) : Met l yX10_notes (Cond.code yX10_notes cX10_notes 6 (some .int) :: wAll) ({ frames := 4, cells := 0, slots := 0, locals := 111 }) (va_Pc [.ref ob, .int a1, .int a2, .int a3] (kp G y sz [(ce_X10 ob ob_thrown ob_world ob_images ob_hasImage ob_tape ob_taped ob_five ob_size ob_at ob_from ob_token ob_value ob_faultKind ob_faultPlace ob_fresh ob_parts ob_houses ob_houseMany ob_worthOf ob_byCall ob_over ob_bestSet ob_bestOver ob_bestWorth ob_row ob_tenDebts ob_tenMany ob_fewestBy ob_covered ob_queue ob_cameBy ob_parent ob_met ob_calls ob_callMany ob_calledOn ob_saved ob_many ob_width ob_numbers ob_moving), (ce_i9080 y ob_world fob_world), (ce_i6 y ob_parts fob_parts)])) (va_Qi (fun (r : Int32) (w : va_W) => (∃ (v_59 : Int32) (f_60 : Nat → Int32) (f_61 : Nat → Int32), (RWw f_60) ∧ r = v_59 ∧ w = [(ce_X10 ob ob_thrown ob_world ob_images ob_hasImage ob_tape ob_taped ob_five ob_size ob_at ob_from ob_token ob_value ob_faultKind ob_faultPlace ob_fresh ob_parts ob_houses ob_houseMany ob_worthOf ob_byCall ob_over ob_bestSet ob_bestOver ob_bestWorth ob_row ob_tenDebts ob_tenMany ob_fewestBy ob_covered ob_queue ob_cameBy ob_parent ob_met ob_calls ob_callMany ob_calledOn ob_saved ob_many ob_width ob_numbers ob_moving), (ce_i9080 y ob_world f_60), (ce_i6 y ob_parts f_61)])) (kq G (va_A [(ce_X10 ob ob_thrown ob_world ob_images ob_hasImage ob_tape ob_taped ob_five ob_size ob_at ob_from ob_token ob_value ob_faultKind ob_faultPlace ob_fresh ob_parts ob_houses ob_houseMany ob_worthOf ob_byCall ob_over ob_bestSet ob_bestOver ob_bestWorth ob_row ob_tenDebts ob_tenMany ob_fewestBy ob_covered ob_queue ob_cameBy ob_parent ob_met ob_calls ob_callMany ob_calledOn ob_saved ob_many ob_width ob_numbers ob_moving), (ce_i9080 y ob_world fob_world), (ce_i6 y ob_parts fob_parts)] sz)) (va_A [(ce_X10 ob ob_thrown ob_world ob_images ob_hasImage ob_tape ob_taped ob_five ob_size ob_at ob_from ob_token ob_value ob_faultKind ob_faultPlace ob_fresh ob_parts ob_houses ob_houseMany ob_worthOf ob_byCall ob_over ob_bestSet ob_bestOver ob_bestWorth ob_row ob_tenDebts ob_tenMany ob_fewestBy ob_covered ob_queue ob_cameBy ob_parent ob_met ob_calls ob_callMany ob_calledOn ob_saved ob_many ob_width ob_numbers ob_moving), (ce_i9080 y ob_world fob_world), (ce_i6 y ob_parts fob_parts)] sz)) 0 0 (va_A [(ce_X10 ob ob_thrown ob_world ob_images ob_hasImage ob_tape ob_taped ob_five ob_size ob_at ob_from ob_token ob_value ob_faultKind ob_faultPlace ob_fresh ob_parts ob_houses ob_houseMany ob_worthOf ob_byCall ob_over ob_bestSet ob_bestOver ob_bestWorth ob_row ob_tenDebts ob_tenMany ob_fewestBy ob_covered ob_queue ob_cameBy ob_parent ob_met ob_calls ob_callMany ob_calledOn ob_saved ob_many ob_width ob_numbers ob_moving), (ce_i9080 y ob_world fob_world), (ce_i6 y ob_parts fob_parts)] sz) := by
  refine Met.ofW (cc := cX10_notes) (maxL := 6) (ret := (some .int)) (by decide) rfl ?_
  intro p e s m args below meth c s₁ B hml hv
  obtain ⟨rfl, hsz, hP, hK, hD0⟩ := hv
  have hx := B.exec
  have hb := B.bytes
  have hr := B.returns
  have hw0 : ∀ w ∈ wAll, w.before _ s = true := fun w h => atoms_spec (ws := Cond.code yX10_notes cX10_notes 6 (some .int) :: wAll) B.pre w (List.mem_cons_of_mem _ h)
  have hown : s.vm.findClass RX10 = some m.cls := findClass_of_methodNamed B.named
  subst hsz
  have hD := hD0.self (sz := s.heap.size)
  generalize hAe : va_A [(ce_X10 ob ob_thrown ob_world ob_images ob_hasImage ob_tape ob_taped ob_five ob_size ob_at ob_from ob_token ob_value ob_faultKind ob_faultPlace ob_fresh ob_parts ob_houses ob_houseMany ob_worthOf ob_byCall ob_over ob_bestSet ob_bestOver ob_bestWorth ob_row ob_tenDebts ob_tenMany ob_fewestBy ob_covered ob_queue ob_cameBy ob_parent ob_met ob_calls ob_callMany ob_calledOn ob_saved ob_many ob_width ob_numbers ob_moving), (ce_i9080 y ob_world fob_world), (ce_i6 y ob_parts fob_parts)] s.heap.size = A at hD ⊢
  have hA : ∀ q : Nat, s.heap.size ≤ q → A q := fun q h => by rw [← hAe]; exact Or.inr h
  have hS : va_S A s.heap s.heap [] := va_S.rf
  have hP : va_P G vwCl [(ce_X10 ob ob_thrown ob_world ob_images ob_hasImage ob_tape ob_taped ob_five ob_size ob_at ob_from ob_token ob_value ob_faultKind ob_faultPlace ob_fresh ob_parts ob_houses ob_houseMany ob_worthOf ob_byCall ob_over ob_bestSet ob_bestOver ob_bestWorth ob_row ob_tenDebts ob_tenMany ob_fewestBy ob_covered ob_queue ob_cameBy ob_parent ob_met ob_calls ob_callMany ob_calledOn ob_saved ob_many ob_width ob_numbers ob_moving), (ce_i9080 y ob_world fob_world), (ce_i6 y ob_parts fob_parts)] s.heap := hP
  have hl := lv_entry ([.ref ob, .int a1, .int a2, .int a3]) (n := 6) (Nat.le_of_ble_eq_true rfl)
  rw [lg_entry_eq]
  generalize (lg_sl ([.ref ob, .int a1, .int a2, .int a3]) ++ List.replicate (6 - (lg_sl ([.ref ob, .int a1, .int a2, .int a3])).length) Slot.unset).toArray = ls at hl ⊢
  have hl : lv_has ls 6 [(0, .ref ob), (1, .int a1), (2, .int a2), (3, .int a3)] := hl
  have h7 : (fob_world 7).toInt ≤ (fob_world 8).toInt := (p_fob_world).1.2
  refine lv_sipush (v := 6680) hx hb dX10_notes_0 (by decide) ?_
  refine lv_iconst (v := 4) hx hb dX10_notes_3 (by decide) ?_
  refine lv_aload_n hx hb dX10_notes_4 rfl (lv_at hl 0 rfl) ?_
  refine va_get (D := G) (ci := 10) (v := .ref ob_world) (C := RX10) (T := TX10) (N := 41) hx hb hw0 inA_wsX100 hown hK.1 hP 0 rfl rfl 1 (by decide) (hw0 _ m_352) (fun _ h9 => h9) rfl dX10_notes_5 ?_
  refine lv_bipush (v := 8) hx hb dX10_notes_8 (by decide) ?_
  refine va_iald hx hb hK.1 hP 1 1 rfl rfl (vi (bkc (x := 8) (c := 8) (by decide)) (by decide)) dX10_notes_10 ?_
  refine lv_topi (fun v_1001 ev_1001 => ?_)
  have bv_1001 : (0 : Int) ≤ v_1001.toInt ∧ v_1001.toInt ≤ 600 := rdk ev_1001 (p_fob_world).1.1 (by decide)
  have yv_1001 : v_1001.toInt = (fob_world 8).toInt := congrArg Int32.toInt ev_1001
  have h_1002 : (0 : Int) ≤ v_1001.toInt ∧ v_1001.toInt ≤ 599 := by omega
  refine lv_imul hx hb dX10_notes_11 ?_
  refine lv_topi (fun v_1003 ev_1003 => ?_)
  have qv_1003 := ba_mul 4 (ev_1003.trans (Int32.mul_comm _ _)) h_1002 (by decide) (by decide) (by decide)
  have bv_1003 : (0 : Int) ≤ v_1003.toInt ∧ v_1003.toInt ≤ 2396 := qv_1003.2
  refine lv_iadd hx hb dX10_notes_12 ?_
  refine lv_topi (fun v_1004 ev_1004 => ?_)
  have qv_1004 := ba_add ev_1004 (bkc (x := 6680) (c := 6680) (by decide)) bv_1003 (by decide)
  have bv_1004 : (6680 : Int) ≤ v_1004.toInt ∧ v_1004.toInt ≤ 9076 := bq_add qv_1004 (bkc (x := 6680) (c := 6680) (by decide)) bv_1003 _ _ (by decide)
  have qv_1004 : v_1004.toInt = (6680) + v_1003.toInt := qv_1004
  refine lv_istore (lv' := [(4, .int v_1004), (0, .ref ob), (1, .int a1), (2, .int a2), (3, .int a3)]) hx hb dX10_notes_13 hl (by decide) rfl (fun ls hl => ?_)
  refine lv_aload_n hx hb dX10_notes_15 rfl (lv_at hl 1 rfl) ?_
  refine va_get (D := G) (ci := 10) (v := .ref ob_world) (C := RX10) (T := TX10) (N := 41) hx hb hw0 inA_wsX100 hown hK.1 hP 0 rfl rfl 1 (by decide) (hw0 _ m_352) (fun _ h9 => h9) rfl dX10_notes_16 ?_
  refine lv_iload hx hb dX10_notes_19 (lv_at hl 0 rfl) ?_
  refine lv_iload_n hx hb dX10_notes_21 rfl (lv_at hl 2 rfl) ?_
  refine va_iast hx hb hK.1 hP hD hS 1 1 rfl rfl (vi bv_1004 (by decide)) dX10_notes_22 (fun H locs hP hD hS => ?_)
  generalize hf_1005 : (upd fob_world (v_1004 : Int32).toNatClampNeg a1) = f_1005 at hP hD
  have zf_1005_7 : (f_1005 7).toInt = (fob_world 7).toInt := hf_1005 ▸ pin_ne (ix_not bv_1004 (by decide))
  have zf_1005_8 : (f_1005 8).toInt = (fob_world 8).toInt := hf_1005 ▸ pin_ne (ix_not bv_1004 (by decide))
  have bf_1005 : RBw f_1005 := hf_1005 ▸ upw (p_fob_world).1.1 pl_39 (by omega) (h_1002) p_a1
  have cf_1005 : RVw f_1005 := hf_1005 ▸ RV_up (p_fob_world).1 (hf_1005 ▸ bf_1005) (ix_out bv_1004 (by decide))
  have df_1005 : RWw f_1005 := ⟨cf_1005, hf_1005 ▸ WQ_up (p_fob_world).1.1 (p_fob_world).2 (qf_ix bv_1004 (by decide))⟩
  obtain ⟨hP, hD⟩ : vPD G A H [(ce_X10 ob ob_thrown ob_world ob_images ob_hasImage ob_tape ob_taped ob_five ob_size ob_at ob_from ob_token ob_value ob_faultKind ob_faultPlace ob_fresh ob_parts ob_houses ob_houseMany ob_worthOf ob_byCall ob_over ob_bestSet ob_bestOver ob_bestWorth ob_row ob_tenDebts ob_tenMany ob_fewestBy ob_covered ob_queue ob_cameBy ob_parent ob_met ob_calls ob_callMany ob_calledOn ob_saved ob_many ob_width ob_numbers ob_moving), (ce_i9080 y ob_world f_1005), (ce_i6 y ob_parts fob_parts)] := ⟨hP, hD⟩
  refine lv_aload_n hx hb dX10_notes_23 rfl (lv_at hl 1 rfl) ?_
  refine va_get (D := G) (ci := 10) (v := .ref ob_world) (C := RX10) (T := TX10) (N := 41) hx hb hw0 inA_wsX100 hown hK.1 hP 0 rfl rfl 1 (by decide) (hw0 _ m_352) (fun _ h9 => h9) rfl dX10_notes_24 ?_
  refine lv_iload hx hb dX10_notes_27 (lv_at hl 0 rfl) ?_
  refine lv_iconst (v := 1) hx hb dX10_notes_29 (by decide) ?_
  refine lv_iadd hx hb dX10_notes_30 ?_
  refine lv_topi (fun v_1006 ev_1006 => ?_)
  have qv_1006 := ba_add ev_1006 bv_1004 (bkc (x := 1) (c := 1) (by decide)) (by decide)
  have bv_1006 : (6681 : Int) ≤ v_1006.toInt ∧ v_1006.toInt ≤ 9077 := bq_add qv_1006 bv_1004 (bkc (x := 1) (c := 1) (by decide)) _ _ (by decide)
  have qv_1006 : v_1006.toInt = v_1004.toInt + (1) := qv_1006
  refine lv_iload_n hx hb dX10_notes_31 rfl (lv_at hl 3 rfl) ?_
  refine va_iast hx hb hK.1 hP hD hS 1 1 rfl rfl (vi bv_1006 (by decide)) dX10_notes_32 (fun H locs hP hD hS => ?_)
  generalize hf_1007 : (upd f_1005 (v_1006 : Int32).toNatClampNeg a2) = f_1007 at hP hD
  have zf_1007_7 : (f_1007 7).toInt = (f_1005 7).toInt := hf_1007 ▸ pin_ne (ix_not bv_1006 (by decide))
  have zf_1007_8 : (f_1007 8).toInt = (f_1005 8).toInt := hf_1007 ▸ pin_ne (ix_not bv_1006 (by decide))
  have bf_1007 : RBw f_1007 := hf_1007 ▸ upw (df_1005).1.1 pl_40 (by omega) (h_1002) p_a2
  have cf_1007 : RVw f_1007 := hf_1007 ▸ RV_up (df_1005).1 (hf_1007 ▸ bf_1007) (ix_out bv_1006 (by decide))
  have df_1007 : RWw f_1007 := ⟨cf_1007, hf_1007 ▸ WQ_up (df_1005).1.1 (df_1005).2 (qf_ix bv_1006 (by decide))⟩
  obtain ⟨hP, hD⟩ : vPD G A H [(ce_X10 ob ob_thrown ob_world ob_images ob_hasImage ob_tape ob_taped ob_five ob_size ob_at ob_from ob_token ob_value ob_faultKind ob_faultPlace ob_fresh ob_parts ob_houses ob_houseMany ob_worthOf ob_byCall ob_over ob_bestSet ob_bestOver ob_bestWorth ob_row ob_tenDebts ob_tenMany ob_fewestBy ob_covered ob_queue ob_cameBy ob_parent ob_met ob_calls ob_callMany ob_calledOn ob_saved ob_many ob_width ob_numbers ob_moving), (ce_i9080 y ob_world f_1007), (ce_i6 y ob_parts fob_parts)] := ⟨hP, hD⟩
  refine lv_aload_n hx hb dX10_notes_33 rfl (lv_at hl 1 rfl) ?_
  refine va_get (D := G) (ci := 10) (v := .ref ob_world) (C := RX10) (T := TX10) (N := 41) hx hb hw0 inA_wsX100 hown hK.1 hP 0 rfl rfl 1 (by decide) (hw0 _ m_352) (fun _ h9 => h9) rfl dX10_notes_34 ?_
  refine lv_iload hx hb dX10_notes_37 (lv_at hl 0 rfl) ?_
  refine lv_iconst (v := 2) hx hb dX10_notes_39 (by decide) ?_
  refine lv_iadd hx hb dX10_notes_40 ?_
  refine lv_topi (fun v_1008 ev_1008 => ?_)
  have qv_1008 := ba_add ev_1008 bv_1004 (bkc (x := 2) (c := 2) (by decide)) (by decide)
  have bv_1008 : (6682 : Int) ≤ v_1008.toInt ∧ v_1008.toInt ≤ 9078 := bq_add qv_1008 bv_1004 (bkc (x := 2) (c := 2) (by decide)) _ _ (by decide)
  have qv_1008 : v_1008.toInt = v_1004.toInt + (2) := qv_1008
  refine lv_iload_n hx hb dX10_notes_41 rfl (lv_at hl 4 rfl) ?_
  refine va_iast hx hb hK.1 hP hD hS 1 1 rfl rfl (vi bv_1008 (by decide)) dX10_notes_42 (fun H locs hP hD hS => ?_)
  generalize hf_1009 : (upd f_1007 (v_1008 : Int32).toNatClampNeg a3) = f_1009 at hP hD
  have zf_1009_7 : (f_1009 7).toInt = (f_1007 7).toInt := hf_1009 ▸ pin_ne (ix_not bv_1008 (by decide))
  have zf_1009_8 : (f_1009 8).toInt = (f_1007 8).toInt := hf_1009 ▸ pin_ne (ix_not bv_1008 (by decide))
  have bf_1009 : RBw f_1009 := hf_1009 ▸ upw (df_1007).1.1 pl_41 (by omega) (h_1002) (btop a3)
  have cf_1009 : RVw f_1009 := hf_1009 ▸ RV_up (df_1007).1 (hf_1009 ▸ bf_1009) (ix_out bv_1008 (by decide))
  have df_1009 : RWw f_1009 := ⟨cf_1009, hf_1009 ▸ WQ_up (df_1007).1.1 (df_1007).2 (qf_ix bv_1008 (by decide))⟩
  obtain ⟨hP, hD⟩ : vPD G A H [(ce_X10 ob ob_thrown ob_world ob_images ob_hasImage ob_tape ob_taped ob_five ob_size ob_at ob_from ob_token ob_value ob_faultKind ob_faultPlace ob_fresh ob_parts ob_houses ob_houseMany ob_worthOf ob_byCall ob_over ob_bestSet ob_bestOver ob_bestWorth ob_row ob_tenDebts ob_tenMany ob_fewestBy ob_covered ob_queue ob_cameBy ob_parent ob_met ob_calls ob_callMany ob_calledOn ob_saved ob_many ob_width ob_numbers ob_moving), (ce_i9080 y ob_world f_1009), (ce_i6 y ob_parts fob_parts)] := ⟨hP, hD⟩
  refine lv_aload_n hx hb dX10_notes_43 rfl (lv_at hl 1 rfl) ?_
  refine va_get (D := G) (ci := 10) (v := .ref ob_world) (C := RX10) (T := TX10) (N := 41) hx hb hw0 inA_wsX100 hown hK.1 hP 0 rfl rfl 1 (by decide) (hw0 _ m_352) (fun _ h9 => h9) rfl dX10_notes_44 ?_
  refine lv_iload hx hb dX10_notes_47 (lv_at hl 0 rfl) ?_
  refine lv_iconst (v := 3) hx hb dX10_notes_49 (by decide) ?_
  refine lv_iadd hx hb dX10_notes_50 ?_
  refine lv_topi (fun v_1010 ev_1010 => ?_)
  have qv_1010 := ba_add ev_1010 bv_1004 (bkc (x := 3) (c := 3) (by decide)) (by decide)
  have bv_1010 : (6683 : Int) ≤ v_1010.toInt ∧ v_1010.toInt ≤ 9079 := bq_add qv_1010 bv_1004 (bkc (x := 3) (c := 3) (by decide)) _ _ (by decide)
  have qv_1010 : v_1010.toInt = v_1004.toInt + (3) := qv_1010
  refine lv_aload_n hx hb dX10_notes_51 rfl (lv_at hl 1 rfl) ?_
  refine cVim (As := []) (rest := [.int v_1010, .ref ob_world]) ⟨hx, hb, hml, hown, hw0⟩ hA hK hP hD hS [true, true] (sX10_today l G y _ ob ob_thrown ob_world ob_images ob_hasImage ob_tape ob_taped ob_five ob_size ob_at ob_from ob_token ob_value ob_faultKind ob_faultPlace ob_fresh ob_parts ob_houses ob_houseMany ob_worthOf ob_byCall ob_over ob_bestSet ob_bestOver ob_bestWorth ob_row ob_tenDebts ob_tenMany ob_fewestBy ob_covered ob_queue ob_cameBy ob_parent ob_met ob_calls ob_callMany ob_calledOn ob_saved ob_many ob_width ob_numbers ob_moving f_1009 df_1009 p_ob_taped p_ob_size p_ob_at p_ob_from p_ob_token p_ob_value p_ob_faultKind p_ob_houseMany p_ob_bestSet p_ob_bestOver p_ob_tenMany p_ob_callMany) rfl ⟨(callB_of 0 hw0 (gA m_689) rfl rfl rfl (hw0 _ m_41) (hw0 _ m_373) cb_X10_today ⟨Nat.le_of_ble_eq_true rfl, Nat.le_of_ble_eq_true rfl⟩), (hw0 _ m_374), (hw0 _ m_375)⟩ (ci := 10) (q := (RX10, TX10, 41)) rfl rfl rfl hl.1 (Nat.le_of_ble_eq_true rfl) dX10_notes_52 ⟨Nat.le_of_ble_eq_true rfl, Nat.le_of_ble_eq_true rfl⟩ (fun r_1011 w_1011 H locs hw_1011 hP hD hS => ?_)
  obtain ⟨v_1012, bv_1012, h_1013, er_1011, rfl⟩ := hw_1011
  subst r_1011
  obtain ⟨hP, hD⟩ : vPD G A H [(ce_X10 ob ob_thrown ob_world ob_images ob_hasImage ob_tape ob_taped ob_five ob_size ob_at ob_from ob_token ob_value ob_faultKind ob_faultPlace ob_fresh ob_parts ob_houses ob_houseMany ob_worthOf ob_byCall ob_over ob_bestSet ob_bestOver ob_bestWorth ob_row ob_tenDebts ob_tenMany ob_fewestBy ob_covered ob_queue ob_cameBy ob_parent ob_met ob_calls ob_callMany ob_calledOn ob_saved ob_many ob_width ob_numbers ob_moving), (ce_i9080 y ob_world f_1009), (ce_i6 y ob_parts fob_parts)] := ⟨hP, hD⟩
  refine va_iast hx hb hK.1 hP hD hS 1 1 rfl rfl (vi bv_1010 (by decide)) dX10_notes_55 (fun H locs hP hD hS => ?_)
  generalize hf_1014 : (upd f_1009 (v_1010 : Int32).toNatClampNeg v_1012) = f_1014 at hP hD
  have zf_1014_7 : (f_1014 7).toInt = (f_1009 7).toInt := hf_1014 ▸ pin_ne (ix_not bv_1010 (by decide))
  have zf_1014_8 : (f_1014 8).toInt = (f_1009 8).toInt := hf_1014 ▸ pin_ne (ix_not bv_1010 (by decide))
  have bf_1014 : RBw f_1014 := hf_1014 ▸ upw (df_1009).1.1 pl_42 (by omega) (h_1002) bv_1012
  have cf_1014 : RVw f_1014 := hf_1014 ▸ RV_up (df_1009).1 (hf_1014 ▸ bf_1014) (ix_out bv_1010 (by decide))
  have df_1014 : RWw f_1014 := ⟨cf_1014, hf_1014 ▸ WQ_up (df_1009).1.1 (df_1009).2 (qf_ix bv_1010 (by decide))⟩
  obtain ⟨hP, hD⟩ : vPD G A H [(ce_X10 ob ob_thrown ob_world ob_images ob_hasImage ob_tape ob_taped ob_five ob_size ob_at ob_from ob_token ob_value ob_faultKind ob_faultPlace ob_fresh ob_parts ob_houses ob_houseMany ob_worthOf ob_byCall ob_over ob_bestSet ob_bestOver ob_bestWorth ob_row ob_tenDebts ob_tenMany ob_fewestBy ob_covered ob_queue ob_cameBy ob_parent ob_met ob_calls ob_callMany ob_calledOn ob_saved ob_many ob_width ob_numbers ob_moving), (ce_i9080 y ob_world f_1014), (ce_i6 y ob_parts fob_parts)] := ⟨hP, hD⟩
  refine lv_aload_n hx hb dX10_notes_56 rfl (lv_at hl 1 rfl) ?_
  refine va_get (D := G) (ci := 10) (v := .ref ob_world) (C := RX10) (T := TX10) (N := 41) hx hb hw0 inA_wsX100 hown hK.1 hP 0 rfl rfl 1 (by decide) (hw0 _ m_352) (fun _ h9 => h9) rfl dX10_notes_57 ?_
  refine lv_bipush (v := 8) hx hb dX10_notes_60 (by decide) ?_
  refine lv_dup2_11 hx hb dX10_notes_62 rfl rfl ?_
  refine va_iald hx hb hK.1 hP 1 1 rfl rfl (vi (bkc (x := 8) (c := 8) (by decide)) (by decide)) dX10_notes_63 ?_
  refine lv_topi (fun v_1015 ev_1015 => ?_)
  have bv_1015 : (0 : Int) ≤ v_1015.toInt ∧ v_1015.toInt ≤ 600 := rdk ev_1015 (df_1014).1.1 (by decide)
  have yv_1015 : v_1015.toInt = (f_1014 8).toInt := congrArg Int32.toInt ev_1015
  refine lv_iconst (v := 1) hx hb dX10_notes_64 (by decide) ?_
  refine lv_iadd hx hb dX10_notes_65 ?_
  refine lv_topi (fun v_1016 ev_1016 => ?_)
  have qv_1016 := ba_add ev_1016 bv_1015 (bkc (x := 1) (c := 1) (by decide)) (by decide)
  have bv_1016 : (1 : Int) ≤ v_1016.toInt ∧ v_1016.toInt ≤ 601 := bq_add qv_1016 bv_1015 (bkc (x := 1) (c := 1) (by decide)) _ _ (by decide)
  have qv_1016 : v_1016.toInt = v_1015.toInt + (1) := qv_1016
  have h_1017 : (0 : Int) ≤ v_1016.toInt ∧ v_1016.toInt ≤ 600 := by omega
  refine va_iast hx hb hK.1 hP hD hS 1 1 rfl rfl (vi (bkc (x := 8) (c := 8) (by decide)) (by decide)) dX10_notes_66 (fun H locs hP hD hS => ?_)
  generalize hf_1018 : (upd f_1014 (8 : Int32).toNatClampNeg v_1016) = f_1018 at hP hD
  have zf_1018_7 : (f_1018 7).toInt = (f_1014 7).toInt := hf_1018 ▸ pin_ne (ix_not (bkc (x := 8) (c := 8) (by decide)) (by decide))
  have zf_1018_8 : (f_1018 8).toInt = (v_1016 : Int32).toInt := hf_1018 ▸ pin_eq (by decide)
  have bf_1018 : RBw f_1018 := hf_1018 ▸ upk (df_1014).1.1 h_1017 (by decide)
  have cf_1018 : RVw f_1018 := ⟨bf_1018, by have h97 : (f_1014 7).toInt ≤ (f_1014 8).toInt := ((df_1014).1).2; unfold W7; omega⟩
  have df_1018 : RWw f_1018 := ⟨cf_1018, hf_1018 ▸ WQ_up (df_1014).1.1 (df_1014).2 (qf_ix (bkc (x := 8) (c := 8) (by decide)) (by decide))⟩
  obtain ⟨hP, hD⟩ : vPD G A H [(ce_X10 ob ob_thrown ob_world ob_images ob_hasImage ob_tape ob_taped ob_five ob_size ob_at ob_from ob_token ob_value ob_faultKind ob_faultPlace ob_fresh ob_parts ob_houses ob_houseMany ob_worthOf ob_byCall ob_over ob_bestSet ob_bestOver ob_bestWorth ob_row ob_tenDebts ob_tenMany ob_fewestBy ob_covered ob_queue ob_cameBy ob_parent ob_met ob_calls ob_callMany ob_calledOn ob_saved ob_many ob_width ob_numbers ob_moving), (ce_i9080 y ob_world f_1018), (ce_i6 y ob_parts fob_parts)] := ⟨hP, hD⟩
  refine lv_aload_n hx hb dX10_notes_67 rfl (lv_at hl 1 rfl) ?_
  refine lv_iload_n hx hb dX10_notes_68 rfl (lv_at hl 2 rfl) ?_
  refine lv_iload_n hx hb dX10_notes_69 rfl (lv_at hl 3 rfl) ?_
  refine lv_iload_n hx hb dX10_notes_70 rfl (lv_at hl 4 rfl) ?_
  refine lv_aload_n hx hb dX10_notes_71 rfl (lv_at hl 1 rfl) ?_
  refine cVim (As := []) (rest := [.int a3, .int a2, .int a1, .ref ob]) ⟨hx, hb, hml, hown, hw0⟩ hA hK hP hD hS [true, true] (sX10_today l G y _ ob ob_thrown ob_world ob_images ob_hasImage ob_tape ob_taped ob_five ob_size ob_at ob_from ob_token ob_value ob_faultKind ob_faultPlace ob_fresh ob_parts ob_houses ob_houseMany ob_worthOf ob_byCall ob_over ob_bestSet ob_bestOver ob_bestWorth ob_row ob_tenDebts ob_tenMany ob_fewestBy ob_covered ob_queue ob_cameBy ob_parent ob_met ob_calls ob_callMany ob_calledOn ob_saved ob_many ob_width ob_numbers ob_moving f_1018 df_1018 p_ob_taped p_ob_size p_ob_at p_ob_from p_ob_token p_ob_value p_ob_faultKind p_ob_houseMany p_ob_bestSet p_ob_bestOver p_ob_tenMany p_ob_callMany) rfl ⟨(callB_of 0 hw0 (gA m_689) rfl rfl rfl (hw0 _ m_41) (hw0 _ m_373) cb_X10_today ⟨Nat.le_of_ble_eq_true rfl, Nat.le_of_ble_eq_true rfl⟩), (hw0 _ m_374), (hw0 _ m_375)⟩ (ci := 10) (q := (RX10, TX10, 41)) rfl rfl rfl hl.1 (Nat.le_of_ble_eq_true rfl) dX10_notes_72 ⟨Nat.le_of_ble_eq_true rfl, Nat.le_of_ble_eq_true rfl⟩ (fun r_1019 w_1019 H locs hw_1019 hP hD hS => ?_)
  obtain ⟨v_1020, bv_1020, h_1021, er_1019, rfl⟩ := hw_1019
  subst r_1019
  obtain ⟨hP, hD⟩ : vPD G A H [(ce_X10 ob ob_thrown ob_world ob_images ob_hasImage ob_tape ob_taped ob_five ob_size ob_at ob_from ob_token ob_value ob_faultKind ob_faultPlace ob_fresh ob_parts ob_houses ob_houseMany ob_worthOf ob_byCall ob_over ob_bestSet ob_bestOver ob_bestWorth ob_row ob_tenDebts ob_tenMany ob_fewestBy ob_covered ob_queue ob_cameBy ob_parent ob_met ob_calls ob_callMany ob_calledOn ob_saved ob_many ob_width ob_numbers ob_moving), (ce_i9080 y ob_world f_1018), (ce_i6 y ob_parts fob_parts)] := ⟨hP, hD⟩
  refine cVim (As := [.int a1, .int a2, .int a3, .int v_1020]) (rest := []) ⟨hx, hb, hml, hown, hw0⟩ hA hK hP hD hS [true, true, true] (sX10_goes l G y _ ob a1 a2 a3 v_1020 ob_thrown ob_world ob_images ob_hasImage ob_tape ob_taped ob_five ob_size ob_at ob_from ob_token ob_value ob_faultKind ob_faultPlace ob_fresh ob_parts ob_houses ob_houseMany ob_worthOf ob_byCall ob_over ob_bestSet ob_bestOver ob_bestWorth ob_row ob_tenDebts ob_tenMany ob_fewestBy ob_covered ob_queue ob_cameBy ob_parent ob_met ob_calls ob_callMany ob_calledOn ob_saved ob_many ob_width ob_numbers ob_moving f_1018 fob_parts df_1018 p_ob_taped p_ob_size p_ob_at p_ob_from p_ob_token p_ob_value p_ob_faultKind p_ob_houseMany p_ob_bestSet p_ob_bestOver p_ob_tenMany p_ob_callMany p_a1 p_a2 (by omega)) rfl ⟨(callB_of 4 hw0 (gA m_489) rfl rfl rfl (hw0 _ m_41) (hw0 _ m_393) cb_X10_goes ⟨Nat.le_of_ble_eq_true rfl, Nat.le_of_ble_eq_true rfl⟩), (hw0 _ m_394), (hw0 _ m_395)⟩ (ci := 10) (q := (RX10, TX10, 41)) rfl rfl rfl hl.1 (Nat.le_of_ble_eq_true rfl) dX10_notes_75 ⟨Nat.le_of_ble_eq_true rfl, Nat.le_of_ble_eq_true rfl⟩ (fun r_1022 w_1022 H locs hw_1022 hP hD hS => ?_)
  obtain ⟨v_1023, f_1024, f_1025, bf_1024, h_1026, er_1022, rfl⟩ := hw_1022
  subst r_1022
  obtain ⟨hP, hD⟩ : vPD G A H [(ce_X10 ob ob_thrown ob_world ob_images ob_hasImage ob_tape ob_taped ob_five ob_size ob_at ob_from ob_token ob_value ob_faultKind ob_faultPlace ob_fresh ob_parts ob_houses ob_houseMany ob_worthOf ob_byCall ob_over ob_bestSet ob_bestOver ob_bestWorth ob_row ob_tenDebts ob_tenMany ob_fewestBy ob_covered ob_queue ob_cameBy ob_parent ob_met ob_calls ob_callMany ob_calledOn ob_saved ob_many ob_width ob_numbers ob_moving), (ce_i9080 y ob_world f_1024), (ce_i6 y ob_parts f_1025)] := ⟨hP, hD⟩
  refine lv_istore (lv' := [(5, .int v_1023), (4, .int v_1004), (0, .ref ob), (1, .int a1), (2, .int a2), (3, .int a3)]) hx hb dX10_notes_78 hl (by decide) rfl (fun ls hl => ?_)
  refine lv_aload_n hx hb dX10_notes_80 rfl (lv_at hl 2 rfl) ?_
  refine va_get (D := G) (ci := 10) (v := .ref ob_world) (C := RX10) (T := TX10) (N := 41) hx hb hw0 inA_wsX100 hown hK.1 hP 0 rfl rfl 1 (by decide) (hw0 _ m_352) (fun _ h9 => h9) rfl dX10_notes_81 ?_
  refine lv_bipush (v := 9) hx hb dX10_notes_84 (by decide) ?_
  refine lv_dup2_11 hx hb dX10_notes_86 rfl rfl ?_
  refine va_iald hx hb hK.1 hP 1 1 rfl rfl (vi (bkc (x := 9) (c := 9) (by decide)) (by decide)) dX10_notes_87 ?_
  refine lv_topi (fun v_1027 ev_1027 => ?_)
  refine lv_iload hx hb dX10_notes_88 (lv_at hl 0 rfl) ?_
  refine lv_iadd hx hb dX10_notes_90 ?_
  refine lv_topi (fun v_1028 ev_1028 => ?_)
  refine va_iast hx hb hK.1 hP hD hS 1 1 rfl rfl (vi (bkc (x := 9) (c := 9) (by decide)) (by decide)) dX10_notes_91 (fun H locs hP hD hS => ?_)
  generalize hf_1029 : (upd f_1024 (9 : Int32).toNatClampNeg v_1028) = f_1029 at hP hD
  have zf_1029_7 : (f_1029 7).toInt = (f_1024 7).toInt := hf_1029 ▸ pin_ne (ix_not (bkc (x := 9) (c := 9) (by decide)) (by decide))
  have zf_1029_8 : (f_1029 8).toInt = (f_1024 8).toInt := hf_1029 ▸ pin_ne (ix_not (bkc (x := 9) (c := 9) (by decide)) (by decide))
  have bf_1029 : RBw f_1029 := hf_1029 ▸ upk (bf_1024).1.1 (btop v_1028) (by decide)
  have cf_1029 : RVw f_1029 := hf_1029 ▸ RV_up (bf_1024).1 (hf_1029 ▸ bf_1029) (ix_out (bkc (x := 9) (c := 9) (by decide)) (by decide))
  have df_1029 : RWw f_1029 := ⟨cf_1029, hf_1029 ▸ WQ_up (bf_1024).1.1 (bf_1024).2 (qf_ix (bkc (x := 9) (c := 9) (by decide)) (by decide))⟩
  obtain ⟨hP, hD⟩ : vPD G A H [(ce_X10 ob ob_thrown ob_world ob_images ob_hasImage ob_tape ob_taped ob_five ob_size ob_at ob_from ob_token ob_value ob_faultKind ob_faultPlace ob_fresh ob_parts ob_houses ob_houseMany ob_worthOf ob_byCall ob_over ob_bestSet ob_bestOver ob_bestWorth ob_row ob_tenDebts ob_tenMany ob_fewestBy ob_covered ob_queue ob_cameBy ob_parent ob_met ob_calls ob_callMany ob_calledOn ob_saved ob_many ob_width ob_numbers ob_moving), (ce_i9080 y ob_world f_1029), (ce_i6 y ob_parts f_1025)] := ⟨hP, hD⟩
  refine lv_iload hx hb dX10_notes_92 (lv_at hl 0 rfl) ?_
  exact W.iret (v := v_1023) hx hb hr (fun t ht hW => ⟨⟨v_1023, _, rfl, ⟨v_1023, f_1029, f_1025, df_1029, rfl, rfl⟩, by rw [ht]; exact hP, hD⟩, hS.F ht⟩) hS.2.2 dX10_notes_94

set_option maxHeartbeats 4000000 in
set_option maxRecDepth 100000 in
theorem sX10_does (l : Launch) (G : va_G) (y : Nat → ClassId) (sz : Nat) (ob : Nat) (a1 : Int32) (a2 : Int32) (a3 : Int32) (ob_thrown : Int32) (ob_world : Nat) (ob_images : Nat) (ob_hasImage : Nat) (ob_tape : Nat) (ob_taped : Int32) (ob_five : Nat) (ob_size : Int32) (ob_at : Int32) (ob_from : Int32) (ob_token : Int32) (ob_value : Int32) (ob_faultKind : Int32) (ob_faultPlace : Int32) (ob_fresh : Nat) (ob_parts : Nat) (ob_houses : Nat) (ob_houseMany : Int32) (ob_worthOf : Nat) (ob_byCall : Nat) (ob_over : Nat) (ob_bestSet : Int32) (ob_bestOver : Int32) (ob_bestWorth : Int32) (ob_row : Nat) (ob_tenDebts : Nat) (ob_tenMany : Int32) (ob_fewestBy : Nat) (ob_covered : Nat) (ob_queue : Nat) (ob_cameBy : Nat) (ob_parent : Nat) (ob_met : Nat) (ob_calls : Nat) (ob_callMany : Int32) (ob_calledOn : Nat) (ob_saved : Nat) (ob_many : Nat) (ob_width : Nat) (ob_numbers : Nat) (ob_moving : Nat) (fob_world : Nat → Int32) (fob_parts : Nat → Int32) (p_fob_world : RWw fob_world) (p_ob_taped : (0 : Int) ≤ ob_taped.toInt ∧ ob_taped.toInt ≤ 1400) (p_ob_size : (0 : Int) ≤ ob_size.toInt ∧ ob_size.toInt ≤ 1400) (p_ob_at : (0 : Int) ≤ ob_at.toInt ∧ ob_at.toInt ≤ 1400) (p_ob_from : (0 : Int) ≤ ob_from.toInt ∧ ob_from.toInt ≤ 1400) (p_ob_token : (0 : Int) ≤ ob_token.toInt ∧ ob_token.toInt ≤ 4) (p_ob_value : (0 : Int) ≤ ob_value.toInt ∧ ob_value.toInt ≤ 9999) (p_ob_faultKind : (0 : Int) ≤ ob_faultKind.toInt ∧ ob_faultKind.toInt ≤ 3) (p_ob_houseMany : (0 : Int) ≤ ob_houseMany.toInt ∧ ob_houseMany.toInt ≤ 10) (p_ob_bestSet : (0 : Int) ≤ ob_bestSet.toInt ∧ ob_bestSet.toInt ≤ 1023) (p_ob_bestOver : (-1 : Int) ≤ ob_bestOver.toInt ∧ ob_bestOver.toInt ≤ 180) (p_ob_tenMany : (0 : Int) ≤ ob_tenMany.toInt ∧ ob_tenMany.toInt ≤ 10) (p_ob_callMany : (0 : Int) ≤ ob_callMany.toInt ∧ ob_callMany.toInt ≤ 16) : Met l yX10_does (Cond.code yX10_does cX10_does 4 (some .int) :: wAll) ({ frames := 5, cells := 0, slots := 0, locals := 136 }) (va_Pc [.ref ob, .int a1, .int a2, .int a3] (kp G y sz [(ce_X10 ob ob_thrown ob_world ob_images ob_hasImage ob_tape ob_taped ob_five ob_size ob_at ob_from ob_token ob_value ob_faultKind ob_faultPlace ob_fresh ob_parts ob_houses ob_houseMany ob_worthOf ob_byCall ob_over ob_bestSet ob_bestOver ob_bestWorth ob_row ob_tenDebts ob_tenMany ob_fewestBy ob_covered ob_queue ob_cameBy ob_parent ob_met ob_calls ob_callMany ob_calledOn ob_saved ob_many ob_width ob_numbers ob_moving), (ce_i9080 y ob_world fob_world), (ce_i6 y ob_parts fob_parts)])) (va_Qi (fun (r : Int32) (w : va_W) => (∃ (v_39 : Int32) (f_40 : Nat → Int32) (f_41 : Nat → Int32), (RWw f_40) ∧ r = v_39 ∧ w = [(ce_X10 ob ob_thrown ob_world ob_images ob_hasImage ob_tape ob_taped ob_five ob_size ob_at ob_from ob_token ob_value ob_faultKind ob_faultPlace ob_fresh ob_parts ob_houses ob_houseMany ob_worthOf ob_byCall ob_over ob_bestSet ob_bestOver ob_bestWorth ob_row ob_tenDebts ob_tenMany ob_fewestBy ob_covered ob_queue ob_cameBy ob_parent ob_met ob_calls ob_callMany ob_calledOn ob_saved ob_many ob_width ob_numbers ob_moving), (ce_i9080 y ob_world f_40), (ce_i6 y ob_parts f_41)])) (kq G (va_A [(ce_X10 ob ob_thrown ob_world ob_images ob_hasImage ob_tape ob_taped ob_five ob_size ob_at ob_from ob_token ob_value ob_faultKind ob_faultPlace ob_fresh ob_parts ob_houses ob_houseMany ob_worthOf ob_byCall ob_over ob_bestSet ob_bestOver ob_bestWorth ob_row ob_tenDebts ob_tenMany ob_fewestBy ob_covered ob_queue ob_cameBy ob_parent ob_met ob_calls ob_callMany ob_calledOn ob_saved ob_many ob_width ob_numbers ob_moving), (ce_i9080 y ob_world fob_world), (ce_i6 y ob_parts fob_parts)] sz)) (va_A [(ce_X10 ob ob_thrown ob_world ob_images ob_hasImage ob_tape ob_taped ob_five ob_size ob_at ob_from ob_token ob_value ob_faultKind ob_faultPlace ob_fresh ob_parts ob_houses ob_houseMany ob_worthOf ob_byCall ob_over ob_bestSet ob_bestOver ob_bestWorth ob_row ob_tenDebts ob_tenMany ob_fewestBy ob_covered ob_queue ob_cameBy ob_parent ob_met ob_calls ob_callMany ob_calledOn ob_saved ob_many ob_width ob_numbers ob_moving), (ce_i9080 y ob_world fob_world), (ce_i6 y ob_parts fob_parts)] sz)) 0 0 (va_A [(ce_X10 ob ob_thrown ob_world ob_images ob_hasImage ob_tape ob_taped ob_five ob_size ob_at ob_from ob_token ob_value ob_faultKind ob_faultPlace ob_fresh ob_parts ob_houses ob_houseMany ob_worthOf ob_byCall ob_over ob_bestSet ob_bestOver ob_bestWorth ob_row ob_tenDebts ob_tenMany ob_fewestBy ob_covered ob_queue ob_cameBy ob_parent ob_met ob_calls ob_callMany ob_calledOn ob_saved ob_many ob_width ob_numbers ob_moving), (ce_i9080 y ob_world fob_world), (ce_i6 y ob_parts fob_parts)] sz) := by
  refine Met.ofW (cc := cX10_does) (maxL := 4) (ret := (some .int)) (by decide) rfl ?_
  intro p e s m args below meth c s₁ B hml hv
  obtain ⟨rfl, hsz, hP, hK, hD0⟩ := hv
  have hx := B.exec
  have hb := B.bytes
  have hr := B.returns
  have hw0 : ∀ w ∈ wAll, w.before _ s = true := fun w h => atoms_spec (ws := Cond.code yX10_does cX10_does 4 (some .int) :: wAll) B.pre w (List.mem_cons_of_mem _ h)
  have hown : s.vm.findClass RX10 = some m.cls := findClass_of_methodNamed B.named
  subst hsz
  have hD := hD0.self (sz := s.heap.size)
  generalize hAe : va_A [(ce_X10 ob ob_thrown ob_world ob_images ob_hasImage ob_tape ob_taped ob_five ob_size ob_at ob_from ob_token ob_value ob_faultKind ob_faultPlace ob_fresh ob_parts ob_houses ob_houseMany ob_worthOf ob_byCall ob_over ob_bestSet ob_bestOver ob_bestWorth ob_row ob_tenDebts ob_tenMany ob_fewestBy ob_covered ob_queue ob_cameBy ob_parent ob_met ob_calls ob_callMany ob_calledOn ob_saved ob_many ob_width ob_numbers ob_moving), (ce_i9080 y ob_world fob_world), (ce_i6 y ob_parts fob_parts)] s.heap.size = A at hD ⊢
  have hA : ∀ q : Nat, s.heap.size ≤ q → A q := fun q h => by rw [← hAe]; exact Or.inr h
  have hS : va_S A s.heap s.heap [] := va_S.rf
  have hP : va_P G vwCl [(ce_X10 ob ob_thrown ob_world ob_images ob_hasImage ob_tape ob_taped ob_five ob_size ob_at ob_from ob_token ob_value ob_faultKind ob_faultPlace ob_fresh ob_parts ob_houses ob_houseMany ob_worthOf ob_byCall ob_over ob_bestSet ob_bestOver ob_bestWorth ob_row ob_tenDebts ob_tenMany ob_fewestBy ob_covered ob_queue ob_cameBy ob_parent ob_met ob_calls ob_callMany ob_calledOn ob_saved ob_many ob_width ob_numbers ob_moving), (ce_i9080 y ob_world fob_world), (ce_i6 y ob_parts fob_parts)] s.heap := hP
  have hl := lv_entry ([.ref ob, .int a1, .int a2, .int a3]) (n := 4) (Nat.le_of_ble_eq_true rfl)
  rw [lg_entry_eq]
  generalize (lg_sl ([.ref ob, .int a1, .int a2, .int a3]) ++ List.replicate (4 - (lg_sl ([.ref ob, .int a1, .int a2, .int a3])).length) Slot.unset).toArray = ls at hl ⊢
  have hl : lv_has ls 4 [(0, .ref ob), (1, .int a1), (2, .int a2), (3, .int a3)] := hl
  refine lv_aload_n hx hb dX10_does_0 rfl (lv_at hl 0 rfl) ?_
  refine lv_iload_n hx hb dX10_does_1 rfl (lv_at hl 1 rfl) ?_
  refine lv_iload_n hx hb dX10_does_2 rfl (lv_at hl 2 rfl) ?_
  refine cutW 16 (fun H locs ls st => st = [] ∧ vPD G A H [(ce_X10 ob ob_thrown ob_world ob_images ob_hasImage ob_tape ob_taped ob_five ob_size ob_at ob_from ob_token ob_value ob_faultKind ob_faultPlace ob_fresh ob_parts ob_houses ob_houseMany ob_worthOf ob_byCall ob_over ob_bestSet ob_bestOver ob_bestWorth ob_row ob_tenDebts ob_tenMany ob_fewestBy ob_covered ob_queue ob_cameBy ob_parent ob_met ob_calls ob_callMany ob_calledOn ob_saved ob_many ob_width ob_numbers ob_moving), (ce_i9080 y ob_world fob_world), (ce_i6 y ob_parts fob_parts)] ∧ va_S A s.heap H locs ∧ lv_has ls 4 []) ?_ (fun J_16_1005 => ?_)
  · rintro H locs ls st ⟨rfl, ⟨hP, hD⟩, hS, hl⟩
    refine lv_bipush (v := (-2)) hx hb dX10_does_16 (by decide) ?_
    exact W.iret (v := (-2)) hx hb hr (fun t ht hW => ⟨⟨(-2), _, rfl, ⟨(-2), fob_world, fob_parts, p_fob_world, rfl, rfl⟩, by rw [ht]; exact hP, hD⟩, hS.F ht⟩) hS.2.2 dX10_does_18
  · skip
    refine cVim (As := [.int a1, .int a2]) (rest := []) ⟨hx, hb, hml, hown, hw0⟩ hA hK hP hD hS [true, true] (sX10_areTwo l G y _ ob a1 a2 ob_thrown ob_world ob_images ob_hasImage ob_tape ob_taped ob_five ob_size ob_at ob_from ob_token ob_value ob_faultKind ob_faultPlace ob_fresh ob_parts ob_houses ob_houseMany ob_worthOf ob_byCall ob_over ob_bestSet ob_bestOver ob_bestWorth ob_row ob_tenDebts ob_tenMany ob_fewestBy ob_covered ob_queue ob_cameBy ob_parent ob_met ob_calls ob_callMany ob_calledOn ob_saved ob_many ob_width ob_numbers ob_moving fob_world p_fob_world p_ob_taped p_ob_size p_ob_at p_ob_from p_ob_token p_ob_value p_ob_faultKind p_ob_houseMany p_ob_bestSet p_ob_bestOver p_ob_tenMany p_ob_callMany) rfl ⟨(callB_of 2 hw0 (gA m_355) rfl rfl rfl (hw0 _ m_41) (hw0 _ m_364) cb_X10_areTwo ⟨Nat.le_of_ble_eq_true rfl, Nat.le_of_ble_eq_true rfl⟩), (hw0 _ m_365), (hw0 _ m_366)⟩ (ci := 10) (q := (RX10, TX10, 41)) rfl rfl rfl hl.1 (Nat.le_of_ble_eq_true rfl) dX10_does_3 ⟨Nat.le_of_ble_eq_true rfl, Nat.le_of_ble_eq_true rfl⟩ (fun r_1006 w_1006 H locs hw_1006 hP hD hS => ?_)
    rcases hw_1006 with ⟨rfl, rfl⟩ | ⟨h_1007, h_1008, rfl, rfl⟩
    · skip
      obtain ⟨hP, hD⟩ : vPD G A H [(ce_X10 ob ob_thrown ob_world ob_images ob_hasImage ob_tape ob_taped ob_five ob_size ob_at ob_from ob_token ob_value ob_faultKind ob_faultPlace ob_fresh ob_parts ob_houses ob_houseMany ob_worthOf ob_byCall ob_over ob_bestSet ob_bestOver ob_bestWorth ob_row ob_tenDebts ob_tenMany ob_fewestBy ob_covered ob_queue ob_cameBy ob_parent ob_met ob_calls ob_callMany ob_calledOn ob_saved ob_many ob_width ob_numbers ob_moving), (ce_i9080 y ob_world fob_world), (ce_i6 y ob_parts fob_parts)] := ⟨hP, hD⟩
      refine lv_if_eq (tgt := 16) hx hb dX10_does_6 (by decide) (fun _ => ?_) (fun c9 => absurd (by decide) c9)
      exact J_16_1005 _ _ _ _ ⟨rfl, ⟨hP, hD⟩, hS, lv_sub hl [] rfl⟩
    · skip
      obtain ⟨hP, hD⟩ : vPD G A H [(ce_X10 ob ob_thrown ob_world ob_images ob_hasImage ob_tape ob_taped ob_five ob_size ob_at ob_from ob_token ob_value ob_faultKind ob_faultPlace ob_fresh ob_parts ob_houses ob_houseMany ob_worthOf ob_byCall ob_over ob_bestSet ob_bestOver ob_bestWorth ob_row ob_tenDebts ob_tenMany ob_fewestBy ob_covered ob_queue ob_cameBy ob_parent ob_met ob_calls ob_callMany ob_calledOn ob_saved ob_many ob_width ob_numbers ob_moving), (ce_i9080 y ob_world fob_world), (ce_i6 y ob_parts fob_parts)] := ⟨hP, hD⟩
      refine lv_if_eq (tgt := 16) hx hb dX10_does_6 (by decide) (fun c9 => absurd c9 (by decide)) (fun _ => ?_)
      refine lv_iload_n hx hb dX10_does_9 rfl (lv_at hl 3 rfl) ?_
      refine cSim (As := [.int a3]) (rest := []) ⟨hx, hb, hml, hown, hw0⟩ hA hK hP hD hS [] (sX10_isPaying l G y _ a3 ) rfl ⟨(callB_of 1 hw0 (gA m_540) rfl rfl rfl (hw0 _ m_41) (hw0 _ m_367) cb_X10_isPaying ⟨Nat.le_of_ble_eq_true rfl, Nat.le_of_ble_eq_true rfl⟩), (hw0 _ m_368)⟩ rfl hl.1 (Nat.le_of_ble_eq_true rfl) dX10_does_10 ⟨Nat.le_of_ble_eq_true rfl, Nat.le_of_ble_eq_true rfl⟩ (fun r_1009 w_1009 H locs hw_1009 hP hD hS => ?_)
      rcases hw_1009 with ⟨rfl, rfl⟩ | ⟨h_1010, rfl, rfl⟩
      · skip
        obtain ⟨hP, hD⟩ : vPD G A H [(ce_X10 ob ob_thrown ob_world ob_images ob_hasImage ob_tape ob_taped ob_five ob_size ob_at ob_from ob_token ob_value ob_faultKind ob_faultPlace ob_fresh ob_parts ob_houses ob_houseMany ob_worthOf ob_byCall ob_over ob_bestSet ob_bestOver ob_bestWorth ob_row ob_tenDebts ob_tenMany ob_fewestBy ob_covered ob_queue ob_cameBy ob_parent ob_met ob_calls ob_callMany ob_calledOn ob_saved ob_many ob_width ob_numbers ob_moving), (ce_i9080 y ob_world fob_world), (ce_i6 y ob_parts fob_parts)] := ⟨hP, hD⟩
        refine lv_if_ne (tgt := 19) hx hb dX10_does_13 (by decide) (fun c9 => absurd (by decide) c9) (fun _ => ?_)
        exact J_16_1005 _ _ _ _ ⟨rfl, ⟨hP, hD⟩, hS, lv_sub hl [] rfl⟩
      · skip
        obtain ⟨hP, hD⟩ : vPD G A H [(ce_X10 ob ob_thrown ob_world ob_images ob_hasImage ob_tape ob_taped ob_five ob_size ob_at ob_from ob_token ob_value ob_faultKind ob_faultPlace ob_fresh ob_parts ob_houses ob_houseMany ob_worthOf ob_byCall ob_over ob_bestSet ob_bestOver ob_bestWorth ob_row ob_tenDebts ob_tenMany ob_fewestBy ob_covered ob_queue ob_cameBy ob_parent ob_met ob_calls ob_callMany ob_calledOn ob_saved ob_many ob_width ob_numbers ob_moving), (ce_i9080 y ob_world fob_world), (ce_i6 y ob_parts fob_parts)] := ⟨hP, hD⟩
        refine lv_if_ne (tgt := 19) hx hb dX10_does_13 (by decide) (fun _ => ?_) (fun c9 => absurd c9 (by decide))
        refine lv_aload_n hx hb dX10_does_19 rfl (lv_at hl 0 rfl) ?_
        refine lv_iload_n hx hb dX10_does_20 rfl (lv_at hl 1 rfl) ?_
        refine lv_iload_n hx hb dX10_does_21 rfl (lv_at hl 2 rfl) ?_
        refine lv_iload_n hx hb dX10_does_22 rfl (lv_at hl 3 rfl) ?_
        refine cVim (As := [.int a1, .int a2, .int a3]) (rest := []) ⟨hx, hb, hml, hown, hw0⟩ hA hK hP hD hS [true, true] (sX10_barsOf l G y _ ob a1 a2 a3 ob_thrown ob_world ob_images ob_hasImage ob_tape ob_taped ob_five ob_size ob_at ob_from ob_token ob_value ob_faultKind ob_faultPlace ob_fresh ob_parts ob_houses ob_houseMany ob_worthOf ob_byCall ob_over ob_bestSet ob_bestOver ob_bestWorth ob_row ob_tenDebts ob_tenMany ob_fewestBy ob_covered ob_queue ob_cameBy ob_parent ob_met ob_calls ob_callMany ob_calledOn ob_saved ob_many ob_width ob_numbers ob_moving fob_world p_fob_world p_ob_taped p_ob_size p_ob_at p_ob_from p_ob_token p_ob_value p_ob_faultKind p_ob_houseMany p_ob_bestSet p_ob_bestOver p_ob_tenMany p_ob_callMany h_1007 h_1008) rfl ⟨(callB_of 3 hw0 (gA m_372) rfl rfl rfl (hw0 _ m_41) (hw0 _ m_369) cb_X10_barsOf ⟨Nat.le_of_ble_eq_true rfl, Nat.le_of_ble_eq_true rfl⟩), (hw0 _ m_370), (hw0 _ m_371)⟩ (ci := 10) (q := (RX10, TX10, 41)) rfl rfl rfl hl.1 (Nat.le_of_ble_eq_true rfl) dX10_does_23 ⟨Nat.le_of_ble_eq_true rfl, Nat.le_of_ble_eq_true rfl⟩ (fun r_1011 w_1011 H locs hw_1011 hP hD hS => ?_)
        obtain ⟨v_1012, bv_1012, er_1011, rfl⟩ := hw_1011
        subst r_1011
        obtain ⟨hP, hD⟩ : vPD G A H [(ce_X10 ob ob_thrown ob_world ob_images ob_hasImage ob_tape ob_taped ob_five ob_size ob_at ob_from ob_token ob_value ob_faultKind ob_faultPlace ob_fresh ob_parts ob_houses ob_houseMany ob_worthOf ob_byCall ob_over ob_bestSet ob_bestOver ob_bestWorth ob_row ob_tenDebts ob_tenMany ob_fewestBy ob_covered ob_queue ob_cameBy ob_parent ob_met ob_calls ob_callMany ob_calledOn ob_saved ob_many ob_width ob_numbers ob_moving), (ce_i9080 y ob_world fob_world), (ce_i6 y ob_parts fob_parts)] := ⟨hP, hD⟩
        refine lv_if_eq (tgt := 32) hx hb dX10_does_26 (by decide) (fun c_1013 => ?_) (fun c_1013 => ?_)
        · skip
          have nc_1013 := nb_eq (0) (0) c_1013 bv_1012 (bkc (x := 0) (c := 0) (by decide)) (by decide)
          refine lv_aload_n hx hb dX10_does_32 rfl (lv_at hl 0 rfl) ?_
          refine va_get (D := G) (ci := 10) (v := .ref ob_world) (C := RX10) (T := TX10) (N := 41) hx hb hw0 inA_wsX100 hown hK.1 hP 0 rfl rfl 1 (by decide) (hw0 _ m_352) (fun _ h9 => h9) rfl dX10_does_33 ?_
          refine lv_bipush (v := 8) hx hb dX10_does_36 (by decide) ?_
          refine va_iald hx hb hK.1 hP 1 1 rfl rfl (vi (bkc (x := 8) (c := 8) (by decide)) (by decide)) dX10_does_38 ?_
          refine lv_topi (fun v_1014 ev_1014 => ?_)
          have bv_1014 : (0 : Int) ≤ v_1014.toInt ∧ v_1014.toInt ≤ 600 := rdk ev_1014 (p_fob_world).1.1 (by decide)
          have yv_1014 : v_1014.toInt = (fob_world 8).toInt := congrArg Int32.toInt ev_1014
          refine lv_sipush (v := 600) hx hb dX10_does_39 (by decide) ?_
          refine lv_icmp_ne (tgt := 48) hx hb dX10_does_42 (by decide) (fun c_1015 => ?_) (fun c_1015 => ?_)
          · skip
            have nc_1015 := nb_ne (0) (599) c_1015 bv_1014 (k := 600) (by decide) (by decide)
            refine lv_aload_n hx hb dX10_does_48 rfl (lv_at hl 0 rfl) ?_
            refine lv_iload_n hx hb dX10_does_49 rfl (lv_at hl 1 rfl) ?_
            refine lv_iload_n hx hb dX10_does_50 rfl (lv_at hl 2 rfl) ?_
            refine lv_iload_n hx hb dX10_does_51 rfl (lv_at hl 3 rfl) ?_
            refine cVim (As := [.int a1, .int a2, .int a3]) (rest := []) ⟨hx, hb, hml, hown, hw0⟩ hA hK hP hD hS [true, true, true] (sX10_notes l G y _ ob a1 a2 a3 ob_thrown ob_world ob_images ob_hasImage ob_tape ob_taped ob_five ob_size ob_at ob_from ob_token ob_value ob_faultKind ob_faultPlace ob_fresh ob_parts ob_houses ob_houseMany ob_worthOf ob_byCall ob_over ob_bestSet ob_bestOver ob_bestWorth ob_row ob_tenDebts ob_tenMany ob_fewestBy ob_covered ob_queue ob_cameBy ob_parent ob_met ob_calls ob_callMany ob_calledOn ob_saved ob_many ob_width ob_numbers ob_moving fob_world fob_parts p_fob_world p_ob_taped p_ob_size p_ob_at p_ob_from p_ob_token p_ob_value p_ob_faultKind p_ob_houseMany p_ob_bestSet p_ob_bestOver p_ob_tenMany p_ob_callMany h_1007 h_1008 (by omega)) rfl ⟨(callB_of 3 hw0 (gA m_571) rfl rfl rfl (hw0 _ m_41) (hw0 _ m_429) cb_X10_notes ⟨Nat.le_of_ble_eq_true rfl, Nat.le_of_ble_eq_true rfl⟩), (hw0 _ m_430), (hw0 _ m_431)⟩ (ci := 10) (q := (RX10, TX10, 41)) rfl rfl rfl hl.1 (Nat.le_of_ble_eq_true rfl) dX10_does_52 ⟨Nat.le_of_ble_eq_true rfl, Nat.le_of_ble_eq_true rfl⟩ (fun r_1016 w_1016 H locs hw_1016 hP hD hS => ?_)
            obtain ⟨v_1017, f_1018, f_1019, bf_1018, er_1016, rfl⟩ := hw_1016
            subst r_1016
            obtain ⟨hP, hD⟩ : vPD G A H [(ce_X10 ob ob_thrown ob_world ob_images ob_hasImage ob_tape ob_taped ob_five ob_size ob_at ob_from ob_token ob_value ob_faultKind ob_faultPlace ob_fresh ob_parts ob_houses ob_houseMany ob_worthOf ob_byCall ob_over ob_bestSet ob_bestOver ob_bestWorth ob_row ob_tenDebts ob_tenMany ob_fewestBy ob_covered ob_queue ob_cameBy ob_parent ob_met ob_calls ob_callMany ob_calledOn ob_saved ob_many ob_width ob_numbers ob_moving), (ce_i9080 y ob_world f_1018), (ce_i6 y ob_parts f_1019)] := ⟨hP, hD⟩
            exact W.iret (v := v_1017) hx hb hr (fun t ht hW => ⟨⟨v_1017, _, rfl, ⟨v_1017, f_1018, f_1019, bf_1018, rfl, rfl⟩, by rw [ht]; exact hP, hD⟩, hS.F ht⟩) hS.2.2 dX10_does_55
          · skip
            have nc_1015 := nb_eq (600) (600) c_1015 bv_1014 (bkc (x := 600) (c := 600) (by decide)) (by decide)
            refine lv_bipush (v := (-3)) hx hb dX10_does_45 (by decide) ?_
            exact W.iret (v := (-3)) hx hb hr (fun t ht hW => ⟨⟨(-3), _, rfl, ⟨(-3), fob_world, fob_parts, p_fob_world, rfl, rfl⟩, by rw [ht]; exact hP, hD⟩, hS.F ht⟩) hS.2.2 dX10_does_47
        · skip
          have nc_1013 := nb_ne (1) (3) c_1013 bv_1012 (k := 0) (by decide) (by decide)
          refine lv_bipush (v := (-5)) hx hb dX10_does_29 (by decide) ?_
          exact W.iret (v := (-5)) hx hb hr (fun t ht hW => ⟨⟨(-5), _, rfl, ⟨(-5), fob_world, fob_parts, p_fob_world, rfl, rfl⟩, by rw [ht]; exact hP, hD⟩, hS.F ht⟩) hS.2.2 dX10_does_31

set_option maxHeartbeats 4000000 in
set_option maxRecDepth 100000 in
theorem sX10_meet (l : Launch) (G : va_G) (y : Nat → ClassId) (sz : Nat) (ob : Nat) (a1 : Int32) (a2 : Int32) (ob_thrown : Int32) (ob_world : Nat) (ob_images : Nat) (ob_hasImage : Nat) (ob_tape : Nat) (ob_taped : Int32) (ob_five : Nat) (ob_size : Int32) (ob_at : Int32) (ob_from : Int32) (ob_token : Int32) (ob_value : Int32) (ob_faultKind : Int32) (ob_faultPlace : Int32) (ob_fresh : Nat) (ob_parts : Nat) (ob_houses : Nat) (ob_houseMany : Int32) (ob_worthOf : Nat) (ob_byCall : Nat) (ob_over : Nat) (ob_bestSet : Int32) (ob_bestOver : Int32) (ob_bestWorth : Int32) (ob_row : Nat) (ob_tenDebts : Nat) (ob_tenMany : Int32) (ob_fewestBy : Nat) (ob_covered : Nat) (ob_queue : Nat) (ob_cameBy : Nat) (ob_parent : Nat) (ob_met : Nat) (ob_calls : Nat) (ob_callMany : Int32) (ob_calledOn : Nat) (ob_saved : Nat) (ob_many : Nat) (ob_width : Nat) (ob_numbers : Nat) (ob_moving : Nat) (fob_world : Nat → Int32) (fob_parts : Nat → Int32) (p_fob_world : RWw fob_world) (p_ob_taped : (0 : Int) ≤ ob_taped.toInt ∧ ob_taped.toInt ≤ 1400) (p_ob_size : (0 : Int) ≤ ob_size.toInt ∧ ob_size.toInt ≤ 1400) (p_ob_at : (0 : Int) ≤ ob_at.toInt ∧ ob_at.toInt ≤ 1400) (p_ob_from : (0 : Int) ≤ ob_from.toInt ∧ ob_from.toInt ≤ 1400) (p_ob_token : (0 : Int) ≤ ob_token.toInt ∧ ob_token.toInt ≤ 4) (p_ob_value : (0 : Int) ≤ ob_value.toInt ∧ ob_value.toInt ≤ 9999) (p_ob_faultKind : (0 : Int) ≤ ob_faultKind.toInt ∧ ob_faultKind.toInt ≤ 3) (p_ob_houseMany : (0 : Int) ≤ ob_houseMany.toInt ∧ ob_houseMany.toInt ≤ 10) (p_ob_bestSet : (0 : Int) ≤ ob_bestSet.toInt ∧ ob_bestSet.toInt ≤ 1023) (p_ob_bestOver : (-1 : Int) ≤ ob_bestOver.toInt ∧ ob_bestOver.toInt ≤ 180) (p_ob_tenMany : (0 : Int) ≤ ob_tenMany.toInt ∧ ob_tenMany.toInt ≤ 10) (p_ob_callMany : (0 : Int) ≤ ob_callMany.toInt ∧ ob_callMany.toInt ≤ 16) : Met l yX10_meet (Cond.code yX10_meet cX10_meet 4 (some .int) :: wAll) ({ frames := 5, cells := 0, slots := 0, locals := 136 }) (va_Pc [.ref ob, .int a1, .int a2] (kp G y sz [(ce_X10 ob ob_thrown ob_world ob_images ob_hasImage ob_tape ob_taped ob_five ob_size ob_at ob_from ob_token ob_value ob_faultKind ob_faultPlace ob_fresh ob_parts ob_houses ob_houseMany ob_worthOf ob_byCall ob_over ob_bestSet ob_bestOver ob_bestWorth ob_row ob_tenDebts ob_tenMany ob_fewestBy ob_covered ob_queue ob_cameBy ob_parent ob_met ob_calls ob_callMany ob_calledOn ob_saved ob_many ob_width ob_numbers ob_moving), (ce_i9080 y ob_world fob_world), (ce_i6 y ob_parts fob_parts)])) (va_Qi (fun (r : Int32) (w : va_W) => (∃ (v_25 : Int32) (f_26 : Nat → Int32) (f_27 : Nat → Int32), ((-3 : Int) ≤ v_25.toInt ∧ v_25.toInt ≤ 1) ∧ (RWw f_26) ∧ r = v_25 ∧ w = [(ce_X10 ob ob_thrown ob_world ob_images ob_hasImage ob_tape ob_taped ob_five ob_size ob_at ob_from ob_token ob_value ob_faultKind ob_faultPlace ob_fresh ob_parts ob_houses ob_houseMany ob_worthOf ob_byCall ob_over ob_bestSet ob_bestOver ob_bestWorth ob_row ob_tenDebts ob_tenMany ob_fewestBy ob_covered ob_queue ob_cameBy ob_parent ob_met ob_calls ob_callMany ob_calledOn ob_saved ob_many ob_width ob_numbers ob_moving), (ce_i9080 y ob_world f_26), (ce_i6 y ob_parts f_27)])) (kq G (va_A [(ce_X10 ob ob_thrown ob_world ob_images ob_hasImage ob_tape ob_taped ob_five ob_size ob_at ob_from ob_token ob_value ob_faultKind ob_faultPlace ob_fresh ob_parts ob_houses ob_houseMany ob_worthOf ob_byCall ob_over ob_bestSet ob_bestOver ob_bestWorth ob_row ob_tenDebts ob_tenMany ob_fewestBy ob_covered ob_queue ob_cameBy ob_parent ob_met ob_calls ob_callMany ob_calledOn ob_saved ob_many ob_width ob_numbers ob_moving), (ce_i9080 y ob_world fob_world), (ce_i6 y ob_parts fob_parts)] sz)) (va_A [(ce_X10 ob ob_thrown ob_world ob_images ob_hasImage ob_tape ob_taped ob_five ob_size ob_at ob_from ob_token ob_value ob_faultKind ob_faultPlace ob_fresh ob_parts ob_houses ob_houseMany ob_worthOf ob_byCall ob_over ob_bestSet ob_bestOver ob_bestWorth ob_row ob_tenDebts ob_tenMany ob_fewestBy ob_covered ob_queue ob_cameBy ob_parent ob_met ob_calls ob_callMany ob_calledOn ob_saved ob_many ob_width ob_numbers ob_moving), (ce_i9080 y ob_world fob_world), (ce_i6 y ob_parts fob_parts)] sz)) 0 0 (va_A [(ce_X10 ob ob_thrown ob_world ob_images ob_hasImage ob_tape ob_taped ob_five ob_size ob_at ob_from ob_token ob_value ob_faultKind ob_faultPlace ob_fresh ob_parts ob_houses ob_houseMany ob_worthOf ob_byCall ob_over ob_bestSet ob_bestOver ob_bestWorth ob_row ob_tenDebts ob_tenMany ob_fewestBy ob_covered ob_queue ob_cameBy ob_parent ob_met ob_calls ob_callMany ob_calledOn ob_saved ob_many ob_width ob_numbers ob_moving), (ce_i9080 y ob_world fob_world), (ce_i6 y ob_parts fob_parts)] sz) := by
  refine Met.ofW (cc := cX10_meet) (maxL := 4) (ret := (some .int)) (by decide) rfl ?_
  intro p e s m args below meth c s₁ B hml hv
  obtain ⟨rfl, hsz, hP, hK, hD0⟩ := hv
  have hx := B.exec
  have hb := B.bytes
  have hr := B.returns
  have hw0 : ∀ w ∈ wAll, w.before _ s = true := fun w h => atoms_spec (ws := Cond.code yX10_meet cX10_meet 4 (some .int) :: wAll) B.pre w (List.mem_cons_of_mem _ h)
  have hown : s.vm.findClass RX10 = some m.cls := findClass_of_methodNamed B.named
  subst hsz
  have hD := hD0.self (sz := s.heap.size)
  generalize hAe : va_A [(ce_X10 ob ob_thrown ob_world ob_images ob_hasImage ob_tape ob_taped ob_five ob_size ob_at ob_from ob_token ob_value ob_faultKind ob_faultPlace ob_fresh ob_parts ob_houses ob_houseMany ob_worthOf ob_byCall ob_over ob_bestSet ob_bestOver ob_bestWorth ob_row ob_tenDebts ob_tenMany ob_fewestBy ob_covered ob_queue ob_cameBy ob_parent ob_met ob_calls ob_callMany ob_calledOn ob_saved ob_many ob_width ob_numbers ob_moving), (ce_i9080 y ob_world fob_world), (ce_i6 y ob_parts fob_parts)] s.heap.size = A at hD ⊢
  have hA : ∀ q : Nat, s.heap.size ≤ q → A q := fun q h => by rw [← hAe]; exact Or.inr h
  have hS : va_S A s.heap s.heap [] := va_S.rf
  have hP : va_P G vwCl [(ce_X10 ob ob_thrown ob_world ob_images ob_hasImage ob_tape ob_taped ob_five ob_size ob_at ob_from ob_token ob_value ob_faultKind ob_faultPlace ob_fresh ob_parts ob_houses ob_houseMany ob_worthOf ob_byCall ob_over ob_bestSet ob_bestOver ob_bestWorth ob_row ob_tenDebts ob_tenMany ob_fewestBy ob_covered ob_queue ob_cameBy ob_parent ob_met ob_calls ob_callMany ob_calledOn ob_saved ob_many ob_width ob_numbers ob_moving), (ce_i9080 y ob_world fob_world), (ce_i6 y ob_parts fob_parts)] s.heap := hP
  have hl := lv_entry ([.ref ob, .int a1, .int a2]) (n := 4) (Nat.le_of_ble_eq_true rfl)
  rw [lg_entry_eq]
  generalize (lg_sl ([.ref ob, .int a1, .int a2]) ++ List.replicate (4 - (lg_sl ([.ref ob, .int a1, .int a2])).length) Slot.unset).toArray = ls at hl ⊢
  have hl : lv_has ls 4 [(0, .ref ob), (1, .int a1), (2, .int a2)] := hl
  refine lv_aload_n hx hb dX10_meet_0 rfl (lv_at hl 0 rfl) ?_
  refine lv_iload_n hx hb dX10_meet_1 rfl (lv_at hl 1 rfl) ?_
  refine lv_iload_n hx hb dX10_meet_2 rfl (lv_at hl 2 rfl) ?_
  refine cVim (As := [.int a1, .int a2]) (rest := []) ⟨hx, hb, hml, hown, hw0⟩ hA hK hP hD hS [true, true] (sX10_areTwo l G y _ ob a1 a2 ob_thrown ob_world ob_images ob_hasImage ob_tape ob_taped ob_five ob_size ob_at ob_from ob_token ob_value ob_faultKind ob_faultPlace ob_fresh ob_parts ob_houses ob_houseMany ob_worthOf ob_byCall ob_over ob_bestSet ob_bestOver ob_bestWorth ob_row ob_tenDebts ob_tenMany ob_fewestBy ob_covered ob_queue ob_cameBy ob_parent ob_met ob_calls ob_callMany ob_calledOn ob_saved ob_many ob_width ob_numbers ob_moving fob_world p_fob_world p_ob_taped p_ob_size p_ob_at p_ob_from p_ob_token p_ob_value p_ob_faultKind p_ob_houseMany p_ob_bestSet p_ob_bestOver p_ob_tenMany p_ob_callMany) rfl ⟨(callB_of 2 hw0 (gA m_355) rfl rfl rfl (hw0 _ m_41) (hw0 _ m_364) cb_X10_areTwo ⟨Nat.le_of_ble_eq_true rfl, Nat.le_of_ble_eq_true rfl⟩), (hw0 _ m_365), (hw0 _ m_366)⟩ (ci := 10) (q := (RX10, TX10, 41)) rfl rfl rfl hl.1 (Nat.le_of_ble_eq_true rfl) dX10_meet_3 ⟨Nat.le_of_ble_eq_true rfl, Nat.le_of_ble_eq_true rfl⟩ (fun r_1001 w_1001 H locs hw_1001 hP hD hS => ?_)
  rcases hw_1001 with ⟨rfl, rfl⟩ | ⟨h_1002, h_1003, rfl, rfl⟩
  · skip
    obtain ⟨hP, hD⟩ : vPD G A H [(ce_X10 ob ob_thrown ob_world ob_images ob_hasImage ob_tape ob_taped ob_five ob_size ob_at ob_from ob_token ob_value ob_faultKind ob_faultPlace ob_fresh ob_parts ob_houses ob_houseMany ob_worthOf ob_byCall ob_over ob_bestSet ob_bestOver ob_bestWorth ob_row ob_tenDebts ob_tenMany ob_fewestBy ob_covered ob_queue ob_cameBy ob_parent ob_met ob_calls ob_callMany ob_calledOn ob_saved ob_many ob_width ob_numbers ob_moving), (ce_i9080 y ob_world fob_world), (ce_i6 y ob_parts fob_parts)] := ⟨hP, hD⟩
    refine lv_if_ne (tgt := 12) hx hb dX10_meet_6 (by decide) (fun c9 => absurd (by decide) c9) (fun _ => ?_)
    refine lv_bipush (v := (-2)) hx hb dX10_meet_9 (by decide) ?_
    exact W.iret (v := (-2)) hx hb hr (fun t ht hW => ⟨⟨(-2), _, rfl, ⟨(-2), fob_world, fob_parts, (bw (-3) (1) (bkc (x := (-2)) (c := -2) (by decide)) (by decide)), p_fob_world, rfl, rfl⟩, by rw [ht]; exact hP, hD⟩, hS.F ht⟩) hS.2.2 dX10_meet_11
  · skip
    obtain ⟨hP, hD⟩ : vPD G A H [(ce_X10 ob ob_thrown ob_world ob_images ob_hasImage ob_tape ob_taped ob_five ob_size ob_at ob_from ob_token ob_value ob_faultKind ob_faultPlace ob_fresh ob_parts ob_houses ob_houseMany ob_worthOf ob_byCall ob_over ob_bestSet ob_bestOver ob_bestWorth ob_row ob_tenDebts ob_tenMany ob_fewestBy ob_covered ob_queue ob_cameBy ob_parent ob_met ob_calls ob_callMany ob_calledOn ob_saved ob_many ob_width ob_numbers ob_moving), (ce_i9080 y ob_world fob_world), (ce_i6 y ob_parts fob_parts)] := ⟨hP, hD⟩
    refine lv_if_ne (tgt := 12) hx hb dX10_meet_6 (by decide) (fun _ => ?_) (fun c9 => absurd c9 (by decide))
    refine lv_aload_n hx hb dX10_meet_12 rfl (lv_at hl 0 rfl) ?_
    refine va_get (D := G) (ci := 10) (v := .ref ob_world) (C := RX10) (T := TX10) (N := 41) hx hb hw0 inA_wsX100 hown hK.1 hP 0 rfl rfl 1 (by decide) (hw0 _ m_352) (fun _ h9 => h9) rfl dX10_meet_13 ?_
    refine lv_bipush (v := 8) hx hb dX10_meet_16 (by decide) ?_
    refine va_iald hx hb hK.1 hP 1 1 rfl rfl (vi (bkc (x := 8) (c := 8) (by decide)) (by decide)) dX10_meet_18 ?_
    refine lv_topi (fun v_1004 ev_1004 => ?_)
    have bv_1004 : (0 : Int) ≤ v_1004.toInt ∧ v_1004.toInt ≤ 600 := rdk ev_1004 (p_fob_world).1.1 (by decide)
    have yv_1004 : v_1004.toInt = (fob_world 8).toInt := congrArg Int32.toInt ev_1004
    refine lv_sipush (v := 600) hx hb dX10_meet_19 (by decide) ?_
    refine lv_icmp_ne (tgt := 28) hx hb dX10_meet_22 (by decide) (fun c_1005 => ?_) (fun c_1005 => ?_)
    · skip
      have nc_1005 := nb_ne (0) (599) c_1005 bv_1004 (k := 600) (by decide) (by decide)
      refine lv_aload_n hx hb dX10_meet_28 rfl (lv_at hl 0 rfl) ?_
      refine lv_iload_n hx hb dX10_meet_29 rfl (lv_at hl 1 rfl) ?_
      refine lv_iload_n hx hb dX10_meet_30 rfl (lv_at hl 2 rfl) ?_
      refine cutW 42 (fun H locs ls st => ∃ (v_1007 : Int32), ((0 : Int) ≤ v_1007.toInt ∧ v_1007.toInt ≤ 1) ∧ st = [.int v_1007] ∧ vPD G A H [(ce_X10 ob ob_thrown ob_world ob_images ob_hasImage ob_tape ob_taped ob_five ob_size ob_at ob_from ob_token ob_value ob_faultKind ob_faultPlace ob_fresh ob_parts ob_houses ob_houseMany ob_worthOf ob_byCall ob_over ob_bestSet ob_bestOver ob_bestWorth ob_row ob_tenDebts ob_tenMany ob_fewestBy ob_covered ob_queue ob_cameBy ob_parent ob_met ob_calls ob_callMany ob_calledOn ob_saved ob_many ob_width ob_numbers ob_moving), (ce_i9080 y ob_world fob_world), (ce_i6 y ob_parts fob_parts)] ∧ va_S A s.heap H locs ∧ lv_has ls 4 [(0, .ref ob), (1, .int a1), (2, .int a2)]) ?_ (fun J_42_1007 => ?_)
      · rintro H locs ls st ⟨v_1007, bv_1007, rfl, ⟨hP, hD⟩, hS, hl⟩
        refine lv_istore_n (lv' := [(3, .int v_1007), (0, .ref ob), (1, .int a1), (2, .int a2)]) hx hb dX10_meet_42 rfl hl (by decide) rfl (fun ls hl => ?_)
        refine lv_aload_n hx hb dX10_meet_43 rfl (lv_at hl 1 rfl) ?_
        refine lv_iload_n hx hb dX10_meet_44 rfl (lv_at hl 2 rfl) ?_
        refine lv_iload_n hx hb dX10_meet_45 rfl (lv_at hl 3 rfl) ?_
        refine lv_iconst (v := 4) hx hb dX10_meet_46 (by decide) ?_
        refine cVim (As := [.int a1, .int a2, .int 4]) (rest := []) ⟨hx, hb, hml, hown, hw0⟩ hA hK hP hD hS [true, true, true] (sX10_notes l G y _ ob a1 a2 4 ob_thrown ob_world ob_images ob_hasImage ob_tape ob_taped ob_five ob_size ob_at ob_from ob_token ob_value ob_faultKind ob_faultPlace ob_fresh ob_parts ob_houses ob_houseMany ob_worthOf ob_byCall ob_over ob_bestSet ob_bestOver ob_bestWorth ob_row ob_tenDebts ob_tenMany ob_fewestBy ob_covered ob_queue ob_cameBy ob_parent ob_met ob_calls ob_callMany ob_calledOn ob_saved ob_many ob_width ob_numbers ob_moving fob_world fob_parts p_fob_world p_ob_taped p_ob_size p_ob_at p_ob_from p_ob_token p_ob_value p_ob_faultKind p_ob_houseMany p_ob_bestSet p_ob_bestOver p_ob_tenMany p_ob_callMany h_1002 h_1003 (by have h90 : Int32.toInt 4 = 4 := (by decide); omega)) rfl ⟨(callB_of 3 hw0 (gA m_571) rfl rfl rfl (hw0 _ m_41) (hw0 _ m_429) cb_X10_notes ⟨Nat.le_of_ble_eq_true rfl, Nat.le_of_ble_eq_true rfl⟩), (hw0 _ m_430), (hw0 _ m_431)⟩ (ci := 10) (q := (RX10, TX10, 41)) rfl rfl rfl hl.1 (Nat.le_of_ble_eq_true rfl) dX10_meet_47 ⟨Nat.le_of_ble_eq_true rfl, Nat.le_of_ble_eq_true rfl⟩ (fun r_1008 w_1008 H locs hw_1008 hP hD hS => ?_)
        obtain ⟨v_1009, f_1010, f_1011, bf_1010, er_1008, rfl⟩ := hw_1008
        subst r_1008
        obtain ⟨hP, hD⟩ : vPD G A H [(ce_X10 ob ob_thrown ob_world ob_images ob_hasImage ob_tape ob_taped ob_five ob_size ob_at ob_from ob_token ob_value ob_faultKind ob_faultPlace ob_fresh ob_parts ob_houses ob_houseMany ob_worthOf ob_byCall ob_over ob_bestSet ob_bestOver ob_bestWorth ob_row ob_tenDebts ob_tenMany ob_fewestBy ob_covered ob_queue ob_cameBy ob_parent ob_met ob_calls ob_callMany ob_calledOn ob_saved ob_many ob_width ob_numbers ob_moving), (ce_i9080 y ob_world f_1010), (ce_i6 y ob_parts f_1011)] := ⟨hP, hD⟩
        refine lv_pop hx hb dX10_meet_50 rfl ?_
        refine lv_iload_n hx hb dX10_meet_51 rfl (lv_at hl 0 rfl) ?_
        exact W.iret (v := v_1007) hx hb hr (fun t ht hW => ⟨⟨v_1007, _, rfl, ⟨v_1007, f_1010, f_1011, (bw (-3) (1) bv_1007 (by decide)), bf_1010, rfl, rfl⟩, by rw [ht]; exact hP, hD⟩, hS.F ht⟩) hS.2.2 dX10_meet_52
      · skip
        refine cVim (As := [.int a1, .int a2]) (rest := []) ⟨hx, hb, hml, hown, hw0⟩ hA hK hP hD hS [true, true] (sX10_areKnown l G y _ ob a1 a2 ob_thrown ob_world ob_images ob_hasImage ob_tape ob_taped ob_five ob_size ob_at ob_from ob_token ob_value ob_faultKind ob_faultPlace ob_fresh ob_parts ob_houses ob_houseMany ob_worthOf ob_byCall ob_over ob_bestSet ob_bestOver ob_bestWorth ob_row ob_tenDebts ob_tenMany ob_fewestBy ob_covered ob_queue ob_cameBy ob_parent ob_met ob_calls ob_callMany ob_calledOn ob_saved ob_many ob_width ob_numbers ob_moving fob_world p_fob_world p_ob_taped p_ob_size p_ob_at p_ob_from p_ob_token p_ob_value p_ob_faultKind p_ob_houseMany p_ob_bestSet p_ob_bestOver p_ob_tenMany p_ob_callMany h_1002 h_1003) rfl ⟨(callB_of 2 hw0 (gA m_351) rfl rfl rfl (hw0 _ m_41) (hw0 _ m_379) cb_X10_areKnown ⟨Nat.le_of_ble_eq_true rfl, Nat.le_of_ble_eq_true rfl⟩), (hw0 _ m_380), (hw0 _ m_381)⟩ (ci := 10) (q := (RX10, TX10, 41)) rfl rfl rfl hl.1 (Nat.le_of_ble_eq_true rfl) dX10_meet_31 ⟨Nat.le_of_ble_eq_true rfl, Nat.le_of_ble_eq_true rfl⟩ (fun r_1012 w_1012 H locs hw_1012 hP hD hS => ?_)
        rcases hw_1012 with ⟨rfl, rfl⟩ | ⟨rfl, rfl⟩
        · skip
          obtain ⟨hP, hD⟩ : vPD G A H [(ce_X10 ob ob_thrown ob_world ob_images ob_hasImage ob_tape ob_taped ob_five ob_size ob_at ob_from ob_token ob_value ob_faultKind ob_faultPlace ob_fresh ob_parts ob_houses ob_houseMany ob_worthOf ob_byCall ob_over ob_bestSet ob_bestOver ob_bestWorth ob_row ob_tenDebts ob_tenMany ob_fewestBy ob_covered ob_queue ob_cameBy ob_parent ob_met ob_calls ob_callMany ob_calledOn ob_saved ob_many ob_width ob_numbers ob_moving), (ce_i9080 y ob_world fob_world), (ce_i6 y ob_parts fob_parts)] := ⟨hP, hD⟩
          refine lv_if_eq (tgt := 41) hx hb dX10_meet_34 (by decide) (fun _ => ?_) (fun c9 => absurd (by decide) c9)
          refine lv_iconst (v := 1) hx hb dX10_meet_41 (by decide) ?_
          exact J_42_1007 _ _ _ _ ⟨1, (bw (0) (1) (bkc (x := 1) (c := 1) (by decide)) (by decide)), rfl, ⟨hP, hD⟩, hS, lv_sub hl [0, 1, 2] rfl⟩
        · skip
          obtain ⟨hP, hD⟩ : vPD G A H [(ce_X10 ob ob_thrown ob_world ob_images ob_hasImage ob_tape ob_taped ob_five ob_size ob_at ob_from ob_token ob_value ob_faultKind ob_faultPlace ob_fresh ob_parts ob_houses ob_houseMany ob_worthOf ob_byCall ob_over ob_bestSet ob_bestOver ob_bestWorth ob_row ob_tenDebts ob_tenMany ob_fewestBy ob_covered ob_queue ob_cameBy ob_parent ob_met ob_calls ob_callMany ob_calledOn ob_saved ob_many ob_width ob_numbers ob_moving), (ce_i9080 y ob_world fob_world), (ce_i6 y ob_parts fob_parts)] := ⟨hP, hD⟩
          refine lv_if_eq (tgt := 41) hx hb dX10_meet_34 (by decide) (fun c9 => absurd c9 (by decide)) (fun _ => ?_)
          refine lv_iconst (v := 0) hx hb dX10_meet_37 (by decide) ?_
          refine lv_goto (tgt := 42) hx hb dX10_meet_38 (by decide) ?_
          exact J_42_1007 _ _ _ _ ⟨0, (bw (0) (1) (bkc (x := 0) (c := 0) (by decide)) (by decide)), rfl, ⟨hP, hD⟩, hS, lv_sub hl [0, 1, 2] rfl⟩
    · skip
      have nc_1005 := nb_eq (600) (600) c_1005 bv_1004 (bkc (x := 600) (c := 600) (by decide)) (by decide)
      refine lv_bipush (v := (-3)) hx hb dX10_meet_25 (by decide) ?_
      exact W.iret (v := (-3)) hx hb hr (fun t ht hW => ⟨⟨(-3), _, rfl, ⟨(-3), fob_world, fob_parts, (bw (-3) (1) (bkc (x := (-3)) (c := -3) (by decide)) (by decide)), p_fob_world, rfl, rfl⟩, by rw [ht]; exact hP, hD⟩, hS.F ht⟩) hS.2.2 dX10_meet_27

set_option maxHeartbeats 4000000 in
set_option maxRecDepth 100000 in
theorem sX10_done (l : Launch) (G : va_G) (y : Nat → ClassId) (sz : Nat) (ob : Nat) (a1 : Int32) (ob_thrown : Int32) (ob_world : Nat) (ob_images : Nat) (ob_hasImage : Nat) (ob_tape : Nat) (ob_taped : Int32) (ob_five : Nat) (ob_size : Int32) (ob_at : Int32) (ob_from : Int32) (ob_token : Int32) (ob_value : Int32) (ob_faultKind : Int32) (ob_faultPlace : Int32) (ob_fresh : Nat) (ob_parts : Nat) (ob_houses : Nat) (ob_houseMany : Int32) (ob_worthOf : Nat) (ob_byCall : Nat) (ob_over : Nat) (ob_bestSet : Int32) (ob_bestOver : Int32) (ob_bestWorth : Int32) (ob_row : Nat) (ob_tenDebts : Nat) (ob_tenMany : Int32) (ob_fewestBy : Nat) (ob_covered : Nat) (ob_queue : Nat) (ob_cameBy : Nat) (ob_parent : Nat) (ob_met : Nat) (ob_calls : Nat) (ob_callMany : Int32) (ob_calledOn : Nat) (ob_saved : Nat) (ob_many : Nat) (ob_width : Nat) (ob_numbers : Nat) (ob_moving : Nat) (fob_world : Nat → Int32) (fob_parts : Nat → Int32) (fob_many : Nat → Int32) (fob_numbers : Nat → Int64) (p_fob_world : RWw fob_world) (p_ob_taped : (0 : Int) ≤ ob_taped.toInt ∧ ob_taped.toInt ≤ 1400) (p_ob_size : (0 : Int) ≤ ob_size.toInt ∧ ob_size.toInt ≤ 1400) (p_ob_at : (0 : Int) ≤ ob_at.toInt ∧ ob_at.toInt ≤ 1400) (p_ob_from : (0 : Int) ≤ ob_from.toInt ∧ ob_from.toInt ≤ 1400) (p_ob_token : (0 : Int) ≤ ob_token.toInt ∧ ob_token.toInt ≤ 4) (p_ob_value : (0 : Int) ≤ ob_value.toInt ∧ ob_value.toInt ≤ 9999) (p_ob_faultKind : (0 : Int) ≤ ob_faultKind.toInt ∧ ob_faultKind.toInt ≤ 3) (p_ob_houseMany : (0 : Int) ≤ ob_houseMany.toInt ∧ ob_houseMany.toInt ≤ 10) (p_ob_bestSet : (0 : Int) ≤ ob_bestSet.toInt ∧ ob_bestSet.toInt ≤ 1023) (p_ob_bestOver : (-1 : Int) ≤ ob_bestOver.toInt ∧ ob_bestOver.toInt ≤ 180) (p_ob_tenMany : (0 : Int) ≤ ob_tenMany.toInt ∧ ob_tenMany.toInt ≤ 10) (p_ob_callMany : (0 : Int) ≤ ob_callMany.toInt ∧ ob_callMany.toInt ≤ 16) (p_fob_many : ∀ i, (-1 : Int) ≤ (fob_many i).toInt ∧ (fob_many i).toInt ≤ 60) : Met l yX10_done (Cond.code yX10_done cX10_done 11 (some .int) :: wAll) ({ frames := 6, cells := 0, slots := 0, locals := 159 }) (va_Pc [.ref ob, .int a1] (kp G y sz [(ce_X10 ob ob_thrown ob_world ob_images ob_hasImage ob_tape ob_taped ob_five ob_size ob_at ob_from ob_token ob_value ob_faultKind ob_faultPlace ob_fresh ob_parts ob_houses ob_houseMany ob_worthOf ob_byCall ob_over ob_bestSet ob_bestOver ob_bestWorth ob_row ob_tenDebts ob_tenMany ob_fewestBy ob_covered ob_queue ob_cameBy ob_parent ob_met ob_calls ob_callMany ob_calledOn ob_saved ob_many ob_width ob_numbers ob_moving), (ce_i9080 y ob_world fob_world), (ce_i6 y ob_parts fob_parts), (ce_i4 y ob_many fob_many), (ce_l240 y ob_numbers fob_numbers)])) (va_Qi (fun (r : Int32) (w : va_W) => (∃ (v_3859 : Int32) (f_3860 : Nat → Int32) (f_3861 : Nat → Int32), (RWw f_3860) ∧ r = v_3859 ∧ w = [(ce_X10 ob ob_thrown ob_world ob_images ob_hasImage ob_tape ob_taped ob_five ob_size ob_at ob_from ob_token ob_value ob_faultKind ob_faultPlace ob_fresh ob_parts ob_houses ob_houseMany ob_worthOf ob_byCall ob_over ob_bestSet ob_bestOver ob_bestWorth ob_row ob_tenDebts ob_tenMany ob_fewestBy ob_covered ob_queue ob_cameBy ob_parent ob_met ob_calls ob_callMany ob_calledOn ob_saved ob_many ob_width ob_numbers ob_moving), (ce_i9080 y ob_world f_3860), (ce_i6 y ob_parts f_3861), (ce_i4 y ob_many fob_many), (ce_l240 y ob_numbers fob_numbers)])) (kq G (va_A [(ce_X10 ob ob_thrown ob_world ob_images ob_hasImage ob_tape ob_taped ob_five ob_size ob_at ob_from ob_token ob_value ob_faultKind ob_faultPlace ob_fresh ob_parts ob_houses ob_houseMany ob_worthOf ob_byCall ob_over ob_bestSet ob_bestOver ob_bestWorth ob_row ob_tenDebts ob_tenMany ob_fewestBy ob_covered ob_queue ob_cameBy ob_parent ob_met ob_calls ob_callMany ob_calledOn ob_saved ob_many ob_width ob_numbers ob_moving), (ce_i9080 y ob_world fob_world), (ce_i6 y ob_parts fob_parts), (ce_i4 y ob_many fob_many), (ce_l240 y ob_numbers fob_numbers)] sz)) (va_A [(ce_X10 ob ob_thrown ob_world ob_images ob_hasImage ob_tape ob_taped ob_five ob_size ob_at ob_from ob_token ob_value ob_faultKind ob_faultPlace ob_fresh ob_parts ob_houses ob_houseMany ob_worthOf ob_byCall ob_over ob_bestSet ob_bestOver ob_bestWorth ob_row ob_tenDebts ob_tenMany ob_fewestBy ob_covered ob_queue ob_cameBy ob_parent ob_met ob_calls ob_callMany ob_calledOn ob_saved ob_many ob_width ob_numbers ob_moving), (ce_i9080 y ob_world fob_world), (ce_i6 y ob_parts fob_parts), (ce_i4 y ob_many fob_many), (ce_l240 y ob_numbers fob_numbers)] sz)) 0 0 (va_A [(ce_X10 ob ob_thrown ob_world ob_images ob_hasImage ob_tape ob_taped ob_five ob_size ob_at ob_from ob_token ob_value ob_faultKind ob_faultPlace ob_fresh ob_parts ob_houses ob_houseMany ob_worthOf ob_byCall ob_over ob_bestSet ob_bestOver ob_bestWorth ob_row ob_tenDebts ob_tenMany ob_fewestBy ob_covered ob_queue ob_cameBy ob_parent ob_met ob_calls ob_callMany ob_calledOn ob_saved ob_many ob_width ob_numbers ob_moving), (ce_i9080 y ob_world fob_world), (ce_i6 y ob_parts fob_parts), (ce_i4 y ob_many fob_many), (ce_l240 y ob_numbers fob_numbers)] sz) := by
  refine Met.ofW (cc := cX10_done) (maxL := 11) (ret := (some .int)) (by decide) rfl ?_
  intro p e s m args below meth c s₁ B hml hv
  obtain ⟨rfl, hsz, hP, hK, hD0⟩ := hv
  have hx := B.exec
  have hb := B.bytes
  have hr := B.returns
  have hw0 : ∀ w ∈ wAll, w.before _ s = true := fun w h => atoms_spec (ws := Cond.code yX10_done cX10_done 11 (some .int) :: wAll) B.pre w (List.mem_cons_of_mem _ h)
  have hown : s.vm.findClass RX10 = some m.cls := findClass_of_methodNamed B.named
  subst hsz
  have hD := hD0.self (sz := s.heap.size)
  generalize hAe : va_A [(ce_X10 ob ob_thrown ob_world ob_images ob_hasImage ob_tape ob_taped ob_five ob_size ob_at ob_from ob_token ob_value ob_faultKind ob_faultPlace ob_fresh ob_parts ob_houses ob_houseMany ob_worthOf ob_byCall ob_over ob_bestSet ob_bestOver ob_bestWorth ob_row ob_tenDebts ob_tenMany ob_fewestBy ob_covered ob_queue ob_cameBy ob_parent ob_met ob_calls ob_callMany ob_calledOn ob_saved ob_many ob_width ob_numbers ob_moving), (ce_i9080 y ob_world fob_world), (ce_i6 y ob_parts fob_parts), (ce_i4 y ob_many fob_many), (ce_l240 y ob_numbers fob_numbers)] s.heap.size = A at hD ⊢
  have hA : ∀ q : Nat, s.heap.size ≤ q → A q := fun q h => by rw [← hAe]; exact Or.inr h
  have hS : va_S A s.heap s.heap [] := va_S.rf
  have hP : va_P G vwCl [(ce_X10 ob ob_thrown ob_world ob_images ob_hasImage ob_tape ob_taped ob_five ob_size ob_at ob_from ob_token ob_value ob_faultKind ob_faultPlace ob_fresh ob_parts ob_houses ob_houseMany ob_worthOf ob_byCall ob_over ob_bestSet ob_bestOver ob_bestWorth ob_row ob_tenDebts ob_tenMany ob_fewestBy ob_covered ob_queue ob_cameBy ob_parent ob_met ob_calls ob_callMany ob_calledOn ob_saved ob_many ob_width ob_numbers ob_moving), (ce_i9080 y ob_world fob_world), (ce_i6 y ob_parts fob_parts), (ce_i4 y ob_many fob_many), (ce_l240 y ob_numbers fob_numbers)] s.heap := hP
  have hl := lv_entry ([.ref ob, .int a1]) (n := 11) (Nat.le_of_ble_eq_true rfl)
  rw [lg_entry_eq]
  generalize (lg_sl ([.ref ob, .int a1]) ++ List.replicate (11 - (lg_sl ([.ref ob, .int a1])).length) Slot.unset).toArray = ls at hl ⊢
  have hl : lv_has ls 11 [(0, .ref ob), (1, .int a1)] := hl
  refine lv_iload_n hx hb dX10_done_0 rfl (lv_at hl 1 rfl) ?_
  refine cSim (As := [.int a1]) (rest := []) ⟨hx, hb, hml, hown, hw0⟩ hA hK hP hD hS [] (sX10_isSlot l G y _ a1 ) rfl ⟨(callB_of 1 hw0 (gA m_543) rfl rfl rfl (hw0 _ m_41) (hw0 _ m_433) cb_X10_isSlot ⟨Nat.le_of_ble_eq_true rfl, Nat.le_of_ble_eq_true rfl⟩), (hw0 _ m_434)⟩ rfl hl.1 (Nat.le_of_ble_eq_true rfl) dX10_done_1 ⟨Nat.le_of_ble_eq_true rfl, Nat.le_of_ble_eq_true rfl⟩ (fun r_1001 w_1001 H locs hw_1001 hP hD hS => ?_)
  rcases hw_1001 with ⟨rfl, rfl⟩ | ⟨h_1002, rfl, rfl⟩
  · skip
    obtain ⟨hP, hD⟩ : vPD G A H [(ce_X10 ob ob_thrown ob_world ob_images ob_hasImage ob_tape ob_taped ob_five ob_size ob_at ob_from ob_token ob_value ob_faultKind ob_faultPlace ob_fresh ob_parts ob_houses ob_houseMany ob_worthOf ob_byCall ob_over ob_bestSet ob_bestOver ob_bestWorth ob_row ob_tenDebts ob_tenMany ob_fewestBy ob_covered ob_queue ob_cameBy ob_parent ob_met ob_calls ob_callMany ob_calledOn ob_saved ob_many ob_width ob_numbers ob_moving), (ce_i9080 y ob_world fob_world), (ce_i6 y ob_parts fob_parts), (ce_i4 y ob_many fob_many), (ce_l240 y ob_numbers fob_numbers)] := ⟨hP, hD⟩
    refine lv_if_ne (tgt := 10) hx hb dX10_done_4 (by decide) (fun c9 => absurd (by decide) c9) (fun _ => ?_)
    refine lv_bipush (v := (-2)) hx hb dX10_done_7 (by decide) ?_
    exact W.iret (v := (-2)) hx hb hr (fun t ht hW => ⟨⟨(-2), _, rfl, ⟨(-2), fob_world, fob_parts, p_fob_world, rfl, rfl⟩, by rw [ht]; exact hP, hD⟩, hS.F ht⟩) hS.2.2 dX10_done_9
  · skip
    obtain ⟨hP, hD⟩ : vPD G A H [(ce_X10 ob ob_thrown ob_world ob_images ob_hasImage ob_tape ob_taped ob_five ob_size ob_at ob_from ob_token ob_value ob_faultKind ob_faultPlace ob_fresh ob_parts ob_houses ob_houseMany ob_worthOf ob_byCall ob_over ob_bestSet ob_bestOver ob_bestWorth ob_row ob_tenDebts ob_tenMany ob_fewestBy ob_covered ob_queue ob_cameBy ob_parent ob_met ob_calls ob_callMany ob_calledOn ob_saved ob_many ob_width ob_numbers ob_moving), (ce_i9080 y ob_world fob_world), (ce_i6 y ob_parts fob_parts), (ce_i4 y ob_many fob_many), (ce_l240 y ob_numbers fob_numbers)] := ⟨hP, hD⟩
    refine lv_if_ne (tgt := 10) hx hb dX10_done_4 (by decide) (fun _ => ?_) (fun c9 => absurd c9 (by decide))
    refine lv_aload_n hx hb dX10_done_10 rfl (lv_at hl 0 rfl) ?_
    refine va_get (D := G) (ci := 10) (v := .ref ob_many) (C := RX10) (T := TX10) (N := 41) hx hb hw0 inA_wsX100 hown hK.1 hP 0 rfl rfl 37 (by decide) (hw0 _ m_406) (fun _ h9 => h9) rfl dX10_done_11 ?_
    refine lv_iload_n hx hb dX10_done_14 rfl (lv_at hl 1 rfl) ?_
    refine va_iald hx hb hK.1 hP 3 1 rfl rfl (vi h_1002 (by decide)) dX10_done_15 ?_
    refine lv_topi (fun v_1003 ev_1003 => ?_)
    have bv_1003 : (-1 : Int) ≤ v_1003.toInt ∧ v_1003.toInt ≤ 60 := rd_b ev_1003 p_fob_many
    refine lv_iconst (v := (-1)) hx hb dX10_done_16 (by decide) ?_
    refine lv_icmp_ne (tgt := 23) hx hb dX10_done_17 (by decide) (fun c_1004 => ?_) (fun c_1004 => ?_)
    · skip
      have nc_1004 := nb_ne (0) (60) c_1004 bv_1003 (k := -1) (by decide) (by decide)
      refine lv_iconst (v := 0) hx hb dX10_done_23 (by decide) ?_
      refine lv_istore_n (lv' := [(2, .int 0), (0, .ref ob), (1, .int a1)]) hx hb dX10_done_24 rfl hl (by decide) rfl (fun ls hl => ?_)
      refine lv_iconst (v := 0) hx hb dX10_done_25 (by decide) ?_
      refine lv_istore_n (lv' := [(3, .int 0), (2, .int 0), (0, .ref ob), (1, .int a1)]) hx hb dX10_done_26 rfl hl (by decide) rfl (fun ls hl => ?_)
      refine loopX (fun n H locs ls st => ∃ (v_2676 : Int32) (v_2677 : Int32) (f_2678 : Nat → Int32) (f_2679 : Nat → Int32), (60 - v_2676.toInt).toNat = n ∧ ((0 : Int) ≤ v_2676.toInt ∧ v_2676.toInt ≤ 60) ∧ (RWw f_2678) ∧ st = [] ∧ vPD G A H [(ce_X10 ob ob_thrown ob_world ob_images ob_hasImage ob_tape ob_taped ob_five ob_size ob_at ob_from ob_token ob_value ob_faultKind ob_faultPlace ob_fresh ob_parts ob_houses ob_houseMany ob_worthOf ob_byCall ob_over ob_bestSet ob_bestOver ob_bestWorth ob_row ob_tenDebts ob_tenMany ob_fewestBy ob_covered ob_queue ob_cameBy ob_parent ob_met ob_calls ob_callMany ob_calledOn ob_saved ob_many ob_width ob_numbers ob_moving), (ce_i9080 y ob_world f_2678), (ce_i6 y ob_parts f_2679), (ce_i4 y ob_many fob_many), (ce_l240 y ob_numbers fob_numbers)] ∧ va_S A s.heap H locs ∧ lv_has ls 11 [(3, .int v_2676), (2, .int v_2677), (0, .ref ob), (1, .int a1)]) ?_ (n := (60 - (0 : Int32).toInt).toNat) ⟨0, 0, fob_world, fob_parts, rfl, (bw (0) (60) (bkc (x := 0) (c := 0) (by decide)) (by decide)), p_fob_world, rfl, ⟨hP, hD⟩, hS, lv_sub hl [0, 1, 2, 3] rfl⟩
      rintro n ih_2804 H locs ls st ⟨v_2676, v_2677, f_2678, f_2679, hn_2804, bv_2676, bf_2678, rfl, ⟨hP, hD⟩, hS, hl⟩
      refine lv_iload_n hx hb dX10_done_27 rfl (lv_at hl 0 rfl) ?_
      refine lv_iconst (v := 2) hx hb dX10_done_28 (by decide) ?_
      refine lv_iadd hx hb dX10_done_29 ?_
      refine lv_topi (fun v_2805 ev_2805 => ?_)
      have qv_2805 := ba_add ev_2805 bv_2676 (bkc (x := 2) (c := 2) (by decide)) (by decide)
      have bv_2805 : (2 : Int) ≤ v_2805.toInt ∧ v_2805.toInt ≤ 62 := bq_add qv_2805 bv_2676 (bkc (x := 2) (c := 2) (by decide)) _ _ (by decide)
      have qv_2805 : v_2805.toInt = v_2676.toInt + (2) := qv_2805
      refine lv_aload_n hx hb dX10_done_30 rfl (lv_at hl 2 rfl) ?_
      refine va_get (D := G) (ci := 10) (v := .ref ob_many) (C := RX10) (T := TX10) (N := 41) hx hb hw0 inA_wsX100 hown hK.1 hP 0 rfl rfl 37 (by decide) (hw0 _ m_406) (fun _ h9 => h9) rfl dX10_done_31 ?_
      refine lv_iload_n hx hb dX10_done_34 rfl (lv_at hl 3 rfl) ?_
      refine va_iald hx hb hK.1 hP 3 1 rfl rfl (vi h_1002 (by decide)) dX10_done_35 ?_
      refine lv_topi (fun v_2806 ev_2806 => ?_)
      obtain rfl : v_1003 = v_2806 := (ev_2806.trans (ev_1003.symm)).symm
      refine lv_icmp_ge (tgt := 177) hx hb dX10_done_36 (by decide) (fun c_2807 => ?_) (fun c_2807 => ?_)
      · skip
        have nc_2807 := nb_le (60) (2) c_2807 nc_1004.1 bv_2805 (by decide)
        refine lv_iload_n hx hb dX10_done_177 rfl (lv_at hl 1 rfl) ?_
        exact W.iret (v := v_2677) hx hb hr (fun t ht hW => ⟨⟨v_2677, _, rfl, ⟨v_2677, f_2678, f_2679, bf_2678, rfl, rfl⟩, by rw [ht]; exact hP, hD⟩, hS.F ht⟩) hS.2.2 dX10_done_178
      · skip
        have nc_2807 := nb_nle (59) (3) c_2807 bv_2805 nc_1004.1 (by decide)
        have h_2808 : (0 : Int) ≤ v_2676.toInt ∧ v_2676.toInt ≤ 57 := bq_in1 qv_2805 nc_2807.1 bv_2676 (bkc (x := 2) (c := 2) (by decide)) (by decide)
        refine lv_aload_n hx hb dX10_done_39 rfl (lv_at hl 2 rfl) ?_
        refine va_get (D := G) (ci := 10) (v := .ref ob_numbers) (C := RX10) (T := TX10) (N := 41) hx hb hw0 inA_wsX100 hown hK.1 hP 0 rfl rfl 39 (by decide) (hw0 _ m_435) (fun _ h9 => h9) rfl dX10_done_40 ?_
        refine lv_bipush (v := 60) hx hb dX10_done_43 (by decide) ?_
        refine lv_iload_n hx hb dX10_done_45 rfl (lv_at hl 3 rfl) ?_
        refine lv_imul hx hb dX10_done_46 ?_
        refine lv_topi (fun v_2809 ev_2809 => ?_)
        have qv_2809 := ba_mul 60 (ev_2809.trans (Int32.mul_comm _ _)) h_1002 (by decide) (by decide) (by decide)
        have bv_2809 : (0 : Int) ≤ v_2809.toInt ∧ v_2809.toInt ≤ 180 := qv_2809.2
        refine lv_iload_n hx hb dX10_done_47 rfl (lv_at hl 0 rfl) ?_
        refine lv_iadd hx hb dX10_done_48 ?_
        refine lv_topi (fun v_2810 ev_2810 => ?_)
        have qv_2810 := ba_add ev_2810 bv_2809 h_2808 (by decide)
        have bv_2810 : (0 : Int) ≤ v_2810.toInt ∧ v_2810.toInt ≤ 237 := bq_add qv_2810 bv_2809 h_2808 _ _ (by decide)
        refine va_lald hx hb hK.1 hP 4 2 rfl rfl (vi bv_2810 (by decide)) dX10_done_49 ?_
        refine lv_topl (fun v_2811 ev_2811 => ?_)
        refine lv_lstore (lv' := [(4, .long v_2811), (3, .int v_2676), (2, .int v_2677), (0, .ref ob), (1, .int a1)]) hx hb dX10_done_50 hl (by decide) rfl (fun ls hl => ?_)
        refine lv_aload_n hx hb dX10_done_52 rfl (lv_at hl 3 rfl) ?_
        refine va_get (D := G) (ci := 10) (v := .ref ob_numbers) (C := RX10) (T := TX10) (N := 41) hx hb hw0 inA_wsX100 hown hK.1 hP 0 rfl rfl 39 (by decide) (hw0 _ m_435) (fun _ h9 => h9) rfl dX10_done_53 ?_
        refine lv_bipush (v := 60) hx hb dX10_done_56 (by decide) ?_
        refine lv_iload_n hx hb dX10_done_58 rfl (lv_at hl 4 rfl) ?_
        refine lv_imul hx hb dX10_done_59 ?_
        refine lv_topi (fun v_2812 ev_2812 => ?_)
        obtain rfl : v_2809 = v_2812 := (ev_2812.trans (ev_2809.symm)).symm
        refine lv_iload_n hx hb dX10_done_60 rfl (lv_at hl 1 rfl) ?_
        refine lv_iadd hx hb dX10_done_61 ?_
        refine lv_topi (fun v_2813 ev_2813 => ?_)
        obtain rfl : v_2810 = v_2813 := (ev_2813.trans (ev_2810.symm)).symm
        refine lv_iconst (v := 1) hx hb dX10_done_62 (by decide) ?_
        refine lv_iadd hx hb dX10_done_63 ?_
        refine lv_topi (fun v_2814 ev_2814 => ?_)
        have qv_2814 := ba_add ev_2814 bv_2810 (bkc (x := 1) (c := 1) (by decide)) (by decide)
        have bv_2814 : (1 : Int) ≤ v_2814.toInt ∧ v_2814.toInt ≤ 238 := bq_add qv_2814 bv_2810 (bkc (x := 1) (c := 1) (by decide)) _ _ (by decide)
        have qv_2814 : v_2814.toInt = v_2810.toInt + (1) := qv_2814
        refine va_lald hx hb hK.1 hP 4 2 rfl rfl (vi bv_2814 (by decide)) dX10_done_64 ?_
        refine lv_topl (fun v_2815 ev_2815 => ?_)
        refine lv_lstore (lv' := [(6, .long v_2815), (4, .long v_2811), (3, .int v_2676), (2, .int v_2677), (0, .ref ob), (1, .int a1)]) hx hb dX10_done_65 hl (by decide) rfl (fun ls hl => ?_)
        refine lv_aload_n hx hb dX10_done_67 rfl (lv_at hl 4 rfl) ?_
        refine va_get (D := G) (ci := 10) (v := .ref ob_numbers) (C := RX10) (T := TX10) (N := 41) hx hb hw0 inA_wsX100 hown hK.1 hP 0 rfl rfl 39 (by decide) (hw0 _ m_435) (fun _ h9 => h9) rfl dX10_done_68 ?_
        refine lv_bipush (v := 60) hx hb dX10_done_71 (by decide) ?_
        refine lv_iload_n hx hb dX10_done_73 rfl (lv_at hl 5 rfl) ?_
        refine lv_imul hx hb dX10_done_74 ?_
        refine lv_topi (fun v_2816 ev_2816 => ?_)
        obtain rfl : v_2809 = v_2816 := (ev_2816.trans (ev_2809.symm)).symm
        refine lv_iload_n hx hb dX10_done_75 rfl (lv_at hl 2 rfl) ?_
        refine lv_iadd hx hb dX10_done_76 ?_
        refine lv_topi (fun v_2817 ev_2817 => ?_)
        obtain rfl : v_2810 = v_2817 := (ev_2817.trans (ev_2810.symm)).symm
        refine lv_iconst (v := 2) hx hb dX10_done_77 (by decide) ?_
        refine lv_iadd hx hb dX10_done_78 ?_
        refine lv_topi (fun v_2818 ev_2818 => ?_)
        have qv_2818 := ba_add ev_2818 bv_2810 (bkc (x := 2) (c := 2) (by decide)) (by decide)
        have bv_2818 : (2 : Int) ≤ v_2818.toInt ∧ v_2818.toInt ≤ 239 := bq_add qv_2818 bv_2810 (bkc (x := 2) (c := 2) (by decide)) _ _ (by decide)
        have qv_2818 : v_2818.toInt = v_2810.toInt + (2) := qv_2818
        refine va_lald hx hb hK.1 hP 4 2 rfl rfl (vi bv_2818 (by decide)) dX10_done_79 ?_
        refine lv_topl (fun v_2819 ev_2819 => ?_)
        refine lv_lstore (lv' := [(8, .long v_2819), (6, .long v_2815), (4, .long v_2811), (3, .int v_2676), (2, .int v_2677), (0, .ref ob), (1, .int a1)]) hx hb dX10_done_80 hl (by decide) rfl (fun ls hl => ?_)
        refine lv_lload hx hb dX10_done_82 (lv_at hl 2 rfl) ?_
        refine lv_lconst (v := 0) hx hb dX10_done_84 (by decide) ?_
        refine lv_ldc2 (own := RX10) (v := 16) hx hb hown (hw0 _ m_436) dX10_done_85 ?_
        refine cutW 171 (fun H locs ls st => ∃ (v_2873 : Int32) (f_2874 : Nat → Int32) (f_2875 : Nat → Int32), (RWw f_2874) ∧ st = [] ∧ vPD G A H [(ce_X10 ob ob_thrown ob_world ob_images ob_hasImage ob_tape ob_taped ob_five ob_size ob_at ob_from ob_token ob_value ob_faultKind ob_faultPlace ob_fresh ob_parts ob_houses ob_houseMany ob_worthOf ob_byCall ob_over ob_bestSet ob_bestOver ob_bestWorth ob_row ob_tenDebts ob_tenMany ob_fewestBy ob_covered ob_queue ob_cameBy ob_parent ob_met ob_calls ob_callMany ob_calledOn ob_saved ob_many ob_width ob_numbers ob_moving), (ce_i9080 y ob_world f_2874), (ce_i6 y ob_parts f_2875), (ce_i4 y ob_many fob_many), (ce_l240 y ob_numbers fob_numbers)] ∧ va_S A s.heap H locs ∧ lv_has ls 11 [(3, .int v_2676), (2, .int v_2873), (0, .ref ob), (1, .int a1)]) ?_ (fun J_171_2875 => ?_)
        · rintro H locs ls st ⟨v_2873, f_2874, f_2875, bf_2874, rfl, ⟨hP, hD⟩, hS, hl⟩
          obtain ⟨v_2876, ev_2876⟩ : ∃ z : Int32, z = v_2676 + 3 := ⟨_, rfl⟩
          have qv_2876 := ba_add ev_2876 h_2808 (bkc (x := 3) (c := 3) (by decide)) (by decide)
          have bv_2876 : (3 : Int) ≤ v_2876.toInt ∧ v_2876.toInt ≤ 60 := bq_add qv_2876 h_2808 (bkc (x := 3) (c := 3) (by decide)) _ _ (by decide)
          have qv_2876 : v_2876.toInt = v_2676.toInt + (3) := qv_2876
          refine lv_iinc (v := v_2876) (lv' := [(3, .int v_2876), (2, .int v_2873), (0, .ref ob), (1, .int a1)]) hx hb dX10_done_171 hl (k := 0) rfl (ev_2876.symm) (by decide) rfl (fun ls hl => ?_)
          refine lv_goto (tgt := 27) hx hb dX10_done_174 (by decide) ?_
          exact ih_2804 _ (ml_inc (hi := 60) hn_2804 qv_2876 (by decide) ((bw (0) (60) bv_2876 (by decide))).2) _ _ _ _ ⟨v_2876, v_2873, f_2874, f_2875, rfl, (bw (0) (60) bv_2876 (by decide)), bf_2874, rfl, ⟨hP, hD⟩, hS, lv_sub hl [0, 1, 2, 3] rfl⟩
        · skip
          refine cSim (As := [.long v_2811, .long 0, .long 16]) (rest := []) ⟨hx, hb, hml, hown, hw0⟩ hA hK hP hD hS [] (sX10_in l G y _ v_2811 0 16 ) rfl ⟨(callB_of 3 hw0 (gA m_516) rfl rfl rfl (hw0 _ m_41) (hw0 _ m_345) cb_X10_in ⟨Nat.le_of_ble_eq_true rfl, Nat.le_of_ble_eq_true rfl⟩), (hw0 _ m_346)⟩ rfl hl.1 (Nat.le_of_ble_eq_true rfl) dX10_done_88 ⟨Nat.le_of_ble_eq_true rfl, Nat.le_of_ble_eq_true rfl⟩ (fun r_2877 w_2877 H locs hw_2877 hP hD hS => ?_)
          rcases hw_2877 with ⟨h_2878, rfl, rfl⟩ | ⟨h_2879, rfl, rfl⟩
          · skip
            have h_2880 : v_2811.toInt < (0 : Int) ∨ (16 : Int) < v_2811.toInt := in_n h_2878 rfl (by decide) (by decide)
            obtain ⟨hP, hD⟩ : vPD G A H [(ce_X10 ob ob_thrown ob_world ob_images ob_hasImage ob_tape ob_taped ob_five ob_size ob_at ob_from ob_token ob_value ob_faultKind ob_faultPlace ob_fresh ob_parts ob_houses ob_houseMany ob_worthOf ob_byCall ob_over ob_bestSet ob_bestOver ob_bestWorth ob_row ob_tenDebts ob_tenMany ob_fewestBy ob_covered ob_queue ob_cameBy ob_parent ob_met ob_calls ob_callMany ob_calledOn ob_saved ob_many ob_width ob_numbers ob_moving), (ce_i9080 y ob_world f_2678), (ce_i6 y ob_parts f_2679), (ce_i4 y ob_many fob_many), (ce_l240 y ob_numbers fob_numbers)] := ⟨hP, hD⟩
            refine lv_if_eq (tgt := 171) hx hb dX10_done_91 (by decide) (fun _ => ?_) (fun c9 => absurd (by decide) c9)
            exact J_171_2875 _ _ _ _ ⟨v_2677, f_2678, f_2679, bf_2678, rfl, ⟨hP, hD⟩, hS, lv_sub hl [3, 4, 5, 6] rfl⟩
          · skip
            have h_2881 : (0 : Int) ≤ v_2811.toInt ∧ v_2811.toInt ≤ (16 : Int) := in_y h_2879 rfl (by decide) (by decide)
            have h_2882_0 := (ltop v_2811)
            have h_2882_1 := True.intro
            have h_2882_2 := True.intro
            have h_2882 : (0 : Int) ≤ v_2811.toInt ∧ v_2811.toInt ≤ 16 := by omega
            obtain ⟨hP, hD⟩ : vPD G A H [(ce_X10 ob ob_thrown ob_world ob_images ob_hasImage ob_tape ob_taped ob_five ob_size ob_at ob_from ob_token ob_value ob_faultKind ob_faultPlace ob_fresh ob_parts ob_houses ob_houseMany ob_worthOf ob_byCall ob_over ob_bestSet ob_bestOver ob_bestWorth ob_row ob_tenDebts ob_tenMany ob_fewestBy ob_covered ob_queue ob_cameBy ob_parent ob_met ob_calls ob_callMany ob_calledOn ob_saved ob_many ob_width ob_numbers ob_moving), (ce_i9080 y ob_world f_2678), (ce_i6 y ob_parts f_2679), (ce_i4 y ob_many fob_many), (ce_l240 y ob_numbers fob_numbers)] := ⟨hP, hD⟩
            refine lv_if_eq (tgt := 171) hx hb dX10_done_91 (by decide) (fun c9 => absurd c9 (by decide)) (fun _ => ?_)
            refine lv_lload hx hb dX10_done_94 (lv_at hl 1 rfl) ?_
            refine lv_lconst (v := 0) hx hb dX10_done_96 (by decide) ?_
            refine lv_ldc2 (own := RX10) (v := 16) hx hb hown (hw0 _ m_436) dX10_done_97 ?_
            refine cSim (As := [.long v_2815, .long 0, .long 16]) (rest := []) ⟨hx, hb, hml, hown, hw0⟩ hA hK hP hD hS [] (sX10_in l G y _ v_2815 0 16 ) rfl ⟨(callB_of 3 hw0 (gA m_516) rfl rfl rfl (hw0 _ m_41) (hw0 _ m_345) cb_X10_in ⟨Nat.le_of_ble_eq_true rfl, Nat.le_of_ble_eq_true rfl⟩), (hw0 _ m_346)⟩ rfl hl.1 (Nat.le_of_ble_eq_true rfl) dX10_done_100 ⟨Nat.le_of_ble_eq_true rfl, Nat.le_of_ble_eq_true rfl⟩ (fun r_2883 w_2883 H locs hw_2883 hP hD hS => ?_)
            rcases hw_2883 with ⟨h_2884, rfl, rfl⟩ | ⟨h_2885, rfl, rfl⟩
            · skip
              have h_2886 : v_2815.toInt < (0 : Int) ∨ (16 : Int) < v_2815.toInt := in_n h_2884 rfl (by decide) (by decide)
              obtain ⟨hP, hD⟩ : vPD G A H [(ce_X10 ob ob_thrown ob_world ob_images ob_hasImage ob_tape ob_taped ob_five ob_size ob_at ob_from ob_token ob_value ob_faultKind ob_faultPlace ob_fresh ob_parts ob_houses ob_houseMany ob_worthOf ob_byCall ob_over ob_bestSet ob_bestOver ob_bestWorth ob_row ob_tenDebts ob_tenMany ob_fewestBy ob_covered ob_queue ob_cameBy ob_parent ob_met ob_calls ob_callMany ob_calledOn ob_saved ob_many ob_width ob_numbers ob_moving), (ce_i9080 y ob_world f_2678), (ce_i6 y ob_parts f_2679), (ce_i4 y ob_many fob_many), (ce_l240 y ob_numbers fob_numbers)] := ⟨hP, hD⟩
              refine lv_if_eq (tgt := 171) hx hb dX10_done_103 (by decide) (fun _ => ?_) (fun c9 => absurd (by decide) c9)
              exact J_171_2875 _ _ _ _ ⟨v_2677, f_2678, f_2679, bf_2678, rfl, ⟨hP, hD⟩, hS, lv_sub hl [3, 4, 5, 6] rfl⟩
            · skip
              have h_2887 : (0 : Int) ≤ v_2815.toInt ∧ v_2815.toInt ≤ (16 : Int) := in_y h_2885 rfl (by decide) (by decide)
              have h_2888_0 := (ltop v_2815)
              have h_2888_1 := True.intro
              have h_2888_2 := True.intro
              have h_2888 : (0 : Int) ≤ v_2815.toInt ∧ v_2815.toInt ≤ 16 := by omega
              obtain ⟨hP, hD⟩ : vPD G A H [(ce_X10 ob ob_thrown ob_world ob_images ob_hasImage ob_tape ob_taped ob_five ob_size ob_at ob_from ob_token ob_value ob_faultKind ob_faultPlace ob_fresh ob_parts ob_houses ob_houseMany ob_worthOf ob_byCall ob_over ob_bestSet ob_bestOver ob_bestWorth ob_row ob_tenDebts ob_tenMany ob_fewestBy ob_covered ob_queue ob_cameBy ob_parent ob_met ob_calls ob_callMany ob_calledOn ob_saved ob_many ob_width ob_numbers ob_moving), (ce_i9080 y ob_world f_2678), (ce_i6 y ob_parts f_2679), (ce_i4 y ob_many fob_many), (ce_l240 y ob_numbers fob_numbers)] := ⟨hP, hD⟩
              refine lv_if_eq (tgt := 171) hx hb dX10_done_103 (by decide) (fun c9 => absurd c9 (by decide)) (fun _ => ?_)
              refine lv_lload hx hb dX10_done_106 (lv_at hl 0 rfl) ?_
              refine lv_lconst (v := 0) hx hb dX10_done_108 (by decide) ?_
              refine lv_ldc2 (own := RX10) (v := 4) hx hb hown (hw0 _ m_437) dX10_done_109 ?_
              refine cSim (As := [.long v_2819, .long 0, .long 4]) (rest := []) ⟨hx, hb, hml, hown, hw0⟩ hA hK hP hD hS [] (sX10_in l G y _ v_2819 0 4 ) rfl ⟨(callB_of 3 hw0 (gA m_516) rfl rfl rfl (hw0 _ m_41) (hw0 _ m_345) cb_X10_in ⟨Nat.le_of_ble_eq_true rfl, Nat.le_of_ble_eq_true rfl⟩), (hw0 _ m_346)⟩ rfl hl.1 (Nat.le_of_ble_eq_true rfl) dX10_done_112 ⟨Nat.le_of_ble_eq_true rfl, Nat.le_of_ble_eq_true rfl⟩ (fun r_2889 w_2889 H locs hw_2889 hP hD hS => ?_)
              rcases hw_2889 with ⟨h_2890, rfl, rfl⟩ | ⟨h_2891, rfl, rfl⟩
              · skip
                have h_2892 : v_2819.toInt < (0 : Int) ∨ (4 : Int) < v_2819.toInt := in_n h_2890 rfl (by decide) (by decide)
                obtain ⟨hP, hD⟩ : vPD G A H [(ce_X10 ob ob_thrown ob_world ob_images ob_hasImage ob_tape ob_taped ob_five ob_size ob_at ob_from ob_token ob_value ob_faultKind ob_faultPlace ob_fresh ob_parts ob_houses ob_houseMany ob_worthOf ob_byCall ob_over ob_bestSet ob_bestOver ob_bestWorth ob_row ob_tenDebts ob_tenMany ob_fewestBy ob_covered ob_queue ob_cameBy ob_parent ob_met ob_calls ob_callMany ob_calledOn ob_saved ob_many ob_width ob_numbers ob_moving), (ce_i9080 y ob_world f_2678), (ce_i6 y ob_parts f_2679), (ce_i4 y ob_many fob_many), (ce_l240 y ob_numbers fob_numbers)] := ⟨hP, hD⟩
                refine lv_if_ne (tgt := 121) hx hb dX10_done_115 (by decide) (fun c9 => absurd (by decide) c9) (fun _ => ?_)
                refine lv_goto (tgt := 171) hx hb dX10_done_118 (by decide) ?_
                exact J_171_2875 _ _ _ _ ⟨v_2677, f_2678, f_2679, bf_2678, rfl, ⟨hP, hD⟩, hS, lv_sub hl [3, 4, 5, 6] rfl⟩
              · skip
                have h_2893 : (0 : Int) ≤ v_2819.toInt ∧ v_2819.toInt ≤ (4 : Int) := in_y h_2891 rfl (by decide) (by decide)
                have h_2894_0 := (ltop v_2819)
                have h_2894_1 := True.intro
                have h_2894_2 := True.intro
                have h_2894 : (0 : Int) ≤ v_2819.toInt ∧ v_2819.toInt ≤ 4 := by omega
                obtain ⟨hP, hD⟩ : vPD G A H [(ce_X10 ob ob_thrown ob_world ob_images ob_hasImage ob_tape ob_taped ob_five ob_size ob_at ob_from ob_token ob_value ob_faultKind ob_faultPlace ob_fresh ob_parts ob_houses ob_houseMany ob_worthOf ob_byCall ob_over ob_bestSet ob_bestOver ob_bestWorth ob_row ob_tenDebts ob_tenMany ob_fewestBy ob_covered ob_queue ob_cameBy ob_parent ob_met ob_calls ob_callMany ob_calledOn ob_saved ob_many ob_width ob_numbers ob_moving), (ce_i9080 y ob_world f_2678), (ce_i6 y ob_parts f_2679), (ce_i4 y ob_many fob_many), (ce_l240 y ob_numbers fob_numbers)] := ⟨hP, hD⟩
                refine lv_if_ne (tgt := 121) hx hb dX10_done_115 (by decide) (fun _ => ?_) (fun c9 => absurd c9 (by decide))
                refine lv_lload hx hb dX10_done_121 (lv_at hl 0 rfl) ?_
                refine lv_ldc2 (own := RX10) (v := 4) hx hb hown (hw0 _ m_437) dX10_done_123 ?_
                refine W.lcmp hx hb dX10_done_126 ?_
                refine cutW 156 (fun H locs ls st => ∃ (v_2909 : Int32) (f_2910 : Nat → Int32) (f_2911 : Nat → Int32), (RWw f_2910) ∧ st = [.int v_2909] ∧ vPD G A H [(ce_X10 ob ob_thrown ob_world ob_images ob_hasImage ob_tape ob_taped ob_five ob_size ob_at ob_from ob_token ob_value ob_faultKind ob_faultPlace ob_fresh ob_parts ob_houses ob_houseMany ob_worthOf ob_byCall ob_over ob_bestSet ob_bestOver ob_bestWorth ob_row ob_tenDebts ob_tenMany ob_fewestBy ob_covered ob_queue ob_cameBy ob_parent ob_met ob_calls ob_callMany ob_calledOn ob_saved ob_many ob_width ob_numbers ob_moving), (ce_i9080 y ob_world f_2910), (ce_i6 y ob_parts f_2911), (ce_i4 y ob_many fob_many), (ce_l240 y ob_numbers fob_numbers)] ∧ va_S A s.heap H locs ∧ lv_has ls 11 [(3, .int v_2676), (2, .int v_2677), (0, .ref ob), (1, .int a1)]) ?_ (fun J_156_2911 => ?_)
                · rintro H locs ls st ⟨v_2909, f_2910, f_2911, bf_2910, rfl, ⟨hP, hD⟩, hS, hl⟩
                  refine lv_istore (lv' := [(10, .int v_2909), (3, .int v_2676), (2, .int v_2677), (0, .ref ob), (1, .int a1)]) hx hb dX10_done_156 hl (by decide) rfl (fun ls hl => ?_)
                  refine lv_iload_n hx hb dX10_done_158 rfl (lv_at hl 2 rfl) ?_
                  refine lv_iload hx hb dX10_done_159 (lv_at hl 0 rfl) ?_
                  refine cutW 169 (fun H locs ls st => ∃ (v_2913 : Int32), ((0 : Int) ≤ v_2913.toInt ∧ v_2913.toInt ≤ 1) ∧ st = [.int v_2913, .int v_2677] ∧ vPD G A H [(ce_X10 ob ob_thrown ob_world ob_images ob_hasImage ob_tape ob_taped ob_five ob_size ob_at ob_from ob_token ob_value ob_faultKind ob_faultPlace ob_fresh ob_parts ob_houses ob_houseMany ob_worthOf ob_byCall ob_over ob_bestSet ob_bestOver ob_bestWorth ob_row ob_tenDebts ob_tenMany ob_fewestBy ob_covered ob_queue ob_cameBy ob_parent ob_met ob_calls ob_callMany ob_calledOn ob_saved ob_many ob_width ob_numbers ob_moving), (ce_i9080 y ob_world f_2910), (ce_i6 y ob_parts f_2911), (ce_i4 y ob_many fob_many), (ce_l240 y ob_numbers fob_numbers)] ∧ va_S A s.heap H locs ∧ lv_has ls 11 [(3, .int v_2676), (0, .ref ob), (1, .int a1)]) ?_ (fun J_169_2913 => ?_)
                  · rintro H locs ls st ⟨v_2913, bv_2913, rfl, ⟨hP, hD⟩, hS, hl⟩
                    refine lv_iadd hx hb dX10_done_169 ?_
                    refine lv_topi (fun v_2914 ev_2914 => ?_)
                    refine lv_istore_n (lv' := [(2, .int v_2914), (3, .int v_2676), (0, .ref ob), (1, .int a1)]) hx hb dX10_done_170 rfl hl (by decide) rfl (fun ls hl => ?_)
                    exact J_171_2875 _ _ _ _ ⟨v_2914, f_2910, f_2911, bf_2910, rfl, ⟨hP, hD⟩, hS, lv_sub hl [1, 0, 2, 3] rfl⟩
                  · skip
                    refine lv_if_lt (tgt := 168) hx hb dX10_done_161 (by decide) (fun c_2915 => ?_) (fun c_2915 => ?_)
                    · skip
                      have nc_2915 := nb_lt (-1) (0) c_2915 (btop v_2909) (bkc (x := 0) (c := 0) (by decide)) (by decide)
                      refine lv_iconst (v := 0) hx hb dX10_done_168 (by decide) ?_
                      exact J_169_2913 _ _ _ _ ⟨0, (bw (0) (1) (bkc (x := 0) (c := 0) (by decide)) (by decide)), rfl, ⟨hP, hD⟩, hS, lv_sub hl [1, 3, 4] rfl⟩
                    · skip
                      have nc_2915 := nb_nlt (0) (0) c_2915 (bkc (x := 0) (c := 0) (by decide)) (btop v_2909) (by decide)
                      refine lv_iconst (v := 1) hx hb dX10_done_164 (by decide) ?_
                      refine lv_goto (tgt := 169) hx hb dX10_done_165 (by decide) ?_
                      exact J_169_2913 _ _ _ _ ⟨1, (bw (0) (1) (bkc (x := 1) (c := 1) (by decide)) (by decide)), rfl, ⟨hP, hD⟩, hS, lv_sub hl [1, 3, 4] rfl⟩
                · skip
                  refine lv_if_ne (tgt := 143) hx hb dX10_done_127 (by decide) (fun c_2916 => ?_) (fun c_2916 => ?_)
                  · skip
                    refine lv_aload_n hx hb dX10_done_143 rfl (lv_at hl 5 rfl) ?_
                    refine lv_lload hx hb dX10_done_144 (lv_at hl 2 rfl) ?_
                    refine lv_l2i hx hb dX10_done_146 rfl ?_
                    refine lv_topi (fun v_2917 ev_2917 => ?_)
                    have bv_2917 : (0 : Int) ≤ v_2917.toInt ∧ v_2917.toInt ≤ 16 := ba_l2i ev_2917 h_2882 (by decide)
                    refine lv_lload hx hb dX10_done_147 (lv_at hl 1 rfl) ?_
                    refine lv_l2i hx hb dX10_done_149 rfl ?_
                    refine lv_topi (fun v_2918 ev_2918 => ?_)
                    have bv_2918 : (0 : Int) ≤ v_2918.toInt ∧ v_2918.toInt ≤ 16 := ba_l2i ev_2918 h_2888 (by decide)
                    refine lv_lload hx hb dX10_done_150 (lv_at hl 0 rfl) ?_
                    refine lv_l2i hx hb dX10_done_152 rfl ?_
                    refine lv_topi (fun v_2919 ev_2919 => ?_)
                    have bv_2919 : (0 : Int) ≤ v_2919.toInt ∧ v_2919.toInt ≤ 4 := ba_l2i ev_2919 h_2894 (by decide)
                    refine cVim (As := [.int v_2917, .int v_2918, .int v_2919]) (rest := []) ⟨hx, hb, hml, hown, hw0⟩ hA hK hP hD hS [true, true, true] (sX10_does l G y _ ob v_2917 v_2918 v_2919 ob_thrown ob_world ob_images ob_hasImage ob_tape ob_taped ob_five ob_size ob_at ob_from ob_token ob_value ob_faultKind ob_faultPlace ob_fresh ob_parts ob_houses ob_houseMany ob_worthOf ob_byCall ob_over ob_bestSet ob_bestOver ob_bestWorth ob_row ob_tenDebts ob_tenMany ob_fewestBy ob_covered ob_queue ob_cameBy ob_parent ob_met ob_calls ob_callMany ob_calledOn ob_saved ob_many ob_width ob_numbers ob_moving f_2678 f_2679 bf_2678 p_ob_taped p_ob_size p_ob_at p_ob_from p_ob_token p_ob_value p_ob_faultKind p_ob_houseMany p_ob_bestSet p_ob_bestOver p_ob_tenMany p_ob_callMany) rfl ⟨(callB_of 3 hw0 (gA m_428) rfl rfl rfl (hw0 _ m_41) (hw0 _ m_439) cb_X10_does ⟨Nat.le_of_ble_eq_true rfl, Nat.le_of_ble_eq_true rfl⟩), (hw0 _ m_84), (hw0 _ m_85)⟩ (ci := 10) (q := (RX10, TX10, 41)) rfl rfl rfl hl.1 (Nat.le_of_ble_eq_true rfl) dX10_done_153 ⟨Nat.le_of_ble_eq_true rfl, Nat.le_of_ble_eq_true rfl⟩ (fun r_2920 w_2920 H locs hw_2920 hP hD hS => ?_)
                    obtain ⟨v_2921, f_2922, f_2923, bf_2922, er_2920, rfl⟩ := hw_2920
                    subst r_2920
                    obtain ⟨hP, hD⟩ : vPD G A H [(ce_X10 ob ob_thrown ob_world ob_images ob_hasImage ob_tape ob_taped ob_five ob_size ob_at ob_from ob_token ob_value ob_faultKind ob_faultPlace ob_fresh ob_parts ob_houses ob_houseMany ob_worthOf ob_byCall ob_over ob_bestSet ob_bestOver ob_bestWorth ob_row ob_tenDebts ob_tenMany ob_fewestBy ob_covered ob_queue ob_cameBy ob_parent ob_met ob_calls ob_callMany ob_calledOn ob_saved ob_many ob_width ob_numbers ob_moving), (ce_i9080 y ob_world f_2922), (ce_i6 y ob_parts f_2923), (ce_i4 y ob_many fob_many), (ce_l240 y ob_numbers fob_numbers)] := ⟨hP, hD⟩
                    exact J_156_2911 _ _ _ _ ⟨v_2921, f_2922, f_2923, bf_2922, rfl, ⟨hP, hD⟩, hS, lv_sub hl [3, 4, 5, 6] rfl⟩
                  · skip
                    refine lv_aload_n hx hb dX10_done_130 rfl (lv_at hl 5 rfl) ?_
                    refine lv_lload hx hb dX10_done_131 (lv_at hl 2 rfl) ?_
                    refine lv_l2i hx hb dX10_done_133 rfl ?_
                    refine lv_topi (fun v_2924 ev_2924 => ?_)
                    have bv_2924 : (0 : Int) ≤ v_2924.toInt ∧ v_2924.toInt ≤ 16 := ba_l2i ev_2924 h_2882 (by decide)
                    refine lv_lload hx hb dX10_done_134 (lv_at hl 1 rfl) ?_
                    refine lv_l2i hx hb dX10_done_136 rfl ?_
                    refine lv_topi (fun v_2925 ev_2925 => ?_)
                    have bv_2925 : (0 : Int) ≤ v_2925.toInt ∧ v_2925.toInt ≤ 16 := ba_l2i ev_2925 h_2888 (by decide)
                    refine cVim (As := [.int v_2924, .int v_2925]) (rest := []) ⟨hx, hb, hml, hown, hw0⟩ hA hK hP hD hS [true, true, true] (sX10_meet l G y _ ob v_2924 v_2925 ob_thrown ob_world ob_images ob_hasImage ob_tape ob_taped ob_five ob_size ob_at ob_from ob_token ob_value ob_faultKind ob_faultPlace ob_fresh ob_parts ob_houses ob_houseMany ob_worthOf ob_byCall ob_over ob_bestSet ob_bestOver ob_bestWorth ob_row ob_tenDebts ob_tenMany ob_fewestBy ob_covered ob_queue ob_cameBy ob_parent ob_met ob_calls ob_callMany ob_calledOn ob_saved ob_many ob_width ob_numbers ob_moving f_2678 f_2679 bf_2678 p_ob_taped p_ob_size p_ob_at p_ob_from p_ob_token p_ob_value p_ob_faultKind p_ob_houseMany p_ob_bestSet p_ob_bestOver p_ob_tenMany p_ob_callMany) rfl ⟨(callB_of 2 hw0 (gA m_558) rfl rfl rfl (hw0 _ m_41) (hw0 _ m_438) cb_X10_meet ⟨Nat.le_of_ble_eq_true rfl, Nat.le_of_ble_eq_true rfl⟩), (hw0 _ m_90), (hw0 _ m_91)⟩ (ci := 10) (q := (RX10, TX10, 41)) rfl rfl rfl hl.1 (Nat.le_of_ble_eq_true rfl) dX10_done_137 ⟨Nat.le_of_ble_eq_true rfl, Nat.le_of_ble_eq_true rfl⟩ (fun r_2926 w_2926 H locs hw_2926 hP hD hS => ?_)
                    obtain ⟨v_2927, f_2928, f_2929, bv_2927, bf_2928, er_2926, rfl⟩ := hw_2926
                    subst r_2926
                    obtain ⟨hP, hD⟩ : vPD G A H [(ce_X10 ob ob_thrown ob_world ob_images ob_hasImage ob_tape ob_taped ob_five ob_size ob_at ob_from ob_token ob_value ob_faultKind ob_faultPlace ob_fresh ob_parts ob_houses ob_houseMany ob_worthOf ob_byCall ob_over ob_bestSet ob_bestOver ob_bestWorth ob_row ob_tenDebts ob_tenMany ob_fewestBy ob_covered ob_queue ob_cameBy ob_parent ob_met ob_calls ob_callMany ob_calledOn ob_saved ob_many ob_width ob_numbers ob_moving), (ce_i9080 y ob_world f_2928), (ce_i6 y ob_parts f_2929), (ce_i4 y ob_many fob_many), (ce_l240 y ob_numbers fob_numbers)] := ⟨hP, hD⟩
                    refine lv_goto (tgt := 156) hx hb dX10_done_140 (by decide) ?_
                    exact J_156_2911 _ _ _ _ ⟨v_2927, f_2928, f_2929, bf_2928, rfl, ⟨hP, hD⟩, hS, lv_sub hl [3, 4, 5, 6] rfl⟩
    · skip
      have nc_1004 := nb_eq (-1) (-1) c_1004 bv_1003 (bkc (x := (-1)) (c := -1) (by decide)) (by decide)
      refine lv_bipush (v := (-6)) hx hb dX10_done_20 (by decide) ?_
      exact W.iret (v := (-6)) hx hb hr (fun t ht hW => ⟨⟨(-6), _, rfl, ⟨(-6), fob_world, fob_parts, p_fob_world, rfl, rfl⟩, by rw [ht]; exact hP, hD⟩, hS.F ht⟩) hS.2.2 dX10_done_22

set_option maxHeartbeats 4000000 in
set_option maxRecDepth 100000 in
theorem sX10_owes (l : Launch) (G : va_G) (y : Nat → ClassId) (sz : Nat) (ob : Nat) (a1 : Int32) (a2 : Int32) (a3 : Int32) (ob_thrown : Int32) (ob_world : Nat) (ob_images : Nat) (ob_hasImage : Nat) (ob_tape : Nat) (ob_taped : Int32) (ob_five : Nat) (ob_size : Int32) (ob_at : Int32) (ob_from : Int32) (ob_token : Int32) (ob_value : Int32) (ob_faultKind : Int32) (ob_faultPlace : Int32) (ob_fresh : Nat) (ob_parts : Nat) (ob_houses : Nat) (ob_houseMany : Int32) (ob_worthOf : Nat) (ob_byCall : Nat) (ob_over : Nat) (ob_bestSet : Int32) (ob_bestOver : Int32) (ob_bestWorth : Int32) (ob_row : Nat) (ob_tenDebts : Nat) (ob_tenMany : Int32) (ob_fewestBy : Nat) (ob_covered : Nat) (ob_queue : Nat) (ob_cameBy : Nat) (ob_parent : Nat) (ob_met : Nat) (ob_calls : Nat) (ob_callMany : Int32) (ob_calledOn : Nat) (ob_saved : Nat) (ob_many : Nat) (ob_width : Nat) (ob_numbers : Nat) (ob_moving : Nat) (fob_world : Nat → Int32) (fob_parts : Nat → Int32) (p_fob_world : RWw fob_world) (p_ob_taped : (0 : Int) ≤ ob_taped.toInt ∧ ob_taped.toInt ≤ 1400) (p_ob_size : (0 : Int) ≤ ob_size.toInt ∧ ob_size.toInt ≤ 1400) (p_ob_at : (0 : Int) ≤ ob_at.toInt ∧ ob_at.toInt ≤ 1400) (p_ob_from : (0 : Int) ≤ ob_from.toInt ∧ ob_from.toInt ≤ 1400) (p_ob_token : (0 : Int) ≤ ob_token.toInt ∧ ob_token.toInt ≤ 4) (p_ob_value : (0 : Int) ≤ ob_value.toInt ∧ ob_value.toInt ≤ 9999) (p_ob_faultKind : (0 : Int) ≤ ob_faultKind.toInt ∧ ob_faultKind.toInt ≤ 3) (p_ob_houseMany : (0 : Int) ≤ ob_houseMany.toInt ∧ ob_houseMany.toInt ≤ 10) (p_ob_bestSet : (0 : Int) ≤ ob_bestSet.toInt ∧ ob_bestSet.toInt ≤ 1023) (p_ob_bestOver : (-1 : Int) ≤ ob_bestOver.toInt ∧ ob_bestOver.toInt ≤ 180) (p_ob_tenMany : (0 : Int) ≤ ob_tenMany.toInt ∧ ob_tenMany.toInt ≤ 10) (p_ob_callMany : (0 : Int) ≤ ob_callMany.toInt ∧ ob_callMany.toInt ≤ 16) : Met l yX10_owes (Cond.code yX10_owes cX10_owes 6 (some .int) :: wAll) ({ frames := 3, cells := 0, slots := 0, locals := 84 }) (va_Pc [.ref ob, .int a1, .int a2, .int a3] (kp G y sz [(ce_X10 ob ob_thrown ob_world ob_images ob_hasImage ob_tape ob_taped ob_five ob_size ob_at ob_from ob_token ob_value ob_faultKind ob_faultPlace ob_fresh ob_parts ob_houses ob_houseMany ob_worthOf ob_byCall ob_over ob_bestSet ob_bestOver ob_bestWorth ob_row ob_tenDebts ob_tenMany ob_fewestBy ob_covered ob_queue ob_cameBy ob_parent ob_met ob_calls ob_callMany ob_calledOn ob_saved ob_many ob_width ob_numbers ob_moving), (ce_i9080 y ob_world fob_world), (ce_i6 y ob_parts fob_parts)])) (va_Qi (fun (r : Int32) (w : va_W) => (∃ (v_79 : Int32) (f_80 : Nat → Int32), r = v_79 ∧ w = [(ce_X10 ob ob_thrown ob_world ob_images ob_hasImage ob_tape ob_taped ob_five ob_size ob_at ob_from ob_token ob_value ob_faultKind ob_faultPlace ob_fresh ob_parts ob_houses ob_houseMany ob_worthOf ob_byCall ob_over ob_bestSet ob_bestOver ob_bestWorth ob_row ob_tenDebts ob_tenMany ob_fewestBy ob_covered ob_queue ob_cameBy ob_parent ob_met ob_calls ob_callMany ob_calledOn ob_saved ob_many ob_width ob_numbers ob_moving), (ce_i9080 y ob_world fob_world), (ce_i6 y ob_parts f_80)])) (kq G (va_A [(ce_X10 ob ob_thrown ob_world ob_images ob_hasImage ob_tape ob_taped ob_five ob_size ob_at ob_from ob_token ob_value ob_faultKind ob_faultPlace ob_fresh ob_parts ob_houses ob_houseMany ob_worthOf ob_byCall ob_over ob_bestSet ob_bestOver ob_bestWorth ob_row ob_tenDebts ob_tenMany ob_fewestBy ob_covered ob_queue ob_cameBy ob_parent ob_met ob_calls ob_callMany ob_calledOn ob_saved ob_many ob_width ob_numbers ob_moving), (ce_i9080 y ob_world fob_world), (ce_i6 y ob_parts fob_parts)] sz)) (va_A [(ce_X10 ob ob_thrown ob_world ob_images ob_hasImage ob_tape ob_taped ob_five ob_size ob_at ob_from ob_token ob_value ob_faultKind ob_faultPlace ob_fresh ob_parts ob_houses ob_houseMany ob_worthOf ob_byCall ob_over ob_bestSet ob_bestOver ob_bestWorth ob_row ob_tenDebts ob_tenMany ob_fewestBy ob_covered ob_queue ob_cameBy ob_parent ob_met ob_calls ob_callMany ob_calledOn ob_saved ob_many ob_width ob_numbers ob_moving), (ce_i9080 y ob_world fob_world), (ce_i6 y ob_parts fob_parts)] sz)) 0 0 (va_A [(ce_X10 ob ob_thrown ob_world ob_images ob_hasImage ob_tape ob_taped ob_five ob_size ob_at ob_from ob_token ob_value ob_faultKind ob_faultPlace ob_fresh ob_parts ob_houses ob_houseMany ob_worthOf ob_byCall ob_over ob_bestSet ob_bestOver ob_bestWorth ob_row ob_tenDebts ob_tenMany ob_fewestBy ob_covered ob_queue ob_cameBy ob_parent ob_met ob_calls ob_callMany ob_calledOn ob_saved ob_many ob_width ob_numbers ob_moving), (ce_i9080 y ob_world fob_world), (ce_i6 y ob_parts fob_parts)] sz) := by
  refine Met.ofW (cc := cX10_owes) (maxL := 6) (ret := (some .int)) (by decide) rfl ?_
  intro p e s m args below meth c s₁ B hml hv
  obtain ⟨rfl, hsz, hP, hK, hD0⟩ := hv
  have hx := B.exec
  have hb := B.bytes
  have hr := B.returns
  have hw0 : ∀ w ∈ wAll, w.before _ s = true := fun w h => atoms_spec (ws := Cond.code yX10_owes cX10_owes 6 (some .int) :: wAll) B.pre w (List.mem_cons_of_mem _ h)
  have hown : s.vm.findClass RX10 = some m.cls := findClass_of_methodNamed B.named
  subst hsz
  have hD := hD0.self (sz := s.heap.size)
  generalize hAe : va_A [(ce_X10 ob ob_thrown ob_world ob_images ob_hasImage ob_tape ob_taped ob_five ob_size ob_at ob_from ob_token ob_value ob_faultKind ob_faultPlace ob_fresh ob_parts ob_houses ob_houseMany ob_worthOf ob_byCall ob_over ob_bestSet ob_bestOver ob_bestWorth ob_row ob_tenDebts ob_tenMany ob_fewestBy ob_covered ob_queue ob_cameBy ob_parent ob_met ob_calls ob_callMany ob_calledOn ob_saved ob_many ob_width ob_numbers ob_moving), (ce_i9080 y ob_world fob_world), (ce_i6 y ob_parts fob_parts)] s.heap.size = A at hD ⊢
  have hA : ∀ q : Nat, s.heap.size ≤ q → A q := fun q h => by rw [← hAe]; exact Or.inr h
  have hS : va_S A s.heap s.heap [] := va_S.rf
  have hP : va_P G vwCl [(ce_X10 ob ob_thrown ob_world ob_images ob_hasImage ob_tape ob_taped ob_five ob_size ob_at ob_from ob_token ob_value ob_faultKind ob_faultPlace ob_fresh ob_parts ob_houses ob_houseMany ob_worthOf ob_byCall ob_over ob_bestSet ob_bestOver ob_bestWorth ob_row ob_tenDebts ob_tenMany ob_fewestBy ob_covered ob_queue ob_cameBy ob_parent ob_met ob_calls ob_callMany ob_calledOn ob_saved ob_many ob_width ob_numbers ob_moving), (ce_i9080 y ob_world fob_world), (ce_i6 y ob_parts fob_parts)] s.heap := hP
  have hl := lv_entry ([.ref ob, .int a1, .int a2, .int a3]) (n := 6) (Nat.le_of_ble_eq_true rfl)
  rw [lg_entry_eq]
  generalize (lg_sl ([.ref ob, .int a1, .int a2, .int a3]) ++ List.replicate (6 - (lg_sl ([.ref ob, .int a1, .int a2, .int a3])).length) Slot.unset).toArray = ls at hl ⊢
  have hl : lv_has ls 6 [(0, .ref ob), (1, .int a1), (2, .int a2), (3, .int a3)] := hl
  refine lv_aload_n hx hb dX10_owes_0 rfl (lv_at hl 0 rfl) ?_
  refine lv_iload_n hx hb dX10_owes_1 rfl (lv_at hl 1 rfl) ?_
  refine lv_iload_n hx hb dX10_owes_2 rfl (lv_at hl 2 rfl) ?_
  refine cutW 16 (fun H locs ls st => st = [] ∧ vPD G A H [(ce_X10 ob ob_thrown ob_world ob_images ob_hasImage ob_tape ob_taped ob_five ob_size ob_at ob_from ob_token ob_value ob_faultKind ob_faultPlace ob_fresh ob_parts ob_houses ob_houseMany ob_worthOf ob_byCall ob_over ob_bestSet ob_bestOver ob_bestWorth ob_row ob_tenDebts ob_tenMany ob_fewestBy ob_covered ob_queue ob_cameBy ob_parent ob_met ob_calls ob_callMany ob_calledOn ob_saved ob_many ob_width ob_numbers ob_moving), (ce_i9080 y ob_world fob_world), (ce_i6 y ob_parts fob_parts)] ∧ va_S A s.heap H locs ∧ lv_has ls 6 []) ?_ (fun J_16_1005 => ?_)
  · rintro H locs ls st ⟨rfl, ⟨hP, hD⟩, hS, hl⟩
    refine lv_bipush (v := (-2)) hx hb dX10_owes_16 (by decide) ?_
    exact W.iret (v := (-2)) hx hb hr (fun t ht hW => ⟨⟨(-2), _, rfl, ⟨(-2), fob_parts, rfl, rfl⟩, by rw [ht]; exact hP, hD⟩, hS.F ht⟩) hS.2.2 dX10_owes_18
  · skip
    refine cVim (As := [.int a1, .int a2]) (rest := []) ⟨hx, hb, hml, hown, hw0⟩ hA hK hP hD hS [true, true] (sX10_areTwo l G y _ ob a1 a2 ob_thrown ob_world ob_images ob_hasImage ob_tape ob_taped ob_five ob_size ob_at ob_from ob_token ob_value ob_faultKind ob_faultPlace ob_fresh ob_parts ob_houses ob_houseMany ob_worthOf ob_byCall ob_over ob_bestSet ob_bestOver ob_bestWorth ob_row ob_tenDebts ob_tenMany ob_fewestBy ob_covered ob_queue ob_cameBy ob_parent ob_met ob_calls ob_callMany ob_calledOn ob_saved ob_many ob_width ob_numbers ob_moving fob_world p_fob_world p_ob_taped p_ob_size p_ob_at p_ob_from p_ob_token p_ob_value p_ob_faultKind p_ob_houseMany p_ob_bestSet p_ob_bestOver p_ob_tenMany p_ob_callMany) rfl ⟨(callB_of 2 hw0 (gA m_355) rfl rfl rfl (hw0 _ m_41) (hw0 _ m_364) cb_X10_areTwo ⟨Nat.le_of_ble_eq_true rfl, Nat.le_of_ble_eq_true rfl⟩), (hw0 _ m_365), (hw0 _ m_366)⟩ (ci := 10) (q := (RX10, TX10, 41)) rfl rfl rfl hl.1 (Nat.le_of_ble_eq_true rfl) dX10_owes_3 ⟨Nat.le_of_ble_eq_true rfl, Nat.le_of_ble_eq_true rfl⟩ (fun r_1006 w_1006 H locs hw_1006 hP hD hS => ?_)
    rcases hw_1006 with ⟨rfl, rfl⟩ | ⟨h_1007, h_1008, rfl, rfl⟩
    · skip
      obtain ⟨hP, hD⟩ : vPD G A H [(ce_X10 ob ob_thrown ob_world ob_images ob_hasImage ob_tape ob_taped ob_five ob_size ob_at ob_from ob_token ob_value ob_faultKind ob_faultPlace ob_fresh ob_parts ob_houses ob_houseMany ob_worthOf ob_byCall ob_over ob_bestSet ob_bestOver ob_bestWorth ob_row ob_tenDebts ob_tenMany ob_fewestBy ob_covered ob_queue ob_cameBy ob_parent ob_met ob_calls ob_callMany ob_calledOn ob_saved ob_many ob_width ob_numbers ob_moving), (ce_i9080 y ob_world fob_world), (ce_i6 y ob_parts fob_parts)] := ⟨hP, hD⟩
      refine lv_if_eq (tgt := 16) hx hb dX10_owes_6 (by decide) (fun _ => ?_) (fun c9 => absurd (by decide) c9)
      exact J_16_1005 _ _ _ _ ⟨rfl, ⟨hP, hD⟩, hS, lv_sub hl [] rfl⟩
    · skip
      obtain ⟨hP, hD⟩ : vPD G A H [(ce_X10 ob ob_thrown ob_world ob_images ob_hasImage ob_tape ob_taped ob_five ob_size ob_at ob_from ob_token ob_value ob_faultKind ob_faultPlace ob_fresh ob_parts ob_houses ob_houseMany ob_worthOf ob_byCall ob_over ob_bestSet ob_bestOver ob_bestWorth ob_row ob_tenDebts ob_tenMany ob_fewestBy ob_covered ob_queue ob_cameBy ob_parent ob_met ob_calls ob_callMany ob_calledOn ob_saved ob_many ob_width ob_numbers ob_moving), (ce_i9080 y ob_world fob_world), (ce_i6 y ob_parts fob_parts)] := ⟨hP, hD⟩
      refine lv_if_eq (tgt := 16) hx hb dX10_owes_6 (by decide) (fun c9 => absurd c9 (by decide)) (fun _ => ?_)
      refine lv_iload_n hx hb dX10_owes_9 rfl (lv_at hl 3 rfl) ?_
      refine cSim (As := [.int a3]) (rest := []) ⟨hx, hb, hml, hown, hw0⟩ hA hK hP hD hS [] (sX10_isPaying l G y _ a3 ) rfl ⟨(callB_of 1 hw0 (gA m_540) rfl rfl rfl (hw0 _ m_41) (hw0 _ m_367) cb_X10_isPaying ⟨Nat.le_of_ble_eq_true rfl, Nat.le_of_ble_eq_true rfl⟩), (hw0 _ m_368)⟩ rfl hl.1 (Nat.le_of_ble_eq_true rfl) dX10_owes_10 ⟨Nat.le_of_ble_eq_true rfl, Nat.le_of_ble_eq_true rfl⟩ (fun r_1009 w_1009 H locs hw_1009 hP hD hS => ?_)
      rcases hw_1009 with ⟨rfl, rfl⟩ | ⟨h_1010, rfl, rfl⟩
      · skip
        obtain ⟨hP, hD⟩ : vPD G A H [(ce_X10 ob ob_thrown ob_world ob_images ob_hasImage ob_tape ob_taped ob_five ob_size ob_at ob_from ob_token ob_value ob_faultKind ob_faultPlace ob_fresh ob_parts ob_houses ob_houseMany ob_worthOf ob_byCall ob_over ob_bestSet ob_bestOver ob_bestWorth ob_row ob_tenDebts ob_tenMany ob_fewestBy ob_covered ob_queue ob_cameBy ob_parent ob_met ob_calls ob_callMany ob_calledOn ob_saved ob_many ob_width ob_numbers ob_moving), (ce_i9080 y ob_world fob_world), (ce_i6 y ob_parts fob_parts)] := ⟨hP, hD⟩
        refine lv_if_ne (tgt := 19) hx hb dX10_owes_13 (by decide) (fun c9 => absurd (by decide) c9) (fun _ => ?_)
        exact J_16_1005 _ _ _ _ ⟨rfl, ⟨hP, hD⟩, hS, lv_sub hl [] rfl⟩
      · skip
        obtain ⟨hP, hD⟩ : vPD G A H [(ce_X10 ob ob_thrown ob_world ob_images ob_hasImage ob_tape ob_taped ob_five ob_size ob_at ob_from ob_token ob_value ob_faultKind ob_faultPlace ob_fresh ob_parts ob_houses ob_houseMany ob_worthOf ob_byCall ob_over ob_bestSet ob_bestOver ob_bestWorth ob_row ob_tenDebts ob_tenMany ob_fewestBy ob_covered ob_queue ob_cameBy ob_parent ob_met ob_calls ob_callMany ob_calledOn ob_saved ob_many ob_width ob_numbers ob_moving), (ce_i9080 y ob_world fob_world), (ce_i6 y ob_parts fob_parts)] := ⟨hP, hD⟩
        refine lv_if_ne (tgt := 19) hx hb dX10_owes_13 (by decide) (fun _ => ?_) (fun c9 => absurd c9 (by decide))
        refine lv_aload_n hx hb dX10_owes_19 rfl (lv_at hl 0 rfl) ?_
        refine lv_iload_n hx hb dX10_owes_20 rfl (lv_at hl 1 rfl) ?_
        refine lv_iload_n hx hb dX10_owes_21 rfl (lv_at hl 2 rfl) ?_
        refine lv_iload_n hx hb dX10_owes_22 rfl (lv_at hl 3 rfl) ?_
        refine lv_aload_n hx hb dX10_owes_23 rfl (lv_at hl 0 rfl) ?_
        refine lv_iload_n hx hb dX10_owes_24 rfl (lv_at hl 1 rfl) ?_
        refine lv_iload_n hx hb dX10_owes_25 rfl (lv_at hl 2 rfl) ?_
        refine cVim (As := [.int a1, .int a2]) (rest := [.int a3, .int a2, .int a1, .ref ob]) ⟨hx, hb, hml, hown, hw0⟩ hA hK hP hD hS [true, true] (sX10_areKnown l G y _ ob a1 a2 ob_thrown ob_world ob_images ob_hasImage ob_tape ob_taped ob_five ob_size ob_at ob_from ob_token ob_value ob_faultKind ob_faultPlace ob_fresh ob_parts ob_houses ob_houseMany ob_worthOf ob_byCall ob_over ob_bestSet ob_bestOver ob_bestWorth ob_row ob_tenDebts ob_tenMany ob_fewestBy ob_covered ob_queue ob_cameBy ob_parent ob_met ob_calls ob_callMany ob_calledOn ob_saved ob_many ob_width ob_numbers ob_moving fob_world p_fob_world p_ob_taped p_ob_size p_ob_at p_ob_from p_ob_token p_ob_value p_ob_faultKind p_ob_houseMany p_ob_bestSet p_ob_bestOver p_ob_tenMany p_ob_callMany h_1007 h_1008) rfl ⟨(callB_of 2 hw0 (gA m_351) rfl rfl rfl (hw0 _ m_41) (hw0 _ m_379) cb_X10_areKnown ⟨Nat.le_of_ble_eq_true rfl, Nat.le_of_ble_eq_true rfl⟩), (hw0 _ m_380), (hw0 _ m_381)⟩ (ci := 10) (q := (RX10, TX10, 41)) rfl rfl rfl hl.1 (Nat.le_of_ble_eq_true rfl) dX10_owes_26 ⟨Nat.le_of_ble_eq_true rfl, Nat.le_of_ble_eq_true rfl⟩ (fun r_1011 w_1011 H locs hw_1011 hP hD hS => ?_)
        rcases hw_1011 with ⟨rfl, rfl⟩ | ⟨rfl, rfl⟩
        · skip
          obtain ⟨hP, hD⟩ : vPD G A H [(ce_X10 ob ob_thrown ob_world ob_images ob_hasImage ob_tape ob_taped ob_five ob_size ob_at ob_from ob_token ob_value ob_faultKind ob_faultPlace ob_fresh ob_parts ob_houses ob_houseMany ob_worthOf ob_byCall ob_over ob_bestSet ob_bestOver ob_bestWorth ob_row ob_tenDebts ob_tenMany ob_fewestBy ob_covered ob_queue ob_cameBy ob_parent ob_met ob_calls ob_callMany ob_calledOn ob_saved ob_many ob_width ob_numbers ob_moving), (ce_i9080 y ob_world fob_world), (ce_i6 y ob_parts fob_parts)] := ⟨hP, hD⟩
          refine lv_aload_n hx hb dX10_owes_29 rfl (lv_at hl 0 rfl) ?_
          refine cVim (As := []) (rest := [.int 0, .int a3, .int a2, .int a1, .ref ob]) ⟨hx, hb, hml, hown, hw0⟩ hA hK hP hD hS [true, true] (sX10_today l G y _ ob ob_thrown ob_world ob_images ob_hasImage ob_tape ob_taped ob_five ob_size ob_at ob_from ob_token ob_value ob_faultKind ob_faultPlace ob_fresh ob_parts ob_houses ob_houseMany ob_worthOf ob_byCall ob_over ob_bestSet ob_bestOver ob_bestWorth ob_row ob_tenDebts ob_tenMany ob_fewestBy ob_covered ob_queue ob_cameBy ob_parent ob_met ob_calls ob_callMany ob_calledOn ob_saved ob_many ob_width ob_numbers ob_moving fob_world p_fob_world p_ob_taped p_ob_size p_ob_at p_ob_from p_ob_token p_ob_value p_ob_faultKind p_ob_houseMany p_ob_bestSet p_ob_bestOver p_ob_tenMany p_ob_callMany) rfl ⟨(callB_of 0 hw0 (gA m_689) rfl rfl rfl (hw0 _ m_41) (hw0 _ m_373) cb_X10_today ⟨Nat.le_of_ble_eq_true rfl, Nat.le_of_ble_eq_true rfl⟩), (hw0 _ m_374), (hw0 _ m_375)⟩ (ci := 10) (q := (RX10, TX10, 41)) rfl rfl rfl hl.1 (Nat.le_of_ble_eq_true rfl) dX10_owes_30 ⟨Nat.le_of_ble_eq_true rfl, Nat.le_of_ble_eq_true rfl⟩ (fun r_1012 w_1012 H locs hw_1012 hP hD hS => ?_)
          obtain ⟨v_1013, bv_1013, h_1014, er_1012, rfl⟩ := hw_1012
          subst r_1012
          obtain ⟨hP, hD⟩ : vPD G A H [(ce_X10 ob ob_thrown ob_world ob_images ob_hasImage ob_tape ob_taped ob_five ob_size ob_at ob_from ob_token ob_value ob_faultKind ob_faultPlace ob_fresh ob_parts ob_houses ob_houseMany ob_worthOf ob_byCall ob_over ob_bestSet ob_bestOver ob_bestWorth ob_row ob_tenDebts ob_tenMany ob_fewestBy ob_covered ob_queue ob_cameBy ob_parent ob_met ob_calls ob_callMany ob_calledOn ob_saved ob_many ob_width ob_numbers ob_moving), (ce_i9080 y ob_world fob_world), (ce_i6 y ob_parts fob_parts)] := ⟨hP, hD⟩
          refine cVim (As := [.int a1, .int a2, .int a3, .int 0, .int v_1013]) (rest := []) ⟨hx, hb, hml, hown, hw0⟩ hA hK hP hD hS [true, true, true] (sX10_lineFor l G y _ ob a1 a2 a3 0 v_1013 ob_thrown ob_world ob_images ob_hasImage ob_tape ob_taped ob_five ob_size ob_at ob_from ob_token ob_value ob_faultKind ob_faultPlace ob_fresh ob_parts ob_houses ob_houseMany ob_worthOf ob_byCall ob_over ob_bestSet ob_bestOver ob_bestWorth ob_row ob_tenDebts ob_tenMany ob_fewestBy ob_covered ob_queue ob_cameBy ob_parent ob_met ob_calls ob_callMany ob_calledOn ob_saved ob_many ob_width ob_numbers ob_moving fob_world fob_parts p_fob_world p_ob_taped p_ob_size p_ob_at p_ob_from p_ob_token p_ob_value p_ob_faultKind p_ob_houseMany p_ob_bestSet p_ob_bestOver p_ob_tenMany p_ob_callMany h_1007 h_1008 (bw (0) (1) (bkc (x := 0) (c := 0) (by decide)) (by decide))) rfl ⟨(callB_of 5 hw0 (gA m_547) rfl rfl rfl (hw0 _ m_41) (hw0 _ m_496) cb_X10_lineFor ⟨Nat.le_of_ble_eq_true rfl, Nat.le_of_ble_eq_true rfl⟩), (hw0 _ m_497), (hw0 _ m_498)⟩ (ci := 10) (q := (RX10, TX10, 41)) rfl rfl rfl hl.1 (Nat.le_of_ble_eq_true rfl) dX10_owes_33 ⟨Nat.le_of_ble_eq_true rfl, Nat.le_of_ble_eq_true rfl⟩ (fun r_1015 w_1015 H locs hw_1015 hP hD hS => ?_)
          obtain ⟨v_1016, f_1017, bv_1016, er_1015, rfl⟩ := hw_1015
          subst r_1015
          obtain ⟨hP, hD⟩ : vPD G A H [(ce_X10 ob ob_thrown ob_world ob_images ob_hasImage ob_tape ob_taped ob_five ob_size ob_at ob_from ob_token ob_value ob_faultKind ob_faultPlace ob_fresh ob_parts ob_houses ob_houseMany ob_worthOf ob_byCall ob_over ob_bestSet ob_bestOver ob_bestWorth ob_row ob_tenDebts ob_tenMany ob_fewestBy ob_covered ob_queue ob_cameBy ob_parent ob_met ob_calls ob_callMany ob_calledOn ob_saved ob_many ob_width ob_numbers ob_moving), (ce_i9080 y ob_world fob_world), (ce_i6 y ob_parts f_1017)] := ⟨hP, hD⟩
          refine lv_istore (lv' := [(4, .int v_1016), (0, .ref ob), (1, .int a1), (2, .int a2), (3, .int a3)]) hx hb dX10_owes_36 hl (by decide) rfl (fun ls hl => ?_)
          refine lv_iload hx hb dX10_owes_38 (lv_at hl 0 rfl) ?_
          refine lv_iconst (v := (-1)) hx hb dX10_owes_40 (by decide) ?_
          refine lv_icmp_ne (tgt := 46) hx hb dX10_owes_41 (by decide) (fun c_1018 => ?_) (fun c_1018 => ?_)
          · skip
            have nc_1018 := nb_ne (0) (23) c_1018 bv_1016 (k := -1) (by decide) (by decide)
            refine lv_aload_n hx hb dX10_owes_46 rfl (lv_at hl 1 rfl) ?_
            refine va_get (D := G) (ci := 10) (v := .ref ob_world) (C := RX10) (T := TX10) (N := 41) hx hb hw0 inA_wsX100 hown hK.1 hP 0 rfl rfl 1 (by decide) (hw0 _ m_352) (fun _ h9 => h9) rfl dX10_owes_47 ?_
            refine lv_sipush (v := 154) hx hb dX10_owes_50 (by decide) ?_
            refine lv_iconst (v := 5) hx hb dX10_owes_53 (by decide) ?_
            refine lv_iload hx hb dX10_owes_54 (lv_at hl 0 rfl) ?_
            refine lv_imul hx hb dX10_owes_56 ?_
            refine lv_topi (fun v_1019 ev_1019 => ?_)
            have qv_1019 := ba_mul 5 (ev_1019.trans (Int32.mul_comm _ _)) nc_1018.1 (by decide) (by decide) (by decide)
            have bv_1019 : (0 : Int) ≤ v_1019.toInt ∧ v_1019.toInt ≤ 115 := qv_1019.2
            refine lv_iadd hx hb dX10_owes_57 ?_
            refine lv_topi (fun v_1020 ev_1020 => ?_)
            have qv_1020 := ba_add ev_1020 (bkc (x := 154) (c := 154) (by decide)) bv_1019 (by decide)
            have bv_1020 : (154 : Int) ≤ v_1020.toInt ∧ v_1020.toInt ≤ 269 := bq_add qv_1020 (bkc (x := 154) (c := 154) (by decide)) bv_1019 _ _ (by decide)
            have qv_1020 : v_1020.toInt = (154) + v_1019.toInt := qv_1020
            refine lv_iconst (v := 1) hx hb dX10_owes_58 (by decide) ?_
            refine lv_iadd hx hb dX10_owes_59 ?_
            refine lv_topi (fun v_1021 ev_1021 => ?_)
            have qv_1021 := ba_add ev_1021 bv_1020 (bkc (x := 1) (c := 1) (by decide)) (by decide)
            have bv_1021 : (155 : Int) ≤ v_1021.toInt ∧ v_1021.toInt ≤ 270 := bq_add qv_1021 bv_1020 (bkc (x := 1) (c := 1) (by decide)) _ _ (by decide)
            have qv_1021 : v_1021.toInt = v_1020.toInt + (1) := qv_1021
            refine va_iald hx hb hK.1 hP 1 1 rfl rfl (vi bv_1021 (by decide)) dX10_owes_60 ?_
            refine lv_topi (fun v_1022 ev_1022 => ?_)
            refine lv_istore (lv' := [(5, .int v_1022), (4, .int v_1016), (0, .ref ob), (1, .int a1), (2, .int a2), (3, .int a3)]) hx hb dX10_owes_61 hl (by decide) rfl (fun ls hl => ?_)
            refine lv_aload_n hx hb dX10_owes_63 rfl (lv_at hl 2 rfl) ?_
            refine lv_iload_n hx hb dX10_owes_64 rfl (lv_at hl 4 rfl) ?_
            refine lv_iload_n hx hb dX10_owes_65 rfl (lv_at hl 3 rfl) ?_
            refine lv_iload hx hb dX10_owes_66 (lv_at hl 0 rfl) ?_
            refine cVim (As := [.int a2, .int a1, .int v_1022]) (rest := []) ⟨hx, hb, hml, hown, hw0⟩ hA hK hP hD hS [true, true] (sX10_owesAlready l G y _ ob a2 a1 v_1022 ob_thrown ob_world ob_images ob_hasImage ob_tape ob_taped ob_five ob_size ob_at ob_from ob_token ob_value ob_faultKind ob_faultPlace ob_fresh ob_parts ob_houses ob_houseMany ob_worthOf ob_byCall ob_over ob_bestSet ob_bestOver ob_bestWorth ob_row ob_tenDebts ob_tenMany ob_fewestBy ob_covered ob_queue ob_cameBy ob_parent ob_met ob_calls ob_callMany ob_calledOn ob_saved ob_many ob_width ob_numbers ob_moving fob_world p_fob_world p_ob_taped p_ob_size p_ob_at p_ob_from p_ob_token p_ob_value p_ob_faultKind p_ob_houseMany p_ob_bestSet p_ob_bestOver p_ob_tenMany p_ob_callMany) rfl ⟨(callB_of 3 hw0 (gA m_586) rfl rfl rfl (hw0 _ m_41) (hw0 _ m_499) cb_X10_owesAlready ⟨Nat.le_of_ble_eq_true rfl, Nat.le_of_ble_eq_true rfl⟩), (hw0 _ m_500), (hw0 _ m_501)⟩ (ci := 10) (q := (RX10, TX10, 41)) rfl rfl rfl hl.1 (Nat.le_of_ble_eq_true rfl) dX10_owes_68 ⟨Nat.le_of_ble_eq_true rfl, Nat.le_of_ble_eq_true rfl⟩ (fun r_1023 w_1023 H locs hw_1023 hP hD hS => ?_)
            rcases hw_1023 with ⟨rfl, rfl⟩ | ⟨h_1024, h_1025, rfl, rfl⟩
            · skip
              obtain ⟨hP, hD⟩ : vPD G A H [(ce_X10 ob ob_thrown ob_world ob_images ob_hasImage ob_tape ob_taped ob_five ob_size ob_at ob_from ob_token ob_value ob_faultKind ob_faultPlace ob_fresh ob_parts ob_houses ob_houseMany ob_worthOf ob_byCall ob_over ob_bestSet ob_bestOver ob_bestWorth ob_row ob_tenDebts ob_tenMany ob_fewestBy ob_covered ob_queue ob_cameBy ob_parent ob_met ob_calls ob_callMany ob_calledOn ob_saved ob_many ob_width ob_numbers ob_moving), (ce_i9080 y ob_world fob_world), (ce_i6 y ob_parts f_1017)] := ⟨hP, hD⟩
              refine lv_if_eq (tgt := 78) hx hb dX10_owes_71 (by decide) (fun _ => ?_) (fun c9 => absurd (by decide) c9)
              refine lv_iload hx hb dX10_owes_78 (lv_at hl 0 rfl) ?_
              exact W.iret (v := v_1022) hx hb hr (fun t ht hW => ⟨⟨v_1022, _, rfl, ⟨v_1022, f_1017, rfl, rfl⟩, by rw [ht]; exact hP, hD⟩, hS.F ht⟩) hS.2.2 dX10_owes_80
            · skip
              obtain ⟨hP, hD⟩ : vPD G A H [(ce_X10 ob ob_thrown ob_world ob_images ob_hasImage ob_tape ob_taped ob_five ob_size ob_at ob_from ob_token ob_value ob_faultKind ob_faultPlace ob_fresh ob_parts ob_houses ob_houseMany ob_worthOf ob_byCall ob_over ob_bestSet ob_bestOver ob_bestWorth ob_row ob_tenDebts ob_tenMany ob_fewestBy ob_covered ob_queue ob_cameBy ob_parent ob_met ob_calls ob_callMany ob_calledOn ob_saved ob_many ob_width ob_numbers ob_moving), (ce_i9080 y ob_world fob_world), (ce_i6 y ob_parts f_1017)] := ⟨hP, hD⟩
              refine lv_if_eq (tgt := 78) hx hb dX10_owes_71 (by decide) (fun c9 => absurd c9 (by decide)) (fun _ => ?_)
              refine lv_iconst (v := (-1)) hx hb dX10_owes_74 (by decide) ?_
              refine lv_goto (tgt := 80) hx hb dX10_owes_75 (by decide) ?_
              exact W.iret (v := (-1)) hx hb hr (fun t ht hW => ⟨⟨(-1), _, rfl, ⟨(-1), f_1017, rfl, rfl⟩, by rw [ht]; exact hP, hD⟩, hS.F ht⟩) hS.2.2 dX10_owes_80
          · skip
            have nc_1018 := nb_eq (-1) (-1) c_1018 bv_1016 (bkc (x := (-1)) (c := -1) (by decide)) (by decide)
            refine lv_iconst (v := (-1)) hx hb dX10_owes_44 (by decide) ?_
            exact W.iret (v := (-1)) hx hb hr (fun t ht hW => ⟨⟨(-1), _, rfl, ⟨(-1), f_1017, rfl, rfl⟩, by rw [ht]; exact hP, hD⟩, hS.F ht⟩) hS.2.2 dX10_owes_45
        · skip
          obtain ⟨hP, hD⟩ : vPD G A H [(ce_X10 ob ob_thrown ob_world ob_images ob_hasImage ob_tape ob_taped ob_five ob_size ob_at ob_from ob_token ob_value ob_faultKind ob_faultPlace ob_fresh ob_parts ob_houses ob_houseMany ob_worthOf ob_byCall ob_over ob_bestSet ob_bestOver ob_bestWorth ob_row ob_tenDebts ob_tenMany ob_fewestBy ob_covered ob_queue ob_cameBy ob_parent ob_met ob_calls ob_callMany ob_calledOn ob_saved ob_many ob_width ob_numbers ob_moving), (ce_i9080 y ob_world fob_world), (ce_i6 y ob_parts fob_parts)] := ⟨hP, hD⟩
          refine lv_aload_n hx hb dX10_owes_29 rfl (lv_at hl 0 rfl) ?_
          refine cVim (As := []) (rest := [.int 1, .int a3, .int a2, .int a1, .ref ob]) ⟨hx, hb, hml, hown, hw0⟩ hA hK hP hD hS [true, true] (sX10_today l G y _ ob ob_thrown ob_world ob_images ob_hasImage ob_tape ob_taped ob_five ob_size ob_at ob_from ob_token ob_value ob_faultKind ob_faultPlace ob_fresh ob_parts ob_houses ob_houseMany ob_worthOf ob_byCall ob_over ob_bestSet ob_bestOver ob_bestWorth ob_row ob_tenDebts ob_tenMany ob_fewestBy ob_covered ob_queue ob_cameBy ob_parent ob_met ob_calls ob_callMany ob_calledOn ob_saved ob_many ob_width ob_numbers ob_moving fob_world p_fob_world p_ob_taped p_ob_size p_ob_at p_ob_from p_ob_token p_ob_value p_ob_faultKind p_ob_houseMany p_ob_bestSet p_ob_bestOver p_ob_tenMany p_ob_callMany) rfl ⟨(callB_of 0 hw0 (gA m_689) rfl rfl rfl (hw0 _ m_41) (hw0 _ m_373) cb_X10_today ⟨Nat.le_of_ble_eq_true rfl, Nat.le_of_ble_eq_true rfl⟩), (hw0 _ m_374), (hw0 _ m_375)⟩ (ci := 10) (q := (RX10, TX10, 41)) rfl rfl rfl hl.1 (Nat.le_of_ble_eq_true rfl) dX10_owes_30 ⟨Nat.le_of_ble_eq_true rfl, Nat.le_of_ble_eq_true rfl⟩ (fun r_1026 w_1026 H locs hw_1026 hP hD hS => ?_)
          obtain ⟨v_1027, bv_1027, h_1028, er_1026, rfl⟩ := hw_1026
          subst r_1026
          obtain ⟨hP, hD⟩ : vPD G A H [(ce_X10 ob ob_thrown ob_world ob_images ob_hasImage ob_tape ob_taped ob_five ob_size ob_at ob_from ob_token ob_value ob_faultKind ob_faultPlace ob_fresh ob_parts ob_houses ob_houseMany ob_worthOf ob_byCall ob_over ob_bestSet ob_bestOver ob_bestWorth ob_row ob_tenDebts ob_tenMany ob_fewestBy ob_covered ob_queue ob_cameBy ob_parent ob_met ob_calls ob_callMany ob_calledOn ob_saved ob_many ob_width ob_numbers ob_moving), (ce_i9080 y ob_world fob_world), (ce_i6 y ob_parts fob_parts)] := ⟨hP, hD⟩
          refine cVim (As := [.int a1, .int a2, .int a3, .int 1, .int v_1027]) (rest := []) ⟨hx, hb, hml, hown, hw0⟩ hA hK hP hD hS [true, true, true] (sX10_lineFor l G y _ ob a1 a2 a3 1 v_1027 ob_thrown ob_world ob_images ob_hasImage ob_tape ob_taped ob_five ob_size ob_at ob_from ob_token ob_value ob_faultKind ob_faultPlace ob_fresh ob_parts ob_houses ob_houseMany ob_worthOf ob_byCall ob_over ob_bestSet ob_bestOver ob_bestWorth ob_row ob_tenDebts ob_tenMany ob_fewestBy ob_covered ob_queue ob_cameBy ob_parent ob_met ob_calls ob_callMany ob_calledOn ob_saved ob_many ob_width ob_numbers ob_moving fob_world fob_parts p_fob_world p_ob_taped p_ob_size p_ob_at p_ob_from p_ob_token p_ob_value p_ob_faultKind p_ob_houseMany p_ob_bestSet p_ob_bestOver p_ob_tenMany p_ob_callMany h_1007 h_1008 (bw (0) (1) (bkc (x := 1) (c := 1) (by decide)) (by decide))) rfl ⟨(callB_of 5 hw0 (gA m_547) rfl rfl rfl (hw0 _ m_41) (hw0 _ m_496) cb_X10_lineFor ⟨Nat.le_of_ble_eq_true rfl, Nat.le_of_ble_eq_true rfl⟩), (hw0 _ m_497), (hw0 _ m_498)⟩ (ci := 10) (q := (RX10, TX10, 41)) rfl rfl rfl hl.1 (Nat.le_of_ble_eq_true rfl) dX10_owes_33 ⟨Nat.le_of_ble_eq_true rfl, Nat.le_of_ble_eq_true rfl⟩ (fun r_1029 w_1029 H locs hw_1029 hP hD hS => ?_)
          obtain ⟨v_1030, f_1031, bv_1030, er_1029, rfl⟩ := hw_1029
          subst r_1029
          obtain ⟨hP, hD⟩ : vPD G A H [(ce_X10 ob ob_thrown ob_world ob_images ob_hasImage ob_tape ob_taped ob_five ob_size ob_at ob_from ob_token ob_value ob_faultKind ob_faultPlace ob_fresh ob_parts ob_houses ob_houseMany ob_worthOf ob_byCall ob_over ob_bestSet ob_bestOver ob_bestWorth ob_row ob_tenDebts ob_tenMany ob_fewestBy ob_covered ob_queue ob_cameBy ob_parent ob_met ob_calls ob_callMany ob_calledOn ob_saved ob_many ob_width ob_numbers ob_moving), (ce_i9080 y ob_world fob_world), (ce_i6 y ob_parts f_1031)] := ⟨hP, hD⟩
          refine lv_istore (lv' := [(4, .int v_1030), (0, .ref ob), (1, .int a1), (2, .int a2), (3, .int a3)]) hx hb dX10_owes_36 hl (by decide) rfl (fun ls hl => ?_)
          refine lv_iload hx hb dX10_owes_38 (lv_at hl 0 rfl) ?_
          refine lv_iconst (v := (-1)) hx hb dX10_owes_40 (by decide) ?_
          refine lv_icmp_ne (tgt := 46) hx hb dX10_owes_41 (by decide) (fun c_1032 => ?_) (fun c_1032 => ?_)
          · skip
            have nc_1032 := nb_ne (0) (23) c_1032 bv_1030 (k := -1) (by decide) (by decide)
            refine lv_aload_n hx hb dX10_owes_46 rfl (lv_at hl 1 rfl) ?_
            refine va_get (D := G) (ci := 10) (v := .ref ob_world) (C := RX10) (T := TX10) (N := 41) hx hb hw0 inA_wsX100 hown hK.1 hP 0 rfl rfl 1 (by decide) (hw0 _ m_352) (fun _ h9 => h9) rfl dX10_owes_47 ?_
            refine lv_sipush (v := 154) hx hb dX10_owes_50 (by decide) ?_
            refine lv_iconst (v := 5) hx hb dX10_owes_53 (by decide) ?_
            refine lv_iload hx hb dX10_owes_54 (lv_at hl 0 rfl) ?_
            refine lv_imul hx hb dX10_owes_56 ?_
            refine lv_topi (fun v_1033 ev_1033 => ?_)
            have qv_1033 := ba_mul 5 (ev_1033.trans (Int32.mul_comm _ _)) nc_1032.1 (by decide) (by decide) (by decide)
            have bv_1033 : (0 : Int) ≤ v_1033.toInt ∧ v_1033.toInt ≤ 115 := qv_1033.2
            refine lv_iadd hx hb dX10_owes_57 ?_
            refine lv_topi (fun v_1034 ev_1034 => ?_)
            have qv_1034 := ba_add ev_1034 (bkc (x := 154) (c := 154) (by decide)) bv_1033 (by decide)
            have bv_1034 : (154 : Int) ≤ v_1034.toInt ∧ v_1034.toInt ≤ 269 := bq_add qv_1034 (bkc (x := 154) (c := 154) (by decide)) bv_1033 _ _ (by decide)
            have qv_1034 : v_1034.toInt = (154) + v_1033.toInt := qv_1034
            refine lv_iconst (v := 1) hx hb dX10_owes_58 (by decide) ?_
            refine lv_iadd hx hb dX10_owes_59 ?_
            refine lv_topi (fun v_1035 ev_1035 => ?_)
            have qv_1035 := ba_add ev_1035 bv_1034 (bkc (x := 1) (c := 1) (by decide)) (by decide)
            have bv_1035 : (155 : Int) ≤ v_1035.toInt ∧ v_1035.toInt ≤ 270 := bq_add qv_1035 bv_1034 (bkc (x := 1) (c := 1) (by decide)) _ _ (by decide)
            have qv_1035 : v_1035.toInt = v_1034.toInt + (1) := qv_1035
            refine va_iald hx hb hK.1 hP 1 1 rfl rfl (vi bv_1035 (by decide)) dX10_owes_60 ?_
            refine lv_topi (fun v_1036 ev_1036 => ?_)
            refine lv_istore (lv' := [(5, .int v_1036), (4, .int v_1030), (0, .ref ob), (1, .int a1), (2, .int a2), (3, .int a3)]) hx hb dX10_owes_61 hl (by decide) rfl (fun ls hl => ?_)
            refine lv_aload_n hx hb dX10_owes_63 rfl (lv_at hl 2 rfl) ?_
            refine lv_iload_n hx hb dX10_owes_64 rfl (lv_at hl 4 rfl) ?_
            refine lv_iload_n hx hb dX10_owes_65 rfl (lv_at hl 3 rfl) ?_
            refine lv_iload hx hb dX10_owes_66 (lv_at hl 0 rfl) ?_
            refine cVim (As := [.int a2, .int a1, .int v_1036]) (rest := []) ⟨hx, hb, hml, hown, hw0⟩ hA hK hP hD hS [true, true] (sX10_owesAlready l G y _ ob a2 a1 v_1036 ob_thrown ob_world ob_images ob_hasImage ob_tape ob_taped ob_five ob_size ob_at ob_from ob_token ob_value ob_faultKind ob_faultPlace ob_fresh ob_parts ob_houses ob_houseMany ob_worthOf ob_byCall ob_over ob_bestSet ob_bestOver ob_bestWorth ob_row ob_tenDebts ob_tenMany ob_fewestBy ob_covered ob_queue ob_cameBy ob_parent ob_met ob_calls ob_callMany ob_calledOn ob_saved ob_many ob_width ob_numbers ob_moving fob_world p_fob_world p_ob_taped p_ob_size p_ob_at p_ob_from p_ob_token p_ob_value p_ob_faultKind p_ob_houseMany p_ob_bestSet p_ob_bestOver p_ob_tenMany p_ob_callMany) rfl ⟨(callB_of 3 hw0 (gA m_586) rfl rfl rfl (hw0 _ m_41) (hw0 _ m_499) cb_X10_owesAlready ⟨Nat.le_of_ble_eq_true rfl, Nat.le_of_ble_eq_true rfl⟩), (hw0 _ m_500), (hw0 _ m_501)⟩ (ci := 10) (q := (RX10, TX10, 41)) rfl rfl rfl hl.1 (Nat.le_of_ble_eq_true rfl) dX10_owes_68 ⟨Nat.le_of_ble_eq_true rfl, Nat.le_of_ble_eq_true rfl⟩ (fun r_1037 w_1037 H locs hw_1037 hP hD hS => ?_)
            rcases hw_1037 with ⟨rfl, rfl⟩ | ⟨h_1038, h_1039, rfl, rfl⟩
            · skip
              obtain ⟨hP, hD⟩ : vPD G A H [(ce_X10 ob ob_thrown ob_world ob_images ob_hasImage ob_tape ob_taped ob_five ob_size ob_at ob_from ob_token ob_value ob_faultKind ob_faultPlace ob_fresh ob_parts ob_houses ob_houseMany ob_worthOf ob_byCall ob_over ob_bestSet ob_bestOver ob_bestWorth ob_row ob_tenDebts ob_tenMany ob_fewestBy ob_covered ob_queue ob_cameBy ob_parent ob_met ob_calls ob_callMany ob_calledOn ob_saved ob_many ob_width ob_numbers ob_moving), (ce_i9080 y ob_world fob_world), (ce_i6 y ob_parts f_1031)] := ⟨hP, hD⟩
              refine lv_if_eq (tgt := 78) hx hb dX10_owes_71 (by decide) (fun _ => ?_) (fun c9 => absurd (by decide) c9)
              refine lv_iload hx hb dX10_owes_78 (lv_at hl 0 rfl) ?_
              exact W.iret (v := v_1036) hx hb hr (fun t ht hW => ⟨⟨v_1036, _, rfl, ⟨v_1036, f_1031, rfl, rfl⟩, by rw [ht]; exact hP, hD⟩, hS.F ht⟩) hS.2.2 dX10_owes_80
            · skip
              obtain ⟨hP, hD⟩ : vPD G A H [(ce_X10 ob ob_thrown ob_world ob_images ob_hasImage ob_tape ob_taped ob_five ob_size ob_at ob_from ob_token ob_value ob_faultKind ob_faultPlace ob_fresh ob_parts ob_houses ob_houseMany ob_worthOf ob_byCall ob_over ob_bestSet ob_bestOver ob_bestWorth ob_row ob_tenDebts ob_tenMany ob_fewestBy ob_covered ob_queue ob_cameBy ob_parent ob_met ob_calls ob_callMany ob_calledOn ob_saved ob_many ob_width ob_numbers ob_moving), (ce_i9080 y ob_world fob_world), (ce_i6 y ob_parts f_1031)] := ⟨hP, hD⟩
              refine lv_if_eq (tgt := 78) hx hb dX10_owes_71 (by decide) (fun c9 => absurd c9 (by decide)) (fun _ => ?_)
              refine lv_iconst (v := (-1)) hx hb dX10_owes_74 (by decide) ?_
              refine lv_goto (tgt := 80) hx hb dX10_owes_75 (by decide) ?_
              exact W.iret (v := (-1)) hx hb hr (fun t ht hW => ⟨⟨(-1), _, rfl, ⟨(-1), f_1031, rfl, rfl⟩, by rw [ht]; exact hP, hD⟩, hS.F ht⟩) hS.2.2 dX10_owes_80
          · skip
            have nc_1032 := nb_eq (-1) (-1) c_1032 bv_1030 (bkc (x := (-1)) (c := -1) (by decide)) (by decide)
            refine lv_iconst (v := (-1)) hx hb dX10_owes_44 (by decide) ?_
            exact W.iret (v := (-1)) hx hb hr (fun t ht hW => ⟨⟨(-1), _, rfl, ⟨(-1), f_1031, rfl, rfl⟩, by rw [ht]; exact hP, hD⟩, hS.F ht⟩) hS.2.2 dX10_owes_45
